theorem dwX0_init_0 : dkW cX0_init 0 [42, 183, 0, 3, 42, 16, 12, 189, 0, 9, 181, 0, 11, 42] = true := by decide +kernel
theorem dX0_init_0 : decode cX0_init 0 = .ok (.aload_n 0, 1) := dko_42 dwX0_init_0
theorem dX0_init_1 : decode cX0_init 1 = .ok (.invokespecial 3, 3) := dko_183 (dk_t 1 1 [183, 0, 3, 42, 16, 12, 189, 0, 9, 181, 0, 11, 42] dwX0_init_0 rfl rfl)
theorem dX0_init_4 : decode cX0_init 4 = .ok (.aload_n 0, 1) := dko_42 (dk_t 4 4 [42, 16, 12, 189, 0, 9, 181, 0, 11, 42] dwX0_init_0 rfl rfl)
theorem dX0_init_5 : decode cX0_init 5 = .ok (.bipush 12, 2) := dko_16 (dk_t 5 5 [16, 12, 189, 0, 9, 181, 0, 11, 42] dwX0_init_0 rfl rfl)
theorem dX0_init_7 : decode cX0_init 7 = .ok (.anewarray 9, 3) := dko_189 (dk_t 7 7 [189, 0, 9, 181, 0, 11, 42] dwX0_init_0 rfl rfl)
theorem dX0_init_10 : decode cX0_init 10 = .ok (.putfield 11, 3) := dko_181 (dk_t 10 10 [181, 0, 11, 42] dwX0_init_0 rfl rfl)
theorem dX0_init_13 : decode cX0_init 13 = .ok (.aload_n 0, 1) := dko_42 (dk_t 13 13 [42] dwX0_init_0 rfl rfl)
theorem dwX0_init_14 : dkW cX0_init 14 [16, 12, 189, 0, 9, 181, 0, 17, 177] = true := by decide +kernel
theorem dX0_init_14 : decode cX0_init 14 = .ok (.bipush 12, 2) := dko_16 dwX0_init_14
theorem dX0_init_16 : decode cX0_init 16 = .ok (.anewarray 9, 3) := dko_189 (dk_t 2 16 [189, 0, 9, 181, 0, 17, 177] dwX0_init_14 rfl rfl)
theorem dX0_init_19 : decode cX0_init 19 = .ok (.putfield 17, 3) := dko_181 (dk_t 5 19 [181, 0, 17, 177] dwX0_init_14 rfl rfl)
theorem dX0_init_22 : decode cX0_init 22 = .ok (.return_, 1) := dko_177 (dk_t 8 22 [177] dwX0_init_14 rfl rfl)
theorem dwX0_size_0 : dkW cX0_size 0 [42, 180, 0, 20, 172] = true := by decide +kernel
theorem dX0_size_0 : decode cX0_size 0 = .ok (.aload_n 0, 1) := dko_42 dwX0_size_0
theorem dX0_size_1 : decode cX0_size 1 = .ok (.getfield 20, 3) := dko_180 (dk_t 1 1 [180, 0, 20, 172] dwX0_size_0 rfl rfl)
theorem dX0_size_4 : decode cX0_size 4 = .ok (.ireturn, 1) := dko_172 (dk_t 4 4 [172] dwX0_size_0 rfl rfl)
theorem dwX0_get_0 : dkW cX0_get 0 [27, 155, 0, 18, 27, 16, 12, 162, 0, 12, 42, 180, 0, 11] = true := by decide +kernel
theorem dX0_get_0 : decode cX0_get 0 = .ok (.iload_n 1, 1) := dko_27 dwX0_get_0
theorem dX0_get_1 : decode cX0_get 1 = .ok (.ifCond .lt 18, 3) := dko_155 (dk_t 1 1 [155, 0, 18, 27, 16, 12, 162, 0, 12, 42, 180, 0, 11] dwX0_get_0 rfl rfl)
theorem dX0_get_4 : decode cX0_get 4 = .ok (.iload_n 1, 1) := dko_27 (dk_t 4 4 [27, 16, 12, 162, 0, 12, 42, 180, 0, 11] dwX0_get_0 rfl rfl)
theorem dX0_get_5 : decode cX0_get 5 = .ok (.bipush 12, 2) := dko_16 (dk_t 5 5 [16, 12, 162, 0, 12, 42, 180, 0, 11] dwX0_get_0 rfl rfl)
theorem dX0_get_7 : decode cX0_get 7 = .ok (.if_icmp .ge 12, 3) := dko_162 (dk_t 7 7 [162, 0, 12, 42, 180, 0, 11] dwX0_get_0 rfl rfl)
theorem dX0_get_10 : decode cX0_get 10 = .ok (.aload_n 0, 1) := dko_42 (dk_t 10 10 [42, 180, 0, 11] dwX0_get_0 rfl rfl)
theorem dX0_get_11 : decode cX0_get 11 = .ok (.getfield 11, 3) := dko_180 (dk_t 11 11 [180, 0, 11] dwX0_get_0 rfl rfl)
theorem dwX0_get_14 : dkW cX0_get 14 [27, 50, 167, 0, 4, 1, 176] = true := by decide +kernel
theorem dX0_get_14 : decode cX0_get 14 = .ok (.iload_n 1, 1) := dko_27 dwX0_get_14
theorem dX0_get_15 : decode cX0_get 15 = .ok (.aaload, 1) := dko_50 (dk_t 1 15 [50, 167, 0, 4, 1, 176] dwX0_get_14 rfl rfl)
theorem dX0_get_16 : decode cX0_get 16 = .ok (.goto 4, 3) := dko_167 (dk_t 2 16 [167, 0, 4, 1, 176] dwX0_get_14 rfl rfl)
theorem dX0_get_19 : decode cX0_get 19 = .ok (.aconst_null, 1) := dko_1 (dk_t 5 19 [1, 176] dwX0_get_14 rfl rfl)
theorem dX0_get_20 : decode cX0_get 20 = .ok (.areturn, 1) := dko_176 (dk_t 6 20 [176] dwX0_get_14 rfl rfl)
theorem dwX0_inOrder_0 : dkW cX0_inOrder 0 [27, 155, 0, 26, 27, 42, 180, 0, 20, 162, 0, 18, 27] = true := by decide +kernel
theorem dX0_inOrder_0 : decode cX0_inOrder 0 = .ok (.iload_n 1, 1) := dko_27 dwX0_inOrder_0
theorem dX0_inOrder_1 : decode cX0_inOrder 1 = .ok (.ifCond .lt 26, 3) := dko_155 (dk_t 1 1 [155, 0, 26, 27, 42, 180, 0, 20, 162, 0, 18, 27] dwX0_inOrder_0 rfl rfl)
theorem dX0_inOrder_4 : decode cX0_inOrder 4 = .ok (.iload_n 1, 1) := dko_27 (dk_t 4 4 [27, 42, 180, 0, 20, 162, 0, 18, 27] dwX0_inOrder_0 rfl rfl)
theorem dX0_inOrder_5 : decode cX0_inOrder 5 = .ok (.aload_n 0, 1) := dko_42 (dk_t 5 5 [42, 180, 0, 20, 162, 0, 18, 27] dwX0_inOrder_0 rfl rfl)
theorem dX0_inOrder_6 : decode cX0_inOrder 6 = .ok (.getfield 20, 3) := dko_180 (dk_t 6 6 [180, 0, 20, 162, 0, 18, 27] dwX0_inOrder_0 rfl rfl)
theorem dX0_inOrder_9 : decode cX0_inOrder 9 = .ok (.if_icmp .ge 18, 3) := dko_162 (dk_t 9 9 [162, 0, 18, 27] dwX0_inOrder_0 rfl rfl)
theorem dX0_inOrder_12 : decode cX0_inOrder 12 = .ok (.iload_n 1, 1) := dko_27 (dk_t 12 12 [27] dwX0_inOrder_0 rfl rfl)
theorem dwX0_inOrder_13 : dkW cX0_inOrder 13 [16, 12, 162, 0, 12, 42, 180, 0, 17, 27, 50, 167, 0, 4] = true := by decide +kernel
theorem dX0_inOrder_13 : decode cX0_inOrder 13 = .ok (.bipush 12, 2) := dko_16 dwX0_inOrder_13
theorem dX0_inOrder_15 : decode cX0_inOrder 15 = .ok (.if_icmp .ge 12, 3) := dko_162 (dk_t 2 15 [162, 0, 12, 42, 180, 0, 17, 27, 50, 167, 0, 4] dwX0_inOrder_13 rfl rfl)
theorem dX0_inOrder_18 : decode cX0_inOrder 18 = .ok (.aload_n 0, 1) := dko_42 (dk_t 5 18 [42, 180, 0, 17, 27, 50, 167, 0, 4] dwX0_inOrder_13 rfl rfl)
theorem dX0_inOrder_19 : decode cX0_inOrder 19 = .ok (.getfield 17, 3) := dko_180 (dk_t 6 19 [180, 0, 17, 27, 50, 167, 0, 4] dwX0_inOrder_13 rfl rfl)
theorem dX0_inOrder_22 : decode cX0_inOrder 22 = .ok (.iload_n 1, 1) := dko_27 (dk_t 9 22 [27, 50, 167, 0, 4] dwX0_inOrder_13 rfl rfl)
theorem dX0_inOrder_23 : decode cX0_inOrder 23 = .ok (.aaload, 1) := dko_50 (dk_t 10 23 [50, 167, 0, 4] dwX0_inOrder_13 rfl rfl)
theorem dX0_inOrder_24 : decode cX0_inOrder 24 = .ok (.goto 4, 3) := dko_167 (dk_t 11 24 [167, 0, 4] dwX0_inOrder_13 rfl rfl)
theorem dwX0_inOrder_27 : dkW cX0_inOrder 27 [1, 176] = true := by decide +kernel
theorem dX0_inOrder_27 : decode cX0_inOrder 27 = .ok (.aconst_null, 1) := dko_1 dwX0_inOrder_27
theorem dX0_inOrder_28 : decode cX0_inOrder 28 = .ok (.areturn, 1) := dko_176 (dk_t 1 28 [176] dwX0_inOrder_27 rfl rfl)
theorem dwX0_leastFree_0 : dkW cX0_leastFree 0 [3, 60, 27, 16, 12, 162, 0, 20, 42, 180, 0, 11, 27, 50] = true := by decide +kernel
theorem dX0_leastFree_0 : decode cX0_leastFree 0 = .ok (.iconst 0, 1) := dko_3 dwX0_leastFree_0
theorem dX0_leastFree_1 : decode cX0_leastFree 1 = .ok (.istore_n 1, 1) := dko_60 (dk_t 1 1 [60, 27, 16, 12, 162, 0, 20, 42, 180, 0, 11, 27, 50] dwX0_leastFree_0 rfl rfl)
theorem dX0_leastFree_2 : decode cX0_leastFree 2 = .ok (.iload_n 1, 1) := dko_27 (dk_t 2 2 [27, 16, 12, 162, 0, 20, 42, 180, 0, 11, 27, 50] dwX0_leastFree_0 rfl rfl)
theorem dX0_leastFree_3 : decode cX0_leastFree 3 = .ok (.bipush 12, 2) := dko_16 (dk_t 3 3 [16, 12, 162, 0, 20, 42, 180, 0, 11, 27, 50] dwX0_leastFree_0 rfl rfl)
theorem dX0_leastFree_5 : decode cX0_leastFree 5 = .ok (.if_icmp .ge 20, 3) := dko_162 (dk_t 5 5 [162, 0, 20, 42, 180, 0, 11, 27, 50] dwX0_leastFree_0 rfl rfl)
theorem dX0_leastFree_8 : decode cX0_leastFree 8 = .ok (.aload_n 0, 1) := dko_42 (dk_t 8 8 [42, 180, 0, 11, 27, 50] dwX0_leastFree_0 rfl rfl)
theorem dX0_leastFree_9 : decode cX0_leastFree 9 = .ok (.getfield 11, 3) := dko_180 (dk_t 9 9 [180, 0, 11, 27, 50] dwX0_leastFree_0 rfl rfl)
theorem dX0_leastFree_12 : decode cX0_leastFree 12 = .ok (.iload_n 1, 1) := dko_27 (dk_t 12 12 [27, 50] dwX0_leastFree_0 rfl rfl)
theorem dX0_leastFree_13 : decode cX0_leastFree 13 = .ok (.aaload, 1) := dko_50 (dk_t 13 13 [50] dwX0_leastFree_0 rfl rfl)
theorem dwX0_leastFree_14 : dkW cX0_leastFree 14 [199, 0, 5, 27, 172, 132, 1, 1, 167, 255, 236, 2, 172] = true := by decide +kernel
theorem dX0_leastFree_14 : decode cX0_leastFree 14 = .ok (.ifnonnull 5, 3) := dko_199 dwX0_leastFree_14
theorem dX0_leastFree_17 : decode cX0_leastFree 17 = .ok (.iload_n 1, 1) := dko_27 (dk_t 3 17 [27, 172, 132, 1, 1, 167, 255, 236, 2, 172] dwX0_leastFree_14 rfl rfl)
theorem dX0_leastFree_18 : decode cX0_leastFree 18 = .ok (.ireturn, 1) := dko_172 (dk_t 4 18 [172, 132, 1, 1, 167, 255, 236, 2, 172] dwX0_leastFree_14 rfl rfl)
theorem dX0_leastFree_19 : decode cX0_leastFree 19 = .ok (.iinc 1 1, 3) := dko_132 (dk_t 5 19 [132, 1, 1, 167, 255, 236, 2, 172] dwX0_leastFree_14 rfl rfl)
theorem dX0_leastFree_22 : decode cX0_leastFree 22 = .ok (.goto (-20), 3) := dko_167 (dk_t 8 22 [167, 255, 236, 2, 172] dwX0_leastFree_14 rfl rfl)
theorem dX0_leastFree_25 : decode cX0_leastFree 25 = .ok (.iconst (-1), 1) := dko_2 (dk_t 11 25 [2, 172] dwX0_leastFree_14 rfl rfl)
theorem dX0_leastFree_26 : decode cX0_leastFree 26 = .ok (.ireturn, 1) := dko_172 (dk_t 12 26 [172] dwX0_leastFree_14 rfl rfl)
theorem dwX0_lateOnes_0 : dkW cX0_lateOnes 0 [3, 60, 3, 61, 28, 16, 12, 162, 0, 30, 42, 180, 0, 11] = true := by decide +kernel
theorem dX0_lateOnes_0 : decode cX0_lateOnes 0 = .ok (.iconst 0, 1) := dko_3 dwX0_lateOnes_0
theorem dX0_lateOnes_1 : decode cX0_lateOnes 1 = .ok (.istore_n 1, 1) := dko_60 (dk_t 1 1 [60, 3, 61, 28, 16, 12, 162, 0, 30, 42, 180, 0, 11] dwX0_lateOnes_0 rfl rfl)
theorem dX0_lateOnes_2 : decode cX0_lateOnes 2 = .ok (.iconst 0, 1) := dko_3 (dk_t 2 2 [3, 61, 28, 16, 12, 162, 0, 30, 42, 180, 0, 11] dwX0_lateOnes_0 rfl rfl)
theorem dX0_lateOnes_3 : decode cX0_lateOnes 3 = .ok (.istore_n 2, 1) := dko_61 (dk_t 3 3 [61, 28, 16, 12, 162, 0, 30, 42, 180, 0, 11] dwX0_lateOnes_0 rfl rfl)
theorem dX0_lateOnes_4 : decode cX0_lateOnes 4 = .ok (.iload_n 2, 1) := dko_28 (dk_t 4 4 [28, 16, 12, 162, 0, 30, 42, 180, 0, 11] dwX0_lateOnes_0 rfl rfl)
theorem dX0_lateOnes_5 : decode cX0_lateOnes 5 = .ok (.bipush 12, 2) := dko_16 (dk_t 5 5 [16, 12, 162, 0, 30, 42, 180, 0, 11] dwX0_lateOnes_0 rfl rfl)
theorem dX0_lateOnes_7 : decode cX0_lateOnes 7 = .ok (.if_icmp .ge 30, 3) := dko_162 (dk_t 7 7 [162, 0, 30, 42, 180, 0, 11] dwX0_lateOnes_0 rfl rfl)
theorem dX0_lateOnes_10 : decode cX0_lateOnes 10 = .ok (.aload_n 0, 1) := dko_42 (dk_t 10 10 [42, 180, 0, 11] dwX0_lateOnes_0 rfl rfl)
theorem dX0_lateOnes_11 : decode cX0_lateOnes 11 = .ok (.getfield 11, 3) := dko_180 (dk_t 11 11 [180, 0, 11] dwX0_lateOnes_0 rfl rfl)
theorem dwX0_lateOnes_14 : dkW cX0_lateOnes 14 [28, 50, 78, 45, 198, 0, 13, 45, 180, 0, 24, 153, 0, 6] = true := by decide +kernel
theorem dX0_lateOnes_14 : decode cX0_lateOnes 14 = .ok (.iload_n 2, 1) := dko_28 dwX0_lateOnes_14
theorem dX0_lateOnes_15 : decode cX0_lateOnes 15 = .ok (.aaload, 1) := dko_50 (dk_t 1 15 [50, 78, 45, 198, 0, 13, 45, 180, 0, 24, 153, 0, 6] dwX0_lateOnes_14 rfl rfl)
theorem dX0_lateOnes_16 : decode cX0_lateOnes 16 = .ok (.astore_n 3, 1) := dko_78 (dk_t 2 16 [78, 45, 198, 0, 13, 45, 180, 0, 24, 153, 0, 6] dwX0_lateOnes_14 rfl rfl)
theorem dX0_lateOnes_17 : decode cX0_lateOnes 17 = .ok (.aload_n 3, 1) := dko_45 (dk_t 3 17 [45, 198, 0, 13, 45, 180, 0, 24, 153, 0, 6] dwX0_lateOnes_14 rfl rfl)
theorem dX0_lateOnes_18 : decode cX0_lateOnes 18 = .ok (.ifnull 13, 3) := dko_198 (dk_t 4 18 [198, 0, 13, 45, 180, 0, 24, 153, 0, 6] dwX0_lateOnes_14 rfl rfl)
theorem dX0_lateOnes_21 : decode cX0_lateOnes 21 = .ok (.aload_n 3, 1) := dko_45 (dk_t 7 21 [45, 180, 0, 24, 153, 0, 6] dwX0_lateOnes_14 rfl rfl)
theorem dX0_lateOnes_22 : decode cX0_lateOnes 22 = .ok (.getfield 24, 3) := dko_180 (dk_t 8 22 [180, 0, 24, 153, 0, 6] dwX0_lateOnes_14 rfl rfl)
theorem dX0_lateOnes_25 : decode cX0_lateOnes 25 = .ok (.ifCond .eq 6, 3) := dko_153 (dk_t 11 25 [153, 0, 6] dwX0_lateOnes_14 rfl rfl)
theorem dwX0_lateOnes_28 : dkW cX0_lateOnes 28 [132, 1, 1, 132, 2, 1, 167, 255, 226, 27, 172] = true := by decide +kernel
theorem dX0_lateOnes_28 : decode cX0_lateOnes 28 = .ok (.iinc 1 1, 3) := dko_132 dwX0_lateOnes_28
theorem dX0_lateOnes_31 : decode cX0_lateOnes 31 = .ok (.iinc 2 1, 3) := dko_132 (dk_t 3 31 [132, 2, 1, 167, 255, 226, 27, 172] dwX0_lateOnes_28 rfl rfl)
theorem dX0_lateOnes_34 : decode cX0_lateOnes 34 = .ok (.goto (-30), 3) := dko_167 (dk_t 6 34 [167, 255, 226, 27, 172] dwX0_lateOnes_28 rfl rfl)
theorem dX0_lateOnes_37 : decode cX0_lateOnes 37 = .ok (.iload_n 1, 1) := dko_27 (dk_t 9 37 [27, 172] dwX0_lateOnes_28 rfl rfl)
theorem dX0_lateOnes_38 : decode cX0_lateOnes 38 = .ok (.ireturn, 1) := dko_172 (dk_t 10 38 [172] dwX0_lateOnes_28 rfl rfl)
theorem dwX0_enter_0 : dkW cX0_enter 0 [43, 180, 0, 28, 155, 0, 26, 43, 180, 0, 28, 16, 12] = true := by decide +kernel
theorem dX0_enter_0 : decode cX0_enter 0 = .ok (.aload_n 1, 1) := dko_43 dwX0_enter_0
theorem dX0_enter_1 : decode cX0_enter 1 = .ok (.getfield 28, 3) := dko_180 (dk_t 1 1 [180, 0, 28, 155, 0, 26, 43, 180, 0, 28, 16, 12] dwX0_enter_0 rfl rfl)
theorem dX0_enter_4 : decode cX0_enter 4 = .ok (.ifCond .lt 26, 3) := dko_155 (dk_t 4 4 [155, 0, 26, 43, 180, 0, 28, 16, 12] dwX0_enter_0 rfl rfl)
theorem dX0_enter_7 : decode cX0_enter 7 = .ok (.aload_n 1, 1) := dko_43 (dk_t 7 7 [43, 180, 0, 28, 16, 12] dwX0_enter_0 rfl rfl)
theorem dX0_enter_8 : decode cX0_enter 8 = .ok (.getfield 28, 3) := dko_180 (dk_t 8 8 [180, 0, 28, 16, 12] dwX0_enter_0 rfl rfl)
theorem dX0_enter_11 : decode cX0_enter 11 = .ok (.bipush 12, 2) := dko_16 (dk_t 11 11 [16, 12] dwX0_enter_0 rfl rfl)
theorem dwX0_enter_13 : dkW cX0_enter 13 [162, 0, 17, 42, 180, 0, 11, 43, 180, 0, 28, 43, 83, 42] = true := by decide +kernel
theorem dX0_enter_13 : decode cX0_enter 13 = .ok (.if_icmp .ge 17, 3) := dko_162 dwX0_enter_13
theorem dX0_enter_16 : decode cX0_enter 16 = .ok (.aload_n 0, 1) := dko_42 (dk_t 3 16 [42, 180, 0, 11, 43, 180, 0, 28, 43, 83, 42] dwX0_enter_13 rfl rfl)
theorem dX0_enter_17 : decode cX0_enter 17 = .ok (.getfield 11, 3) := dko_180 (dk_t 4 17 [180, 0, 11, 43, 180, 0, 28, 43, 83, 42] dwX0_enter_13 rfl rfl)
theorem dX0_enter_20 : decode cX0_enter 20 = .ok (.aload_n 1, 1) := dko_43 (dk_t 7 20 [43, 180, 0, 28, 43, 83, 42] dwX0_enter_13 rfl rfl)
theorem dX0_enter_21 : decode cX0_enter 21 = .ok (.getfield 28, 3) := dko_180 (dk_t 8 21 [180, 0, 28, 43, 83, 42] dwX0_enter_13 rfl rfl)
theorem dX0_enter_24 : decode cX0_enter 24 = .ok (.aload_n 1, 1) := dko_43 (dk_t 11 24 [43, 83, 42] dwX0_enter_13 rfl rfl)
theorem dX0_enter_25 : decode cX0_enter 25 = .ok (.aastore, 1) := dko_83 (dk_t 12 25 [83, 42] dwX0_enter_13 rfl rfl)
theorem dX0_enter_26 : decode cX0_enter 26 = .ok (.aload_n 0, 1) := dko_42 (dk_t 13 26 [42] dwX0_enter_13 rfl rfl)
theorem dwX0_enter_27 : dkW cX0_enter 27 [182, 0, 31, 177] = true := by decide +kernel
theorem dX0_enter_27 : decode cX0_enter 27 = .ok (.invokevirtual 31, 3) := dko_182 dwX0_enter_27
theorem dX0_enter_30 : decode cX0_enter 30 = .ok (.return_, 1) := dko_177 (dk_t 3 30 [177] dwX0_enter_27 rfl rfl)
theorem dwX0_strike_0 : dkW cX0_strike 0 [27, 155, 0, 20, 27, 16, 12, 162, 0, 14, 42, 180, 0, 11] = true := by decide +kernel
theorem dX0_strike_0 : decode cX0_strike 0 = .ok (.iload_n 1, 1) := dko_27 dwX0_strike_0
theorem dX0_strike_1 : decode cX0_strike 1 = .ok (.ifCond .lt 20, 3) := dko_155 (dk_t 1 1 [155, 0, 20, 27, 16, 12, 162, 0, 14, 42, 180, 0, 11] dwX0_strike_0 rfl rfl)
theorem dX0_strike_4 : decode cX0_strike 4 = .ok (.iload_n 1, 1) := dko_27 (dk_t 4 4 [27, 16, 12, 162, 0, 14, 42, 180, 0, 11] dwX0_strike_0 rfl rfl)
theorem dX0_strike_5 : decode cX0_strike 5 = .ok (.bipush 12, 2) := dko_16 (dk_t 5 5 [16, 12, 162, 0, 14, 42, 180, 0, 11] dwX0_strike_0 rfl rfl)
theorem dX0_strike_7 : decode cX0_strike 7 = .ok (.if_icmp .ge 14, 3) := dko_162 (dk_t 7 7 [162, 0, 14, 42, 180, 0, 11] dwX0_strike_0 rfl rfl)
theorem dX0_strike_10 : decode cX0_strike 10 = .ok (.aload_n 0, 1) := dko_42 (dk_t 10 10 [42, 180, 0, 11] dwX0_strike_0 rfl rfl)
theorem dX0_strike_11 : decode cX0_strike 11 = .ok (.getfield 11, 3) := dko_180 (dk_t 11 11 [180, 0, 11] dwX0_strike_0 rfl rfl)
theorem dwX0_strike_14 : dkW cX0_strike 14 [27, 1, 83, 42, 182, 0, 31, 177] = true := by decide +kernel
theorem dX0_strike_14 : decode cX0_strike 14 = .ok (.iload_n 1, 1) := dko_27 dwX0_strike_14
theorem dX0_strike_15 : decode cX0_strike 15 = .ok (.aconst_null, 1) := dko_1 (dk_t 1 15 [1, 83, 42, 182, 0, 31, 177] dwX0_strike_14 rfl rfl)
theorem dX0_strike_16 : decode cX0_strike 16 = .ok (.aastore, 1) := dko_83 (dk_t 2 16 [83, 42, 182, 0, 31, 177] dwX0_strike_14 rfl rfl)
theorem dX0_strike_17 : decode cX0_strike 17 = .ok (.aload_n 0, 1) := dko_42 (dk_t 3 17 [42, 182, 0, 31, 177] dwX0_strike_14 rfl rfl)
theorem dX0_strike_18 : decode cX0_strike 18 = .ok (.invokevirtual 31, 3) := dko_182 (dk_t 4 18 [182, 0, 31, 177] dwX0_strike_14 rfl rfl)
theorem dX0_strike_21 : decode cX0_strike 21 = .ok (.return_, 1) := dko_177 (dk_t 7 21 [177] dwX0_strike_14 rfl rfl)
theorem dwX0_arrange_0 : dkW cX0_arrange 0 [42, 3, 181, 0, 20, 3, 60, 27, 16, 12, 162, 0, 25, 42] = true := by decide +kernel
theorem dX0_arrange_0 : decode cX0_arrange 0 = .ok (.aload_n 0, 1) := dko_42 dwX0_arrange_0
theorem dX0_arrange_1 : decode cX0_arrange 1 = .ok (.iconst 0, 1) := dko_3 (dk_t 1 1 [3, 181, 0, 20, 3, 60, 27, 16, 12, 162, 0, 25, 42] dwX0_arrange_0 rfl rfl)
theorem dX0_arrange_2 : decode cX0_arrange 2 = .ok (.putfield 20, 3) := dko_181 (dk_t 2 2 [181, 0, 20, 3, 60, 27, 16, 12, 162, 0, 25, 42] dwX0_arrange_0 rfl rfl)
theorem dX0_arrange_5 : decode cX0_arrange 5 = .ok (.iconst 0, 1) := dko_3 (dk_t 5 5 [3, 60, 27, 16, 12, 162, 0, 25, 42] dwX0_arrange_0 rfl rfl)
theorem dX0_arrange_6 : decode cX0_arrange 6 = .ok (.istore_n 1, 1) := dko_60 (dk_t 6 6 [60, 27, 16, 12, 162, 0, 25, 42] dwX0_arrange_0 rfl rfl)
theorem dX0_arrange_7 : decode cX0_arrange 7 = .ok (.iload_n 1, 1) := dko_27 (dk_t 7 7 [27, 16, 12, 162, 0, 25, 42] dwX0_arrange_0 rfl rfl)
theorem dX0_arrange_8 : decode cX0_arrange 8 = .ok (.bipush 12, 2) := dko_16 (dk_t 8 8 [16, 12, 162, 0, 25, 42] dwX0_arrange_0 rfl rfl)
theorem dX0_arrange_10 : decode cX0_arrange 10 = .ok (.if_icmp .ge 25, 3) := dko_162 (dk_t 10 10 [162, 0, 25, 42] dwX0_arrange_0 rfl rfl)
theorem dX0_arrange_13 : decode cX0_arrange 13 = .ok (.aload_n 0, 1) := dko_42 (dk_t 13 13 [42] dwX0_arrange_0 rfl rfl)
theorem dwX0_arrange_14 : dkW cX0_arrange 14 [180, 0, 11, 27, 50, 77, 44, 198, 0, 8, 42, 44] = true := by decide +kernel
theorem dX0_arrange_14 : decode cX0_arrange 14 = .ok (.getfield 11, 3) := dko_180 dwX0_arrange_14
theorem dX0_arrange_17 : decode cX0_arrange 17 = .ok (.iload_n 1, 1) := dko_27 (dk_t 3 17 [27, 50, 77, 44, 198, 0, 8, 42, 44] dwX0_arrange_14 rfl rfl)
theorem dX0_arrange_18 : decode cX0_arrange 18 = .ok (.aaload, 1) := dko_50 (dk_t 4 18 [50, 77, 44, 198, 0, 8, 42, 44] dwX0_arrange_14 rfl rfl)
theorem dX0_arrange_19 : decode cX0_arrange 19 = .ok (.astore_n 2, 1) := dko_77 (dk_t 5 19 [77, 44, 198, 0, 8, 42, 44] dwX0_arrange_14 rfl rfl)
theorem dX0_arrange_20 : decode cX0_arrange 20 = .ok (.aload_n 2, 1) := dko_44 (dk_t 6 20 [44, 198, 0, 8, 42, 44] dwX0_arrange_14 rfl rfl)
theorem dX0_arrange_21 : decode cX0_arrange 21 = .ok (.ifnull 8, 3) := dko_198 (dk_t 7 21 [198, 0, 8, 42, 44] dwX0_arrange_14 rfl rfl)
theorem dX0_arrange_24 : decode cX0_arrange 24 = .ok (.aload_n 0, 1) := dko_42 (dk_t 10 24 [42, 44] dwX0_arrange_14 rfl rfl)
theorem dX0_arrange_25 : decode cX0_arrange 25 = .ok (.aload_n 2, 1) := dko_44 (dk_t 11 25 [44] dwX0_arrange_14 rfl rfl)
theorem dwX0_arrange_26 : dkW cX0_arrange 26 [182, 0, 34, 132, 1, 1, 167, 255, 231, 177] = true := by decide +kernel
theorem dX0_arrange_26 : decode cX0_arrange 26 = .ok (.invokevirtual 34, 3) := dko_182 dwX0_arrange_26
theorem dX0_arrange_29 : decode cX0_arrange 29 = .ok (.iinc 1 1, 3) := dko_132 (dk_t 3 29 [132, 1, 1, 167, 255, 231, 177] dwX0_arrange_26 rfl rfl)
theorem dX0_arrange_32 : decode cX0_arrange 32 = .ok (.goto (-25), 3) := dko_167 (dk_t 6 32 [167, 255, 231, 177] dwX0_arrange_26 rfl rfl)
theorem dX0_arrange_35 : decode cX0_arrange 35 = .ok (.return_, 1) := dko_177 (dk_t 9 35 [177] dwX0_arrange_26 rfl rfl)
theorem dwX0_insert_0 : dkW cX0_insert 0 [42, 180, 0, 20, 61, 28, 158, 0, 49, 28, 16, 12] = true := by decide +kernel
theorem dX0_insert_0 : decode cX0_insert 0 = .ok (.aload_n 0, 1) := dko_42 dwX0_insert_0
theorem dX0_insert_1 : decode cX0_insert 1 = .ok (.getfield 20, 3) := dko_180 (dk_t 1 1 [180, 0, 20, 61, 28, 158, 0, 49, 28, 16, 12] dwX0_insert_0 rfl rfl)
theorem dX0_insert_4 : decode cX0_insert 4 = .ok (.istore_n 2, 1) := dko_61 (dk_t 4 4 [61, 28, 158, 0, 49, 28, 16, 12] dwX0_insert_0 rfl rfl)
theorem dX0_insert_5 : decode cX0_insert 5 = .ok (.iload_n 2, 1) := dko_28 (dk_t 5 5 [28, 158, 0, 49, 28, 16, 12] dwX0_insert_0 rfl rfl)
theorem dX0_insert_6 : decode cX0_insert 6 = .ok (.ifCond .le 49, 3) := dko_158 (dk_t 6 6 [158, 0, 49, 28, 16, 12] dwX0_insert_0 rfl rfl)
theorem dX0_insert_9 : decode cX0_insert 9 = .ok (.iload_n 2, 1) := dko_28 (dk_t 9 9 [28, 16, 12] dwX0_insert_0 rfl rfl)
theorem dX0_insert_10 : decode cX0_insert 10 = .ok (.bipush 12, 2) := dko_16 (dk_t 10 10 [16, 12] dwX0_insert_0 rfl rfl)
theorem dwX0_insert_12 : dkW cX0_insert 12 [162, 0, 43, 42, 180, 0, 17, 28, 4, 100, 50, 78, 45] = true := by decide +kernel
theorem dX0_insert_12 : decode cX0_insert 12 = .ok (.if_icmp .ge 43, 3) := dko_162 dwX0_insert_12
theorem dX0_insert_15 : decode cX0_insert 15 = .ok (.aload_n 0, 1) := dko_42 (dk_t 3 15 [42, 180, 0, 17, 28, 4, 100, 50, 78, 45] dwX0_insert_12 rfl rfl)
theorem dX0_insert_16 : decode cX0_insert 16 = .ok (.getfield 17, 3) := dko_180 (dk_t 4 16 [180, 0, 17, 28, 4, 100, 50, 78, 45] dwX0_insert_12 rfl rfl)
theorem dX0_insert_19 : decode cX0_insert 19 = .ok (.iload_n 2, 1) := dko_28 (dk_t 7 19 [28, 4, 100, 50, 78, 45] dwX0_insert_12 rfl rfl)
theorem dX0_insert_20 : decode cX0_insert 20 = .ok (.iconst 1, 1) := dko_4 (dk_t 8 20 [4, 100, 50, 78, 45] dwX0_insert_12 rfl rfl)
theorem dX0_insert_21 : decode cX0_insert 21 = .ok (.isub, 1) := dko_100 (dk_t 9 21 [100, 50, 78, 45] dwX0_insert_12 rfl rfl)
theorem dX0_insert_22 : decode cX0_insert 22 = .ok (.aaload, 1) := dko_50 (dk_t 10 22 [50, 78, 45] dwX0_insert_12 rfl rfl)
theorem dX0_insert_23 : decode cX0_insert 23 = .ok (.astore_n 3, 1) := dko_78 (dk_t 11 23 [78, 45] dwX0_insert_12 rfl rfl)
theorem dX0_insert_24 : decode cX0_insert 24 = .ok (.aload_n 3, 1) := dko_45 (dk_t 12 24 [45] dwX0_insert_12 rfl rfl)
theorem dwX0_insert_25 : dkW cX0_insert 25 [198, 0, 30, 45, 180, 0, 38, 43, 180, 0, 38, 163, 0, 6] = true := by decide +kernel
theorem dX0_insert_25 : decode cX0_insert 25 = .ok (.ifnull 30, 3) := dko_198 dwX0_insert_25
theorem dX0_insert_28 : decode cX0_insert 28 = .ok (.aload_n 3, 1) := dko_45 (dk_t 3 28 [45, 180, 0, 38, 43, 180, 0, 38, 163, 0, 6] dwX0_insert_25 rfl rfl)
theorem dX0_insert_29 : decode cX0_insert 29 = .ok (.getfield 38, 3) := dko_180 (dk_t 4 29 [180, 0, 38, 43, 180, 0, 38, 163, 0, 6] dwX0_insert_25 rfl rfl)
theorem dX0_insert_32 : decode cX0_insert 32 = .ok (.aload_n 1, 1) := dko_43 (dk_t 7 32 [43, 180, 0, 38, 163, 0, 6] dwX0_insert_25 rfl rfl)
theorem dX0_insert_33 : decode cX0_insert 33 = .ok (.getfield 38, 3) := dko_180 (dk_t 8 33 [180, 0, 38, 163, 0, 6] dwX0_insert_25 rfl rfl)
theorem dX0_insert_36 : decode cX0_insert 36 = .ok (.if_icmp .gt 6, 3) := dko_163 (dk_t 11 36 [163, 0, 6] dwX0_insert_25 rfl rfl)
theorem dwX0_insert_39 : dkW cX0_insert 39 [167, 0, 16, 42, 180, 0, 17, 28, 45, 83, 132, 2, 255] = true := by decide +kernel
theorem dX0_insert_39 : decode cX0_insert 39 = .ok (.goto 16, 3) := dko_167 dwX0_insert_39
theorem dX0_insert_42 : decode cX0_insert 42 = .ok (.aload_n 0, 1) := dko_42 (dk_t 3 42 [42, 180, 0, 17, 28, 45, 83, 132, 2, 255] dwX0_insert_39 rfl rfl)
theorem dX0_insert_43 : decode cX0_insert 43 = .ok (.getfield 17, 3) := dko_180 (dk_t 4 43 [180, 0, 17, 28, 45, 83, 132, 2, 255] dwX0_insert_39 rfl rfl)
theorem dX0_insert_46 : decode cX0_insert 46 = .ok (.iload_n 2, 1) := dko_28 (dk_t 7 46 [28, 45, 83, 132, 2, 255] dwX0_insert_39 rfl rfl)
theorem dX0_insert_47 : decode cX0_insert 47 = .ok (.aload_n 3, 1) := dko_45 (dk_t 8 47 [45, 83, 132, 2, 255] dwX0_insert_39 rfl rfl)
theorem dX0_insert_48 : decode cX0_insert 48 = .ok (.aastore, 1) := dko_83 (dk_t 9 48 [83, 132, 2, 255] dwX0_insert_39 rfl rfl)
theorem dX0_insert_49 : decode cX0_insert 49 = .ok (.iinc 2 (-1), 3) := dko_132 (dk_t 10 49 [132, 2, 255] dwX0_insert_39 rfl rfl)
theorem dwX0_insert_52 : dkW cX0_insert 52 [167, 255, 209, 28, 155, 0, 26, 28, 16, 12, 162, 0, 20, 42] = true := by decide +kernel
theorem dX0_insert_52 : decode cX0_insert 52 = .ok (.goto (-47), 3) := dko_167 dwX0_insert_52
theorem dX0_insert_55 : decode cX0_insert 55 = .ok (.iload_n 2, 1) := dko_28 (dk_t 3 55 [28, 155, 0, 26, 28, 16, 12, 162, 0, 20, 42] dwX0_insert_52 rfl rfl)
theorem dX0_insert_56 : decode cX0_insert 56 = .ok (.ifCond .lt 26, 3) := dko_155 (dk_t 4 56 [155, 0, 26, 28, 16, 12, 162, 0, 20, 42] dwX0_insert_52 rfl rfl)
theorem dX0_insert_59 : decode cX0_insert 59 = .ok (.iload_n 2, 1) := dko_28 (dk_t 7 59 [28, 16, 12, 162, 0, 20, 42] dwX0_insert_52 rfl rfl)
theorem dX0_insert_60 : decode cX0_insert 60 = .ok (.bipush 12, 2) := dko_16 (dk_t 8 60 [16, 12, 162, 0, 20, 42] dwX0_insert_52 rfl rfl)
theorem dX0_insert_62 : decode cX0_insert 62 = .ok (.if_icmp .ge 20, 3) := dko_162 (dk_t 10 62 [162, 0, 20, 42] dwX0_insert_52 rfl rfl)
theorem dX0_insert_65 : decode cX0_insert 65 = .ok (.aload_n 0, 1) := dko_42 (dk_t 13 65 [42] dwX0_insert_52 rfl rfl)
theorem dwX0_insert_66 : dkW cX0_insert 66 [180, 0, 17, 28, 43, 83, 42, 89, 180, 0, 20, 4, 96] = true := by decide +kernel
theorem dX0_insert_66 : decode cX0_insert 66 = .ok (.getfield 17, 3) := dko_180 dwX0_insert_66
theorem dX0_insert_69 : decode cX0_insert 69 = .ok (.iload_n 2, 1) := dko_28 (dk_t 3 69 [28, 43, 83, 42, 89, 180, 0, 20, 4, 96] dwX0_insert_66 rfl rfl)
theorem dX0_insert_70 : decode cX0_insert 70 = .ok (.aload_n 1, 1) := dko_43 (dk_t 4 70 [43, 83, 42, 89, 180, 0, 20, 4, 96] dwX0_insert_66 rfl rfl)
theorem dX0_insert_71 : decode cX0_insert 71 = .ok (.aastore, 1) := dko_83 (dk_t 5 71 [83, 42, 89, 180, 0, 20, 4, 96] dwX0_insert_66 rfl rfl)
theorem dX0_insert_72 : decode cX0_insert 72 = .ok (.aload_n 0, 1) := dko_42 (dk_t 6 72 [42, 89, 180, 0, 20, 4, 96] dwX0_insert_66 rfl rfl)
theorem dX0_insert_73 : decode cX0_insert 73 = .ok (.dup, 1) := dko_89 (dk_t 7 73 [89, 180, 0, 20, 4, 96] dwX0_insert_66 rfl rfl)
theorem dX0_insert_74 : decode cX0_insert 74 = .ok (.getfield 20, 3) := dko_180 (dk_t 8 74 [180, 0, 20, 4, 96] dwX0_insert_66 rfl rfl)
theorem dX0_insert_77 : decode cX0_insert 77 = .ok (.iconst 1, 1) := dko_4 (dk_t 11 77 [4, 96] dwX0_insert_66 rfl rfl)
theorem dX0_insert_78 : decode cX0_insert 78 = .ok (.iadd, 1) := dko_96 (dk_t 12 78 [96] dwX0_insert_66 rfl rfl)
theorem dwX0_insert_79 : dkW cX0_insert 79 [181, 0, 20, 177] = true := by decide +kernel
theorem dX0_insert_79 : decode cX0_insert 79 = .ok (.putfield 20, 3) := dko_181 dwX0_insert_79
theorem dX0_insert_82 : decode cX0_insert 82 = .ok (.return_, 1) := dko_177 (dk_t 3 82 [177] dwX0_insert_79 rfl rfl)
theorem dwX1_init_0 : dkW cX1_init 0 [42, 183, 0, 3, 42, 6, 188, 10, 181, 0, 9, 42, 6] = true := by decide +kernel
theorem dX1_init_0 : decode cX1_init 0 = .ok (.aload_n 0, 1) := dko_42 dwX1_init_0
theorem dX1_init_1 : decode cX1_init 1 = .ok (.invokespecial 3, 3) := dko_183 (dk_t 1 1 [183, 0, 3, 42, 6, 188, 10, 181, 0, 9, 42, 6] dwX1_init_0 rfl rfl)
theorem dX1_init_4 : decode cX1_init 4 = .ok (.aload_n 0, 1) := dko_42 (dk_t 4 4 [42, 6, 188, 10, 181, 0, 9, 42, 6] dwX1_init_0 rfl rfl)
theorem dX1_init_5 : decode cX1_init 5 = .ok (.iconst 3, 1) := dko_6 (dk_t 5 5 [6, 188, 10, 181, 0, 9, 42, 6] dwX1_init_0 rfl rfl)
theorem dX1_init_6 : decode cX1_init 6 = .ok (.newarray .int, 2) := dko_188_10 (dk_t 6 6 [188, 10, 181, 0, 9, 42, 6] dwX1_init_0 rfl rfl)
theorem dX1_init_8 : decode cX1_init 8 = .ok (.putfield 9, 3) := dko_181 (dk_t 8 8 [181, 0, 9, 42, 6] dwX1_init_0 rfl rfl)
theorem dX1_init_11 : decode cX1_init 11 = .ok (.aload_n 0, 1) := dko_42 (dk_t 11 11 [42, 6] dwX1_init_0 rfl rfl)
theorem dX1_init_12 : decode cX1_init 12 = .ok (.iconst 3, 1) := dko_6 (dk_t 12 12 [6] dwX1_init_0 rfl rfl)
theorem dwX1_init_13 : dkW cX1_init 13 [188, 10, 181, 0, 15, 42, 16, 90, 188, 10, 181, 0, 18, 177] = true := by decide +kernel
theorem dX1_init_13 : decode cX1_init 13 = .ok (.newarray .int, 2) := dko_188_10 dwX1_init_13
theorem dX1_init_15 : decode cX1_init 15 = .ok (.putfield 15, 3) := dko_181 (dk_t 2 15 [181, 0, 15, 42, 16, 90, 188, 10, 181, 0, 18, 177] dwX1_init_13 rfl rfl)
theorem dX1_init_18 : decode cX1_init 18 = .ok (.aload_n 0, 1) := dko_42 (dk_t 5 18 [42, 16, 90, 188, 10, 181, 0, 18, 177] dwX1_init_13 rfl rfl)
theorem dX1_init_19 : decode cX1_init 19 = .ok (.bipush 90, 2) := dko_16 (dk_t 6 19 [16, 90, 188, 10, 181, 0, 18, 177] dwX1_init_13 rfl rfl)
theorem dX1_init_21 : decode cX1_init 21 = .ok (.newarray .int, 2) := dko_188_10 (dk_t 8 21 [188, 10, 181, 0, 18, 177] dwX1_init_13 rfl rfl)
theorem dX1_init_23 : decode cX1_init 23 = .ok (.putfield 18, 3) := dko_181 (dk_t 10 23 [181, 0, 18, 177] dwX1_init_13 rfl rfl)
theorem dX1_init_26 : decode cX1_init 26 = .ok (.return_, 1) := dko_177 (dk_t 13 26 [177] dwX1_init_13 rfl rfl)
theorem dwX1_ofAllRows_0 : dkW cX1_ofAllRows 0 [3, 62, 29, 6, 162, 0, 101, 42, 180, 0, 15, 29, 43, 29] = true := by decide +kernel
theorem dX1_ofAllRows_0 : decode cX1_ofAllRows 0 = .ok (.iconst 0, 1) := dko_3 dwX1_ofAllRows_0
theorem dX1_ofAllRows_1 : decode cX1_ofAllRows 1 = .ok (.istore_n 3, 1) := dko_62 (dk_t 1 1 [62, 29, 6, 162, 0, 101, 42, 180, 0, 15, 29, 43, 29] dwX1_ofAllRows_0 rfl rfl)
theorem dX1_ofAllRows_2 : decode cX1_ofAllRows 2 = .ok (.iload_n 3, 1) := dko_29 (dk_t 2 2 [29, 6, 162, 0, 101, 42, 180, 0, 15, 29, 43, 29] dwX1_ofAllRows_0 rfl rfl)
theorem dX1_ofAllRows_3 : decode cX1_ofAllRows 3 = .ok (.iconst 3, 1) := dko_6 (dk_t 3 3 [6, 162, 0, 101, 42, 180, 0, 15, 29, 43, 29] dwX1_ofAllRows_0 rfl rfl)
theorem dX1_ofAllRows_4 : decode cX1_ofAllRows 4 = .ok (.if_icmp .ge 101, 3) := dko_162 (dk_t 4 4 [162, 0, 101, 42, 180, 0, 15, 29, 43, 29] dwX1_ofAllRows_0 rfl rfl)
theorem dX1_ofAllRows_7 : decode cX1_ofAllRows 7 = .ok (.aload_n 0, 1) := dko_42 (dk_t 7 7 [42, 180, 0, 15, 29, 43, 29] dwX1_ofAllRows_0 rfl rfl)
theorem dX1_ofAllRows_8 : decode cX1_ofAllRows 8 = .ok (.getfield 15, 3) := dko_180 (dk_t 8 8 [180, 0, 15, 29, 43, 29] dwX1_ofAllRows_0 rfl rfl)
theorem dX1_ofAllRows_11 : decode cX1_ofAllRows 11 = .ok (.iload_n 3, 1) := dko_29 (dk_t 11 11 [29, 43, 29] dwX1_ofAllRows_0 rfl rfl)
theorem dX1_ofAllRows_12 : decode cX1_ofAllRows 12 = .ok (.aload_n 1, 1) := dko_43 (dk_t 12 12 [43, 29] dwX1_ofAllRows_0 rfl rfl)
theorem dX1_ofAllRows_13 : decode cX1_ofAllRows 13 = .ok (.iload_n 3, 1) := dko_29 (dk_t 13 13 [29] dwX1_ofAllRows_0 rfl rfl)
theorem dwX1_ofAllRows_14 : dkW cX1_ofAllRows 14 [182, 0, 21, 44, 29, 182, 0, 21, 130, 79, 42, 180, 0, 9] = true := by decide +kernel
theorem dX1_ofAllRows_14 : decode cX1_ofAllRows 14 = .ok (.invokevirtual 21, 3) := dko_182 dwX1_ofAllRows_14
theorem dX1_ofAllRows_17 : decode cX1_ofAllRows 17 = .ok (.aload_n 2, 1) := dko_44 (dk_t 3 17 [44, 29, 182, 0, 21, 130, 79, 42, 180, 0, 9] dwX1_ofAllRows_14 rfl rfl)
theorem dX1_ofAllRows_18 : decode cX1_ofAllRows 18 = .ok (.iload_n 3, 1) := dko_29 (dk_t 4 18 [29, 182, 0, 21, 130, 79, 42, 180, 0, 9] dwX1_ofAllRows_14 rfl rfl)
theorem dX1_ofAllRows_19 : decode cX1_ofAllRows 19 = .ok (.invokevirtual 21, 3) := dko_182 (dk_t 5 19 [182, 0, 21, 130, 79, 42, 180, 0, 9] dwX1_ofAllRows_14 rfl rfl)
theorem dX1_ofAllRows_22 : decode cX1_ofAllRows 22 = .ok (.ixor, 1) := dko_130 (dk_t 8 22 [130, 79, 42, 180, 0, 9] dwX1_ofAllRows_14 rfl rfl)
theorem dX1_ofAllRows_23 : decode cX1_ofAllRows 23 = .ok (.iastore, 1) := dko_79 (dk_t 9 23 [79, 42, 180, 0, 9] dwX1_ofAllRows_14 rfl rfl)
theorem dX1_ofAllRows_24 : decode cX1_ofAllRows 24 = .ok (.aload_n 0, 1) := dko_42 (dk_t 10 24 [42, 180, 0, 9] dwX1_ofAllRows_14 rfl rfl)
theorem dX1_ofAllRows_25 : decode cX1_ofAllRows 25 = .ok (.getfield 9, 3) := dko_180 (dk_t 11 25 [180, 0, 9] dwX1_ofAllRows_14 rfl rfl)
theorem dwX1_ofAllRows_28 : dkW cX1_ofAllRows 28 [29, 42, 180, 0, 15, 29, 46, 79, 43, 29, 182, 0, 21, 44] = true := by decide +kernel
theorem dX1_ofAllRows_28 : decode cX1_ofAllRows 28 = .ok (.iload_n 3, 1) := dko_29 dwX1_ofAllRows_28
theorem dX1_ofAllRows_29 : decode cX1_ofAllRows 29 = .ok (.aload_n 0, 1) := dko_42 (dk_t 1 29 [42, 180, 0, 15, 29, 46, 79, 43, 29, 182, 0, 21, 44] dwX1_ofAllRows_28 rfl rfl)
theorem dX1_ofAllRows_30 : decode cX1_ofAllRows 30 = .ok (.getfield 15, 3) := dko_180 (dk_t 2 30 [180, 0, 15, 29, 46, 79, 43, 29, 182, 0, 21, 44] dwX1_ofAllRows_28 rfl rfl)
theorem dX1_ofAllRows_33 : decode cX1_ofAllRows 33 = .ok (.iload_n 3, 1) := dko_29 (dk_t 5 33 [29, 46, 79, 43, 29, 182, 0, 21, 44] dwX1_ofAllRows_28 rfl rfl)
theorem dX1_ofAllRows_34 : decode cX1_ofAllRows 34 = .ok (.iaload, 1) := dko_46 (dk_t 6 34 [46, 79, 43, 29, 182, 0, 21, 44] dwX1_ofAllRows_28 rfl rfl)
theorem dX1_ofAllRows_35 : decode cX1_ofAllRows 35 = .ok (.iastore, 1) := dko_79 (dk_t 7 35 [79, 43, 29, 182, 0, 21, 44] dwX1_ofAllRows_28 rfl rfl)
theorem dX1_ofAllRows_36 : decode cX1_ofAllRows 36 = .ok (.aload_n 1, 1) := dko_43 (dk_t 8 36 [43, 29, 182, 0, 21, 44] dwX1_ofAllRows_28 rfl rfl)
theorem dX1_ofAllRows_37 : decode cX1_ofAllRows 37 = .ok (.iload_n 3, 1) := dko_29 (dk_t 9 37 [29, 182, 0, 21, 44] dwX1_ofAllRows_28 rfl rfl)
theorem dX1_ofAllRows_38 : decode cX1_ofAllRows 38 = .ok (.invokevirtual 21, 3) := dko_182 (dk_t 10 38 [182, 0, 21, 44] dwX1_ofAllRows_28 rfl rfl)
theorem dX1_ofAllRows_41 : decode cX1_ofAllRows 41 = .ok (.aload_n 2, 1) := dko_44 (dk_t 13 41 [44] dwX1_ofAllRows_28 rfl rfl)
theorem dwX1_ofAllRows_42 : dkW cX1_ofAllRows 42 [29, 182, 0, 21, 126, 54, 4, 3, 54, 5, 21, 5, 16, 30] = true := by decide +kernel
theorem dX1_ofAllRows_42 : decode cX1_ofAllRows 42 = .ok (.iload_n 3, 1) := dko_29 dwX1_ofAllRows_42
theorem dX1_ofAllRows_43 : decode cX1_ofAllRows 43 = .ok (.invokevirtual 21, 3) := dko_182 (dk_t 1 43 [182, 0, 21, 126, 54, 4, 3, 54, 5, 21, 5, 16, 30] dwX1_ofAllRows_42 rfl rfl)
theorem dX1_ofAllRows_46 : decode cX1_ofAllRows 46 = .ok (.iand, 1) := dko_126 (dk_t 4 46 [126, 54, 4, 3, 54, 5, 21, 5, 16, 30] dwX1_ofAllRows_42 rfl rfl)
theorem dX1_ofAllRows_47 : decode cX1_ofAllRows 47 = .ok (.istore 4, 2) := dko_54 (dk_t 5 47 [54, 4, 3, 54, 5, 21, 5, 16, 30] dwX1_ofAllRows_42 rfl rfl)
theorem dX1_ofAllRows_49 : decode cX1_ofAllRows 49 = .ok (.iconst 0, 1) := dko_3 (dk_t 7 49 [3, 54, 5, 21, 5, 16, 30] dwX1_ofAllRows_42 rfl rfl)
theorem dX1_ofAllRows_50 : decode cX1_ofAllRows 50 = .ok (.istore 5, 2) := dko_54 (dk_t 8 50 [54, 5, 21, 5, 16, 30] dwX1_ofAllRows_42 rfl rfl)
theorem dX1_ofAllRows_52 : decode cX1_ofAllRows 52 = .ok (.iload 5, 2) := dko_21 (dk_t 10 52 [21, 5, 16, 30] dwX1_ofAllRows_42 rfl rfl)
theorem dX1_ofAllRows_54 : decode cX1_ofAllRows 54 = .ok (.bipush 30, 2) := dko_16 (dk_t 12 54 [16, 30] dwX1_ofAllRows_42 rfl rfl)
theorem dwX1_ofAllRows_56 : dkW cX1_ofAllRows 56 [162, 0, 43, 21, 4, 21, 5, 122, 4, 126, 153, 0, 27, 43] = true := by decide +kernel
theorem dX1_ofAllRows_56 : decode cX1_ofAllRows 56 = .ok (.if_icmp .ge 43, 3) := dko_162 dwX1_ofAllRows_56
theorem dX1_ofAllRows_59 : decode cX1_ofAllRows 59 = .ok (.iload 4, 2) := dko_21 (dk_t 3 59 [21, 4, 21, 5, 122, 4, 126, 153, 0, 27, 43] dwX1_ofAllRows_56 rfl rfl)
theorem dX1_ofAllRows_61 : decode cX1_ofAllRows 61 = .ok (.iload 5, 2) := dko_21 (dk_t 5 61 [21, 5, 122, 4, 126, 153, 0, 27, 43] dwX1_ofAllRows_56 rfl rfl)
theorem dX1_ofAllRows_63 : decode cX1_ofAllRows 63 = .ok (.ishr, 1) := dko_122 (dk_t 7 63 [122, 4, 126, 153, 0, 27, 43] dwX1_ofAllRows_56 rfl rfl)
theorem dX1_ofAllRows_64 : decode cX1_ofAllRows 64 = .ok (.iconst 1, 1) := dko_4 (dk_t 8 64 [4, 126, 153, 0, 27, 43] dwX1_ofAllRows_56 rfl rfl)
theorem dX1_ofAllRows_65 : decode cX1_ofAllRows 65 = .ok (.iand, 1) := dko_126 (dk_t 9 65 [126, 153, 0, 27, 43] dwX1_ofAllRows_56 rfl rfl)
theorem dX1_ofAllRows_66 : decode cX1_ofAllRows 66 = .ok (.ifCond .eq 27, 3) := dko_153 (dk_t 10 66 [153, 0, 27, 43] dwX1_ofAllRows_56 rfl rfl)
theorem dX1_ofAllRows_69 : decode cX1_ofAllRows 69 = .ok (.aload_n 1, 1) := dko_43 (dk_t 13 69 [43] dwX1_ofAllRows_56 rfl rfl)
theorem dwX1_ofAllRows_70 : dkW cX1_ofAllRows 70 [44, 29, 21, 5, 184, 0, 27, 153, 0, 16, 42, 180, 0, 9] = true := by decide +kernel
theorem dX1_ofAllRows_70 : decode cX1_ofAllRows 70 = .ok (.aload_n 2, 1) := dko_44 dwX1_ofAllRows_70
theorem dX1_ofAllRows_71 : decode cX1_ofAllRows 71 = .ok (.iload_n 3, 1) := dko_29 (dk_t 1 71 [29, 21, 5, 184, 0, 27, 153, 0, 16, 42, 180, 0, 9] dwX1_ofAllRows_70 rfl rfl)
theorem dX1_ofAllRows_72 : decode cX1_ofAllRows 72 = .ok (.iload 5, 2) := dko_21 (dk_t 2 72 [21, 5, 184, 0, 27, 153, 0, 16, 42, 180, 0, 9] dwX1_ofAllRows_70 rfl rfl)
theorem dX1_ofAllRows_74 : decode cX1_ofAllRows 74 = .ok (.invokestatic 27, 3) := dko_184 (dk_t 4 74 [184, 0, 27, 153, 0, 16, 42, 180, 0, 9] dwX1_ofAllRows_70 rfl rfl)
theorem dX1_ofAllRows_77 : decode cX1_ofAllRows 77 = .ok (.ifCond .eq 16, 3) := dko_153 (dk_t 7 77 [153, 0, 16, 42, 180, 0, 9] dwX1_ofAllRows_70 rfl rfl)
theorem dX1_ofAllRows_80 : decode cX1_ofAllRows 80 = .ok (.aload_n 0, 1) := dko_42 (dk_t 10 80 [42, 180, 0, 9] dwX1_ofAllRows_70 rfl rfl)
theorem dX1_ofAllRows_81 : decode cX1_ofAllRows 81 = .ok (.getfield 9, 3) := dko_180 (dk_t 11 81 [180, 0, 9] dwX1_ofAllRows_70 rfl rfl)
theorem dwX1_ofAllRows_84 : dkW cX1_ofAllRows 84 [29, 92, 46, 4, 21, 5, 120, 128, 79, 132, 5, 1] = true := by decide +kernel
theorem dX1_ofAllRows_84 : decode cX1_ofAllRows 84 = .ok (.iload_n 3, 1) := dko_29 dwX1_ofAllRows_84
theorem dX1_ofAllRows_85 : decode cX1_ofAllRows 85 = .ok (.dup2, 1) := dko_92 (dk_t 1 85 [92, 46, 4, 21, 5, 120, 128, 79, 132, 5, 1] dwX1_ofAllRows_84 rfl rfl)
theorem dX1_ofAllRows_86 : decode cX1_ofAllRows 86 = .ok (.iaload, 1) := dko_46 (dk_t 2 86 [46, 4, 21, 5, 120, 128, 79, 132, 5, 1] dwX1_ofAllRows_84 rfl rfl)
theorem dX1_ofAllRows_87 : decode cX1_ofAllRows 87 = .ok (.iconst 1, 1) := dko_4 (dk_t 3 87 [4, 21, 5, 120, 128, 79, 132, 5, 1] dwX1_ofAllRows_84 rfl rfl)
theorem dX1_ofAllRows_88 : decode cX1_ofAllRows 88 = .ok (.iload 5, 2) := dko_21 (dk_t 4 88 [21, 5, 120, 128, 79, 132, 5, 1] dwX1_ofAllRows_84 rfl rfl)
theorem dX1_ofAllRows_90 : decode cX1_ofAllRows 90 = .ok (.ishl, 1) := dko_120 (dk_t 6 90 [120, 128, 79, 132, 5, 1] dwX1_ofAllRows_84 rfl rfl)
theorem dX1_ofAllRows_91 : decode cX1_ofAllRows 91 = .ok (.ior, 1) := dko_128 (dk_t 7 91 [128, 79, 132, 5, 1] dwX1_ofAllRows_84 rfl rfl)
theorem dX1_ofAllRows_92 : decode cX1_ofAllRows 92 = .ok (.iastore, 1) := dko_79 (dk_t 8 92 [79, 132, 5, 1] dwX1_ofAllRows_84 rfl rfl)
theorem dX1_ofAllRows_93 : decode cX1_ofAllRows 93 = .ok (.iinc 5 1, 3) := dko_132 (dk_t 9 93 [132, 5, 1] dwX1_ofAllRows_84 rfl rfl)
theorem dwX1_ofAllRows_96 : dkW cX1_ofAllRows 96 [167, 255, 212, 132, 3, 1, 167, 255, 156, 177] = true := by decide +kernel
theorem dX1_ofAllRows_96 : decode cX1_ofAllRows 96 = .ok (.goto (-44), 3) := dko_167 dwX1_ofAllRows_96
theorem dX1_ofAllRows_99 : decode cX1_ofAllRows 99 = .ok (.iinc 3 1, 3) := dko_132 (dk_t 3 99 [132, 3, 1, 167, 255, 156, 177] dwX1_ofAllRows_96 rfl rfl)
theorem dX1_ofAllRows_102 : decode cX1_ofAllRows 102 = .ok (.goto (-100), 3) := dko_167 (dk_t 6 102 [167, 255, 156, 177] dwX1_ofAllRows_96 rfl rfl)
theorem dX1_ofAllRows_105 : decode cX1_ofAllRows 105 = .ok (.return_, 1) := dko_177 (dk_t 9 105 [177] dwX1_ofAllRows_96 rfl rfl)
theorem dwX1_ofOneRow_0 : dkW cX1_ofOneRow 0 [3, 62, 29, 6, 162, 0, 23, 42, 180, 0, 15, 29, 3, 79] = true := by decide +kernel
theorem dX1_ofOneRow_0 : decode cX1_ofOneRow 0 = .ok (.iconst 0, 1) := dko_3 dwX1_ofOneRow_0
theorem dX1_ofOneRow_1 : decode cX1_ofOneRow 1 = .ok (.istore_n 3, 1) := dko_62 (dk_t 1 1 [62, 29, 6, 162, 0, 23, 42, 180, 0, 15, 29, 3, 79] dwX1_ofOneRow_0 rfl rfl)
theorem dX1_ofOneRow_2 : decode cX1_ofOneRow 2 = .ok (.iload_n 3, 1) := dko_29 (dk_t 2 2 [29, 6, 162, 0, 23, 42, 180, 0, 15, 29, 3, 79] dwX1_ofOneRow_0 rfl rfl)
theorem dX1_ofOneRow_3 : decode cX1_ofOneRow 3 = .ok (.iconst 3, 1) := dko_6 (dk_t 3 3 [6, 162, 0, 23, 42, 180, 0, 15, 29, 3, 79] dwX1_ofOneRow_0 rfl rfl)
theorem dX1_ofOneRow_4 : decode cX1_ofOneRow 4 = .ok (.if_icmp .ge 23, 3) := dko_162 (dk_t 4 4 [162, 0, 23, 42, 180, 0, 15, 29, 3, 79] dwX1_ofOneRow_0 rfl rfl)
theorem dX1_ofOneRow_7 : decode cX1_ofOneRow 7 = .ok (.aload_n 0, 1) := dko_42 (dk_t 7 7 [42, 180, 0, 15, 29, 3, 79] dwX1_ofOneRow_0 rfl rfl)
theorem dX1_ofOneRow_8 : decode cX1_ofOneRow 8 = .ok (.getfield 15, 3) := dko_180 (dk_t 8 8 [180, 0, 15, 29, 3, 79] dwX1_ofOneRow_0 rfl rfl)
theorem dX1_ofOneRow_11 : decode cX1_ofOneRow 11 = .ok (.iload_n 3, 1) := dko_29 (dk_t 11 11 [29, 3, 79] dwX1_ofOneRow_0 rfl rfl)
theorem dX1_ofOneRow_12 : decode cX1_ofOneRow 12 = .ok (.iconst 0, 1) := dko_3 (dk_t 12 12 [3, 79] dwX1_ofOneRow_0 rfl rfl)
theorem dX1_ofOneRow_13 : decode cX1_ofOneRow 13 = .ok (.iastore, 1) := dko_79 (dk_t 13 13 [79] dwX1_ofOneRow_0 rfl rfl)
theorem dwX1_ofOneRow_14 : dkW cX1_ofOneRow 14 [42, 180, 0, 9, 29, 3, 79, 132, 3, 1, 167, 255, 234, 27] = true := by decide +kernel
theorem dX1_ofOneRow_14 : decode cX1_ofOneRow 14 = .ok (.aload_n 0, 1) := dko_42 dwX1_ofOneRow_14
theorem dX1_ofOneRow_15 : decode cX1_ofOneRow 15 = .ok (.getfield 9, 3) := dko_180 (dk_t 1 15 [180, 0, 9, 29, 3, 79, 132, 3, 1, 167, 255, 234, 27] dwX1_ofOneRow_14 rfl rfl)
theorem dX1_ofOneRow_18 : decode cX1_ofOneRow 18 = .ok (.iload_n 3, 1) := dko_29 (dk_t 4 18 [29, 3, 79, 132, 3, 1, 167, 255, 234, 27] dwX1_ofOneRow_14 rfl rfl)
theorem dX1_ofOneRow_19 : decode cX1_ofOneRow 19 = .ok (.iconst 0, 1) := dko_3 (dk_t 5 19 [3, 79, 132, 3, 1, 167, 255, 234, 27] dwX1_ofOneRow_14 rfl rfl)
theorem dX1_ofOneRow_20 : decode cX1_ofOneRow 20 = .ok (.iastore, 1) := dko_79 (dk_t 6 20 [79, 132, 3, 1, 167, 255, 234, 27] dwX1_ofOneRow_14 rfl rfl)
theorem dX1_ofOneRow_21 : decode cX1_ofOneRow 21 = .ok (.iinc 3 1, 3) := dko_132 (dk_t 7 21 [132, 3, 1, 167, 255, 234, 27] dwX1_ofOneRow_14 rfl rfl)
theorem dX1_ofOneRow_24 : decode cX1_ofOneRow 24 = .ok (.goto (-22), 3) := dko_167 (dk_t 10 24 [167, 255, 234, 27] dwX1_ofOneRow_14 rfl rfl)
theorem dX1_ofOneRow_27 : decode cX1_ofOneRow 27 = .ok (.iload_n 1, 1) := dko_27 (dk_t 13 27 [27] dwX1_ofOneRow_14 rfl rfl)
theorem dwX1_ofOneRow_28 : dkW cX1_ofOneRow 28 [184, 0, 31, 153, 0, 19, 28, 184, 0, 35, 153, 0, 12, 42] = true := by decide +kernel
theorem dX1_ofOneRow_28 : decode cX1_ofOneRow 28 = .ok (.invokestatic 31, 3) := dko_184 dwX1_ofOneRow_28
theorem dX1_ofOneRow_31 : decode cX1_ofOneRow 31 = .ok (.ifCond .eq 19, 3) := dko_153 (dk_t 3 31 [153, 0, 19, 28, 184, 0, 35, 153, 0, 12, 42] dwX1_ofOneRow_28 rfl rfl)
theorem dX1_ofOneRow_34 : decode cX1_ofOneRow 34 = .ok (.iload_n 2, 1) := dko_28 (dk_t 6 34 [28, 184, 0, 35, 153, 0, 12, 42] dwX1_ofOneRow_28 rfl rfl)
theorem dX1_ofOneRow_35 : decode cX1_ofOneRow 35 = .ok (.invokestatic 35, 3) := dko_184 (dk_t 7 35 [184, 0, 35, 153, 0, 12, 42] dwX1_ofOneRow_28 rfl rfl)
theorem dX1_ofOneRow_38 : decode cX1_ofOneRow 38 = .ok (.ifCond .eq 12, 3) := dko_153 (dk_t 10 38 [153, 0, 12, 42] dwX1_ofOneRow_28 rfl rfl)
theorem dX1_ofOneRow_41 : decode cX1_ofOneRow 41 = .ok (.aload_n 0, 1) := dko_42 (dk_t 13 41 [42] dwX1_ofOneRow_28 rfl rfl)
theorem dwX1_ofOneRow_42 : dkW cX1_ofOneRow 42 [180, 0, 9, 27, 4, 28, 120, 79, 177] = true := by decide +kernel
theorem dX1_ofOneRow_42 : decode cX1_ofOneRow 42 = .ok (.getfield 9, 3) := dko_180 dwX1_ofOneRow_42
theorem dX1_ofOneRow_45 : decode cX1_ofOneRow 45 = .ok (.iload_n 1, 1) := dko_27 (dk_t 3 45 [27, 4, 28, 120, 79, 177] dwX1_ofOneRow_42 rfl rfl)
theorem dX1_ofOneRow_46 : decode cX1_ofOneRow 46 = .ok (.iconst 1, 1) := dko_4 (dk_t 4 46 [4, 28, 120, 79, 177] dwX1_ofOneRow_42 rfl rfl)
theorem dX1_ofOneRow_47 : decode cX1_ofOneRow 47 = .ok (.iload_n 2, 1) := dko_28 (dk_t 5 47 [28, 120, 79, 177] dwX1_ofOneRow_42 rfl rfl)
theorem dX1_ofOneRow_48 : decode cX1_ofOneRow 48 = .ok (.ishl, 1) := dko_120 (dk_t 6 48 [120, 79, 177] dwX1_ofOneRow_42 rfl rfl)
theorem dX1_ofOneRow_49 : decode cX1_ofOneRow 49 = .ok (.iastore, 1) := dko_79 (dk_t 7 49 [79, 177] dwX1_ofOneRow_42 rfl rfl)
theorem dX1_ofOneRow_50 : decode cX1_ofOneRow 50 = .ok (.return_, 1) := dko_177 (dk_t 8 50 [177] dwX1_ofOneRow_42 rfl rfl)
theorem dwX1_addQuestions_0 : dkW cX1_addQuestions 0 [42, 3, 181, 0, 38, 42, 43, 44, 45, 182, 0, 42, 43] = true := by decide +kernel
theorem dX1_addQuestions_0 : decode cX1_addQuestions 0 = .ok (.aload_n 0, 1) := dko_42 dwX1_addQuestions_0
theorem dX1_addQuestions_1 : decode cX1_addQuestions 1 = .ok (.iconst 0, 1) := dko_3 (dk_t 1 1 [3, 181, 0, 38, 42, 43, 44, 45, 182, 0, 42, 43] dwX1_addQuestions_0 rfl rfl)
theorem dX1_addQuestions_2 : decode cX1_addQuestions 2 = .ok (.putfield 38, 3) := dko_181 (dk_t 2 2 [181, 0, 38, 42, 43, 44, 45, 182, 0, 42, 43] dwX1_addQuestions_0 rfl rfl)
theorem dX1_addQuestions_5 : decode cX1_addQuestions 5 = .ok (.aload_n 0, 1) := dko_42 (dk_t 5 5 [42, 43, 44, 45, 182, 0, 42, 43] dwX1_addQuestions_0 rfl rfl)
theorem dX1_addQuestions_6 : decode cX1_addQuestions 6 = .ok (.aload_n 1, 1) := dko_43 (dk_t 6 6 [43, 44, 45, 182, 0, 42, 43] dwX1_addQuestions_0 rfl rfl)
theorem dX1_addQuestions_7 : decode cX1_addQuestions 7 = .ok (.aload_n 2, 1) := dko_44 (dk_t 7 7 [44, 45, 182, 0, 42, 43] dwX1_addQuestions_0 rfl rfl)
theorem dX1_addQuestions_8 : decode cX1_addQuestions 8 = .ok (.aload_n 3, 1) := dko_45 (dk_t 8 8 [45, 182, 0, 42, 43] dwX1_addQuestions_0 rfl rfl)
theorem dX1_addQuestions_9 : decode cX1_addQuestions 9 = .ok (.invokevirtual 42, 3) := dko_182 (dk_t 9 9 [182, 0, 42, 43] dwX1_addQuestions_0 rfl rfl)
theorem dX1_addQuestions_12 : decode cX1_addQuestions 12 = .ok (.aload_n 1, 1) := dko_43 (dk_t 12 12 [43] dwX1_addQuestions_0 rfl rfl)
theorem dwX1_addQuestions_13 : dkW cX1_addQuestions 13 [182, 0, 46, 153, 0, 26, 43, 180, 0, 52, 184, 0, 31] = true := by decide +kernel
theorem dX1_addQuestions_13 : decode cX1_addQuestions 13 = .ok (.invokevirtual 46, 3) := dko_182 dwX1_addQuestions_13
theorem dX1_addQuestions_16 : decode cX1_addQuestions 16 = .ok (.ifCond .eq 26, 3) := dko_153 (dk_t 3 16 [153, 0, 26, 43, 180, 0, 52, 184, 0, 31] dwX1_addQuestions_13 rfl rfl)
theorem dX1_addQuestions_19 : decode cX1_addQuestions 19 = .ok (.aload_n 1, 1) := dko_43 (dk_t 6 19 [43, 180, 0, 52, 184, 0, 31] dwX1_addQuestions_13 rfl rfl)
theorem dX1_addQuestions_20 : decode cX1_addQuestions 20 = .ok (.getfield 52, 3) := dko_180 (dk_t 7 20 [180, 0, 52, 184, 0, 31] dwX1_addQuestions_13 rfl rfl)
theorem dX1_addQuestions_23 : decode cX1_addQuestions 23 = .ok (.invokestatic 31, 3) := dko_184 (dk_t 10 23 [184, 0, 31] dwX1_addQuestions_13 rfl rfl)
theorem dwX1_addQuestions_26 : dkW cX1_addQuestions 26 [153, 0, 16, 42, 42, 180, 0, 15, 43, 180, 0, 52, 46] = true := by decide +kernel
theorem dX1_addQuestions_26 : decode cX1_addQuestions 26 = .ok (.ifCond .eq 16, 3) := dko_153 dwX1_addQuestions_26
theorem dX1_addQuestions_29 : decode cX1_addQuestions 29 = .ok (.aload_n 0, 1) := dko_42 (dk_t 3 29 [42, 42, 180, 0, 15, 43, 180, 0, 52, 46] dwX1_addQuestions_26 rfl rfl)
theorem dX1_addQuestions_30 : decode cX1_addQuestions 30 = .ok (.aload_n 0, 1) := dko_42 (dk_t 4 30 [42, 180, 0, 15, 43, 180, 0, 52, 46] dwX1_addQuestions_26 rfl rfl)
theorem dX1_addQuestions_31 : decode cX1_addQuestions 31 = .ok (.getfield 15, 3) := dko_180 (dk_t 5 31 [180, 0, 15, 43, 180, 0, 52, 46] dwX1_addQuestions_26 rfl rfl)
theorem dX1_addQuestions_34 : decode cX1_addQuestions 34 = .ok (.aload_n 1, 1) := dko_43 (dk_t 8 34 [43, 180, 0, 52, 46] dwX1_addQuestions_26 rfl rfl)
theorem dX1_addQuestions_35 : decode cX1_addQuestions 35 = .ok (.getfield 52, 3) := dko_180 (dk_t 9 35 [180, 0, 52, 46] dwX1_addQuestions_26 rfl rfl)
theorem dX1_addQuestions_38 : decode cX1_addQuestions 38 = .ok (.iaload, 1) := dko_46 (dk_t 12 38 [46] dwX1_addQuestions_26 rfl rfl)
theorem dwX1_addQuestions_39 : dkW cX1_addQuestions 39 [182, 0, 55, 3, 54, 5, 21, 5, 42, 180, 0, 38] = true := by decide +kernel
theorem dX1_addQuestions_39 : decode cX1_addQuestions 39 = .ok (.invokevirtual 55, 3) := dko_182 dwX1_addQuestions_39
theorem dX1_addQuestions_42 : decode cX1_addQuestions 42 = .ok (.iconst 0, 1) := dko_3 (dk_t 3 42 [3, 54, 5, 21, 5, 42, 180, 0, 38] dwX1_addQuestions_39 rfl rfl)
theorem dX1_addQuestions_43 : decode cX1_addQuestions 43 = .ok (.istore 5, 2) := dko_54 (dk_t 4 43 [54, 5, 21, 5, 42, 180, 0, 38] dwX1_addQuestions_39 rfl rfl)
theorem dX1_addQuestions_45 : decode cX1_addQuestions 45 = .ok (.iload 5, 2) := dko_21 (dk_t 6 45 [21, 5, 42, 180, 0, 38] dwX1_addQuestions_39 rfl rfl)
theorem dX1_addQuestions_47 : decode cX1_addQuestions 47 = .ok (.aload_n 0, 1) := dko_42 (dk_t 8 47 [42, 180, 0, 38] dwX1_addQuestions_39 rfl rfl)
theorem dX1_addQuestions_48 : decode cX1_addQuestions 48 = .ok (.getfield 38, 3) := dko_180 (dk_t 9 48 [180, 0, 38] dwX1_addQuestions_39 rfl rfl)
theorem dwX1_addQuestions_51 : dkW cX1_addQuestions 51 [162, 0, 71, 21, 5, 16, 90, 162, 0, 64, 42, 180, 0, 18] = true := by decide +kernel
theorem dX1_addQuestions_51 : decode cX1_addQuestions 51 = .ok (.if_icmp .ge 71, 3) := dko_162 dwX1_addQuestions_51
theorem dX1_addQuestions_54 : decode cX1_addQuestions 54 = .ok (.iload 5, 2) := dko_21 (dk_t 3 54 [21, 5, 16, 90, 162, 0, 64, 42, 180, 0, 18] dwX1_addQuestions_51 rfl rfl)
theorem dX1_addQuestions_56 : decode cX1_addQuestions 56 = .ok (.bipush 90, 2) := dko_16 (dk_t 5 56 [16, 90, 162, 0, 64, 42, 180, 0, 18] dwX1_addQuestions_51 rfl rfl)
theorem dX1_addQuestions_58 : decode cX1_addQuestions 58 = .ok (.if_icmp .ge 64, 3) := dko_162 (dk_t 7 58 [162, 0, 64, 42, 180, 0, 18] dwX1_addQuestions_51 rfl rfl)
theorem dX1_addQuestions_61 : decode cX1_addQuestions 61 = .ok (.aload_n 0, 1) := dko_42 (dk_t 10 61 [42, 180, 0, 18] dwX1_addQuestions_51 rfl rfl)
theorem dX1_addQuestions_62 : decode cX1_addQuestions 62 = .ok (.getfield 18, 3) := dko_180 (dk_t 11 62 [180, 0, 18] dwX1_addQuestions_51 rfl rfl)
theorem dwX1_addQuestions_65 : dkW cX1_addQuestions 65 [21, 5, 46, 54, 6, 43, 44, 21, 6, 182, 0, 59, 54, 7] = true := by decide +kernel
theorem dX1_addQuestions_65 : decode cX1_addQuestions 65 = .ok (.iload 5, 2) := dko_21 dwX1_addQuestions_65
theorem dX1_addQuestions_67 : decode cX1_addQuestions 67 = .ok (.iaload, 1) := dko_46 (dk_t 2 67 [46, 54, 6, 43, 44, 21, 6, 182, 0, 59, 54, 7] dwX1_addQuestions_65 rfl rfl)
theorem dX1_addQuestions_68 : decode cX1_addQuestions 68 = .ok (.istore 6, 2) := dko_54 (dk_t 3 68 [54, 6, 43, 44, 21, 6, 182, 0, 59, 54, 7] dwX1_addQuestions_65 rfl rfl)
theorem dX1_addQuestions_70 : decode cX1_addQuestions 70 = .ok (.aload_n 1, 1) := dko_43 (dk_t 5 70 [43, 44, 21, 6, 182, 0, 59, 54, 7] dwX1_addQuestions_65 rfl rfl)
theorem dX1_addQuestions_71 : decode cX1_addQuestions 71 = .ok (.aload_n 2, 1) := dko_44 (dk_t 6 71 [44, 21, 6, 182, 0, 59, 54, 7] dwX1_addQuestions_65 rfl rfl)
theorem dX1_addQuestions_72 : decode cX1_addQuestions 72 = .ok (.iload 6, 2) := dko_21 (dk_t 7 72 [21, 6, 182, 0, 59, 54, 7] dwX1_addQuestions_65 rfl rfl)
theorem dX1_addQuestions_74 : decode cX1_addQuestions 74 = .ok (.invokevirtual 59, 3) := dko_182 (dk_t 9 74 [182, 0, 59, 54, 7] dwX1_addQuestions_65 rfl rfl)
theorem dX1_addQuestions_77 : decode cX1_addQuestions 77 = .ok (.istore 7, 2) := dko_54 (dk_t 12 77 [54, 7] dwX1_addQuestions_65 rfl rfl)
theorem dwX1_addQuestions_79 : dkW cX1_addQuestions 79 [43, 45, 21, 6, 182, 0, 59, 54, 8, 21, 7, 21, 8] = true := by decide +kernel
theorem dX1_addQuestions_79 : decode cX1_addQuestions 79 = .ok (.aload_n 1, 1) := dko_43 dwX1_addQuestions_79
theorem dX1_addQuestions_80 : decode cX1_addQuestions 80 = .ok (.aload_n 3, 1) := dko_45 (dk_t 1 80 [45, 21, 6, 182, 0, 59, 54, 8, 21, 7, 21, 8] dwX1_addQuestions_79 rfl rfl)
theorem dX1_addQuestions_81 : decode cX1_addQuestions 81 = .ok (.iload 6, 2) := dko_21 (dk_t 2 81 [21, 6, 182, 0, 59, 54, 8, 21, 7, 21, 8] dwX1_addQuestions_79 rfl rfl)
theorem dX1_addQuestions_83 : decode cX1_addQuestions 83 = .ok (.invokevirtual 59, 3) := dko_182 (dk_t 4 83 [182, 0, 59, 54, 8, 21, 7, 21, 8] dwX1_addQuestions_79 rfl rfl)
theorem dX1_addQuestions_86 : decode cX1_addQuestions 86 = .ok (.istore 8, 2) := dko_54 (dk_t 7 86 [54, 8, 21, 7, 21, 8] dwX1_addQuestions_79 rfl rfl)
theorem dX1_addQuestions_88 : decode cX1_addQuestions 88 = .ok (.iload 7, 2) := dko_21 (dk_t 9 88 [21, 7, 21, 8] dwX1_addQuestions_79 rfl rfl)
theorem dX1_addQuestions_90 : decode cX1_addQuestions 90 = .ok (.iload 8, 2) := dko_21 (dk_t 11 90 [21, 8] dwX1_addQuestions_79 rfl rfl)
theorem dwX1_addQuestions_92 : dkW cX1_addQuestions 92 [159, 0, 24, 25, 4, 43, 21, 6, 21, 7, 21, 8, 43, 45] = true := by decide +kernel
theorem dX1_addQuestions_92 : decode cX1_addQuestions 92 = .ok (.if_icmp .eq 24, 3) := dko_159 dwX1_addQuestions_92
theorem dX1_addQuestions_95 : decode cX1_addQuestions 95 = .ok (.aload 4, 2) := dko_25 (dk_t 3 95 [25, 4, 43, 21, 6, 21, 7, 21, 8, 43, 45] dwX1_addQuestions_92 rfl rfl)
theorem dX1_addQuestions_97 : decode cX1_addQuestions 97 = .ok (.aload_n 1, 1) := dko_43 (dk_t 5 97 [43, 21, 6, 21, 7, 21, 8, 43, 45] dwX1_addQuestions_92 rfl rfl)
theorem dX1_addQuestions_98 : decode cX1_addQuestions 98 = .ok (.iload 6, 2) := dko_21 (dk_t 6 98 [21, 6, 21, 7, 21, 8, 43, 45] dwX1_addQuestions_92 rfl rfl)
theorem dX1_addQuestions_100 : decode cX1_addQuestions 100 = .ok (.iload 7, 2) := dko_21 (dk_t 8 100 [21, 7, 21, 8, 43, 45] dwX1_addQuestions_92 rfl rfl)
theorem dX1_addQuestions_102 : decode cX1_addQuestions 102 = .ok (.iload 8, 2) := dko_21 (dk_t 10 102 [21, 8, 43, 45] dwX1_addQuestions_92 rfl rfl)
theorem dX1_addQuestions_104 : decode cX1_addQuestions 104 = .ok (.aload_n 1, 1) := dko_43 (dk_t 12 104 [43, 45] dwX1_addQuestions_92 rfl rfl)
theorem dX1_addQuestions_105 : decode cX1_addQuestions 105 = .ok (.aload_n 3, 1) := dko_45 (dk_t 13 105 [45] dwX1_addQuestions_92 rfl rfl)
theorem dwX1_addQuestions_106 : dkW cX1_addQuestions 106 [21, 6, 21, 8, 182, 0, 63, 182, 0, 67, 132, 5, 1] = true := by decide +kernel
theorem dX1_addQuestions_106 : decode cX1_addQuestions 106 = .ok (.iload 6, 2) := dko_21 dwX1_addQuestions_106
theorem dX1_addQuestions_108 : decode cX1_addQuestions 108 = .ok (.iload 8, 2) := dko_21 (dk_t 2 108 [21, 8, 182, 0, 63, 182, 0, 67, 132, 5, 1] dwX1_addQuestions_106 rfl rfl)
theorem dX1_addQuestions_110 : decode cX1_addQuestions 110 = .ok (.invokevirtual 63, 3) := dko_182 (dk_t 4 110 [182, 0, 63, 182, 0, 67, 132, 5, 1] dwX1_addQuestions_106 rfl rfl)
theorem dX1_addQuestions_113 : decode cX1_addQuestions 113 = .ok (.invokevirtual 67, 3) := dko_182 (dk_t 7 113 [182, 0, 67, 132, 5, 1] dwX1_addQuestions_106 rfl rfl)
theorem dX1_addQuestions_116 : decode cX1_addQuestions 116 = .ok (.iinc 5 1, 3) := dko_132 (dk_t 10 116 [132, 5, 1] dwX1_addQuestions_106 rfl rfl)
theorem dwX1_addQuestions_119 : dkW cX1_addQuestions 119 [167, 255, 182, 177] = true := by decide +kernel
theorem dX1_addQuestions_119 : decode cX1_addQuestions 119 = .ok (.goto (-74), 3) := dko_167 dwX1_addQuestions_119
theorem dX1_addQuestions_122 : decode cX1_addQuestions 122 = .ok (.return_, 1) := dko_177 (dk_t 3 122 [177] dwX1_addQuestions_119 rfl rfl)
theorem dwX1_offerByRows_0 : dkW cX1_offerByRows 0 [43, 180, 0, 73, 184, 0, 31, 153, 0, 15, 42, 180, 0, 9] = true := by decide +kernel
theorem dX1_offerByRows_0 : decode cX1_offerByRows 0 = .ok (.aload_n 1, 1) := dko_43 dwX1_offerByRows_0
theorem dX1_offerByRows_1 : decode cX1_offerByRows 1 = .ok (.getfield 73, 3) := dko_180 (dk_t 1 1 [180, 0, 73, 184, 0, 31, 153, 0, 15, 42, 180, 0, 9] dwX1_offerByRows_0 rfl rfl)
theorem dX1_offerByRows_4 : decode cX1_offerByRows 4 = .ok (.invokestatic 31, 3) := dko_184 (dk_t 4 4 [184, 0, 31, 153, 0, 15, 42, 180, 0, 9] dwX1_offerByRows_0 rfl rfl)
theorem dX1_offerByRows_7 : decode cX1_offerByRows 7 = .ok (.ifCond .eq 15, 3) := dko_153 (dk_t 7 7 [153, 0, 15, 42, 180, 0, 9] dwX1_offerByRows_0 rfl rfl)
theorem dX1_offerByRows_10 : decode cX1_offerByRows 10 = .ok (.aload_n 0, 1) := dko_42 (dk_t 10 10 [42, 180, 0, 9] dwX1_offerByRows_0 rfl rfl)
theorem dX1_offerByRows_11 : decode cX1_offerByRows 11 = .ok (.getfield 9, 3) := dko_180 (dk_t 11 11 [180, 0, 9] dwX1_offerByRows_0 rfl rfl)
theorem dwX1_offerByRows_14 : dkW cX1_offerByRows 14 [43, 180, 0, 73, 46, 167, 0, 4, 3, 54, 4, 43] = true := by decide +kernel
theorem dX1_offerByRows_14 : decode cX1_offerByRows 14 = .ok (.aload_n 1, 1) := dko_43 dwX1_offerByRows_14
theorem dX1_offerByRows_15 : decode cX1_offerByRows 15 = .ok (.getfield 73, 3) := dko_180 (dk_t 1 15 [180, 0, 73, 46, 167, 0, 4, 3, 54, 4, 43] dwX1_offerByRows_14 rfl rfl)
theorem dX1_offerByRows_18 : decode cX1_offerByRows 18 = .ok (.iaload, 1) := dko_46 (dk_t 4 18 [46, 167, 0, 4, 3, 54, 4, 43] dwX1_offerByRows_14 rfl rfl)
theorem dX1_offerByRows_19 : decode cX1_offerByRows 19 = .ok (.goto 4, 3) := dko_167 (dk_t 5 19 [167, 0, 4, 3, 54, 4, 43] dwX1_offerByRows_14 rfl rfl)
theorem dX1_offerByRows_22 : decode cX1_offerByRows 22 = .ok (.iconst 0, 1) := dko_3 (dk_t 8 22 [3, 54, 4, 43] dwX1_offerByRows_14 rfl rfl)
theorem dX1_offerByRows_23 : decode cX1_offerByRows 23 = .ok (.istore 4, 2) := dko_54 (dk_t 9 23 [54, 4, 43] dwX1_offerByRows_14 rfl rfl)
theorem dX1_offerByRows_25 : decode cX1_offerByRows 25 = .ok (.aload_n 1, 1) := dko_43 (dk_t 11 25 [43] dwX1_offerByRows_14 rfl rfl)
theorem dwX1_offerByRows_26 : dkW cX1_offerByRows 26 [180, 0, 76, 5, 159, 0, 11, 43, 180, 0, 76, 8] = true := by decide +kernel
theorem dX1_offerByRows_26 : decode cX1_offerByRows 26 = .ok (.getfield 76, 3) := dko_180 dwX1_offerByRows_26
theorem dX1_offerByRows_29 : decode cX1_offerByRows 29 = .ok (.iconst 2, 1) := dko_5 (dk_t 3 29 [5, 159, 0, 11, 43, 180, 0, 76, 8] dwX1_offerByRows_26 rfl rfl)
theorem dX1_offerByRows_30 : decode cX1_offerByRows 30 = .ok (.if_icmp .eq 11, 3) := dko_159 (dk_t 4 30 [159, 0, 11, 43, 180, 0, 76, 8] dwX1_offerByRows_26 rfl rfl)
theorem dX1_offerByRows_33 : decode cX1_offerByRows 33 = .ok (.aload_n 1, 1) := dko_43 (dk_t 7 33 [43, 180, 0, 76, 8] dwX1_offerByRows_26 rfl rfl)
theorem dX1_offerByRows_34 : decode cX1_offerByRows 34 = .ok (.getfield 76, 3) := dko_180 (dk_t 8 34 [180, 0, 76, 8] dwX1_offerByRows_26 rfl rfl)
theorem dX1_offerByRows_37 : decode cX1_offerByRows 37 = .ok (.iconst 5, 1) := dko_8 (dk_t 11 37 [8] dwX1_offerByRows_26 rfl rfl)
theorem dwX1_offerByRows_38 : dkW cX1_offerByRows 38 [160, 0, 10, 42, 21, 4, 182, 0, 55, 177, 3, 54, 5] = true := by decide +kernel
theorem dX1_offerByRows_38 : decode cX1_offerByRows 38 = .ok (.if_icmp .ne 10, 3) := dko_160 dwX1_offerByRows_38
theorem dX1_offerByRows_41 : decode cX1_offerByRows 41 = .ok (.aload_n 0, 1) := dko_42 (dk_t 3 41 [42, 21, 4, 182, 0, 55, 177, 3, 54, 5] dwX1_offerByRows_38 rfl rfl)
theorem dX1_offerByRows_42 : decode cX1_offerByRows 42 = .ok (.iload 4, 2) := dko_21 (dk_t 4 42 [21, 4, 182, 0, 55, 177, 3, 54, 5] dwX1_offerByRows_38 rfl rfl)
theorem dX1_offerByRows_44 : decode cX1_offerByRows 44 = .ok (.invokevirtual 55, 3) := dko_182 (dk_t 6 44 [182, 0, 55, 177, 3, 54, 5] dwX1_offerByRows_38 rfl rfl)
theorem dX1_offerByRows_47 : decode cX1_offerByRows 47 = .ok (.return_, 1) := dko_177 (dk_t 9 47 [177, 3, 54, 5] dwX1_offerByRows_38 rfl rfl)
theorem dX1_offerByRows_48 : decode cX1_offerByRows 48 = .ok (.iconst 0, 1) := dko_3 (dk_t 10 48 [3, 54, 5] dwX1_offerByRows_38 rfl rfl)
theorem dX1_offerByRows_49 : decode cX1_offerByRows 49 = .ok (.istore 5, 2) := dko_54 (dk_t 11 49 [54, 5] dwX1_offerByRows_38 rfl rfl)
theorem dwX1_offerByRows_51 : dkW cX1_offerByRows 51 [21, 5, 16, 30, 162, 0, 36, 21, 4, 21, 5, 122] = true := by decide +kernel
theorem dX1_offerByRows_51 : decode cX1_offerByRows 51 = .ok (.iload 5, 2) := dko_21 dwX1_offerByRows_51
theorem dX1_offerByRows_53 : decode cX1_offerByRows 53 = .ok (.bipush 30, 2) := dko_16 (dk_t 2 53 [16, 30, 162, 0, 36, 21, 4, 21, 5, 122] dwX1_offerByRows_51 rfl rfl)
theorem dX1_offerByRows_55 : decode cX1_offerByRows 55 = .ok (.if_icmp .ge 36, 3) := dko_162 (dk_t 4 55 [162, 0, 36, 21, 4, 21, 5, 122] dwX1_offerByRows_51 rfl rfl)
theorem dX1_offerByRows_58 : decode cX1_offerByRows 58 = .ok (.iload 4, 2) := dko_21 (dk_t 7 58 [21, 4, 21, 5, 122] dwX1_offerByRows_51 rfl rfl)
theorem dX1_offerByRows_60 : decode cX1_offerByRows 60 = .ok (.iload 5, 2) := dko_21 (dk_t 9 60 [21, 5, 122] dwX1_offerByRows_51 rfl rfl)
theorem dX1_offerByRows_62 : decode cX1_offerByRows 62 = .ok (.ishr, 1) := dko_122 (dk_t 11 62 [122] dwX1_offerByRows_51 rfl rfl)
theorem dwX1_offerByRows_63 : dkW cX1_offerByRows 63 [153, 0, 28, 21, 4, 21, 5, 122, 4, 126, 153, 0, 12, 42] = true := by decide +kernel
theorem dX1_offerByRows_63 : decode cX1_offerByRows 63 = .ok (.ifCond .eq 28, 3) := dko_153 dwX1_offerByRows_63
theorem dX1_offerByRows_66 : decode cX1_offerByRows 66 = .ok (.iload 4, 2) := dko_21 (dk_t 3 66 [21, 4, 21, 5, 122, 4, 126, 153, 0, 12, 42] dwX1_offerByRows_63 rfl rfl)
theorem dX1_offerByRows_68 : decode cX1_offerByRows 68 = .ok (.iload 5, 2) := dko_21 (dk_t 5 68 [21, 5, 122, 4, 126, 153, 0, 12, 42] dwX1_offerByRows_63 rfl rfl)
theorem dX1_offerByRows_70 : decode cX1_offerByRows 70 = .ok (.ishr, 1) := dko_122 (dk_t 7 70 [122, 4, 126, 153, 0, 12, 42] dwX1_offerByRows_63 rfl rfl)
theorem dX1_offerByRows_71 : decode cX1_offerByRows 71 = .ok (.iconst 1, 1) := dko_4 (dk_t 8 71 [4, 126, 153, 0, 12, 42] dwX1_offerByRows_63 rfl rfl)
theorem dX1_offerByRows_72 : decode cX1_offerByRows 72 = .ok (.iand, 1) := dko_126 (dk_t 9 72 [126, 153, 0, 12, 42] dwX1_offerByRows_63 rfl rfl)
theorem dX1_offerByRows_73 : decode cX1_offerByRows 73 = .ok (.ifCond .eq 12, 3) := dko_153 (dk_t 10 73 [153, 0, 12, 42] dwX1_offerByRows_63 rfl rfl)
theorem dX1_offerByRows_76 : decode cX1_offerByRows 76 = .ok (.aload_n 0, 1) := dko_42 (dk_t 13 76 [42] dwX1_offerByRows_63 rfl rfl)
theorem dwX1_offerByRows_77 : dkW cX1_offerByRows 77 [43, 44, 45, 21, 5, 182, 0, 79, 132, 5, 1, 167, 255, 219] = true := by decide +kernel
theorem dX1_offerByRows_77 : decode cX1_offerByRows 77 = .ok (.aload_n 1, 1) := dko_43 dwX1_offerByRows_77
theorem dX1_offerByRows_78 : decode cX1_offerByRows 78 = .ok (.aload_n 2, 1) := dko_44 (dk_t 1 78 [44, 45, 21, 5, 182, 0, 79, 132, 5, 1, 167, 255, 219] dwX1_offerByRows_77 rfl rfl)
theorem dX1_offerByRows_79 : decode cX1_offerByRows 79 = .ok (.aload_n 3, 1) := dko_45 (dk_t 2 79 [45, 21, 5, 182, 0, 79, 132, 5, 1, 167, 255, 219] dwX1_offerByRows_77 rfl rfl)
theorem dX1_offerByRows_80 : decode cX1_offerByRows 80 = .ok (.iload 5, 2) := dko_21 (dk_t 3 80 [21, 5, 182, 0, 79, 132, 5, 1, 167, 255, 219] dwX1_offerByRows_77 rfl rfl)
theorem dX1_offerByRows_82 : decode cX1_offerByRows 82 = .ok (.invokevirtual 79, 3) := dko_182 (dk_t 5 82 [182, 0, 79, 132, 5, 1, 167, 255, 219] dwX1_offerByRows_77 rfl rfl)
theorem dX1_offerByRows_85 : decode cX1_offerByRows 85 = .ok (.iinc 5 1, 3) := dko_132 (dk_t 8 85 [132, 5, 1, 167, 255, 219] dwX1_offerByRows_77 rfl rfl)
theorem dX1_offerByRows_88 : decode cX1_offerByRows 88 = .ok (.goto (-37), 3) := dko_167 (dk_t 11 88 [167, 255, 219] dwX1_offerByRows_77 rfl rfl)
theorem dwX1_offerByRows_91 : dkW cX1_offerByRows 91 [177] = true := by decide +kernel
theorem dX1_offerByRows_91 : decode cX1_offerByRows 91 = .ok (.return_, 1) := dko_177 dwX1_offerByRows_91
theorem dwX1_offerValues_0 : dkW cX1_offerValues 0 [44, 43, 180, 0, 73, 21, 4, 43, 180, 0, 83, 182, 0, 86] = true := by decide +kernel
theorem dX1_offerValues_0 : decode cX1_offerValues 0 = .ok (.aload_n 2, 1) := dko_44 dwX1_offerValues_0
theorem dX1_offerValues_1 : decode cX1_offerValues 1 = .ok (.aload_n 1, 1) := dko_43 (dk_t 1 1 [43, 180, 0, 73, 21, 4, 43, 180, 0, 83, 182, 0, 86] dwX1_offerValues_0 rfl rfl)
theorem dX1_offerValues_2 : decode cX1_offerValues 2 = .ok (.getfield 73, 3) := dko_180 (dk_t 2 2 [180, 0, 73, 21, 4, 43, 180, 0, 83, 182, 0, 86] dwX1_offerValues_0 rfl rfl)
theorem dX1_offerValues_5 : decode cX1_offerValues 5 = .ok (.iload 4, 2) := dko_21 (dk_t 5 5 [21, 4, 43, 180, 0, 83, 182, 0, 86] dwX1_offerValues_0 rfl rfl)
theorem dX1_offerValues_7 : decode cX1_offerValues 7 = .ok (.aload_n 1, 1) := dko_43 (dk_t 7 7 [43, 180, 0, 83, 182, 0, 86] dwX1_offerValues_0 rfl rfl)
theorem dX1_offerValues_8 : decode cX1_offerValues 8 = .ok (.getfield 83, 3) := dko_180 (dk_t 8 8 [180, 0, 83, 182, 0, 86] dwX1_offerValues_0 rfl rfl)
theorem dX1_offerValues_11 : decode cX1_offerValues 11 = .ok (.invokevirtual 86, 3) := dko_182 (dk_t 11 11 [182, 0, 86] dwX1_offerValues_0 rfl rfl)
theorem dwX1_offerValues_14 : dkW cX1_offerValues 14 [54, 5, 45, 43, 180, 0, 73, 21, 4, 43, 180, 0, 83] = true := by decide +kernel
theorem dX1_offerValues_14 : decode cX1_offerValues 14 = .ok (.istore 5, 2) := dko_54 dwX1_offerValues_14
theorem dX1_offerValues_16 : decode cX1_offerValues 16 = .ok (.aload_n 3, 1) := dko_45 (dk_t 2 16 [45, 43, 180, 0, 73, 21, 4, 43, 180, 0, 83] dwX1_offerValues_14 rfl rfl)
theorem dX1_offerValues_17 : decode cX1_offerValues 17 = .ok (.aload_n 1, 1) := dko_43 (dk_t 3 17 [43, 180, 0, 73, 21, 4, 43, 180, 0, 83] dwX1_offerValues_14 rfl rfl)
theorem dX1_offerValues_18 : decode cX1_offerValues 18 = .ok (.getfield 73, 3) := dko_180 (dk_t 4 18 [180, 0, 73, 21, 4, 43, 180, 0, 83] dwX1_offerValues_14 rfl rfl)
theorem dX1_offerValues_21 : decode cX1_offerValues 21 = .ok (.iload 4, 2) := dko_21 (dk_t 7 21 [21, 4, 43, 180, 0, 83] dwX1_offerValues_14 rfl rfl)
theorem dX1_offerValues_23 : decode cX1_offerValues 23 = .ok (.aload_n 1, 1) := dko_43 (dk_t 9 23 [43, 180, 0, 83] dwX1_offerValues_14 rfl rfl)
theorem dX1_offerValues_24 : decode cX1_offerValues 24 = .ok (.getfield 83, 3) := dko_180 (dk_t 10 24 [180, 0, 83] dwX1_offerValues_14 rfl rfl)
theorem dwX1_offerValues_27 : dkW cX1_offerValues 27 [182, 0, 86, 54, 6, 21, 5, 21, 6, 160, 0, 12, 43] = true := by decide +kernel
theorem dX1_offerValues_27 : decode cX1_offerValues 27 = .ok (.invokevirtual 86, 3) := dko_182 dwX1_offerValues_27
theorem dX1_offerValues_30 : decode cX1_offerValues 30 = .ok (.istore 6, 2) := dko_54 (dk_t 3 30 [54, 6, 21, 5, 21, 6, 160, 0, 12, 43] dwX1_offerValues_27 rfl rfl)
theorem dX1_offerValues_32 : decode cX1_offerValues 32 = .ok (.iload 5, 2) := dko_21 (dk_t 5 32 [21, 5, 21, 6, 160, 0, 12, 43] dwX1_offerValues_27 rfl rfl)
theorem dX1_offerValues_34 : decode cX1_offerValues 34 = .ok (.iload 6, 2) := dko_21 (dk_t 7 34 [21, 6, 160, 0, 12, 43] dwX1_offerValues_27 rfl rfl)
theorem dX1_offerValues_36 : decode cX1_offerValues 36 = .ok (.if_icmp .ne 12, 3) := dko_160 (dk_t 9 36 [160, 0, 12, 43] dwX1_offerValues_27 rfl rfl)
theorem dX1_offerValues_39 : decode cX1_offerValues 39 = .ok (.aload_n 1, 1) := dko_43 (dk_t 12 39 [43] dwX1_offerValues_27 rfl rfl)
theorem dwX1_offerValues_40 : dkW cX1_offerValues 40 [180, 0, 76, 6, 159, 0, 4, 177, 43, 21, 5, 182, 0, 90] = true := by decide +kernel
theorem dX1_offerValues_40 : decode cX1_offerValues 40 = .ok (.getfield 76, 3) := dko_180 dwX1_offerValues_40
theorem dX1_offerValues_43 : decode cX1_offerValues 43 = .ok (.iconst 3, 1) := dko_6 (dk_t 3 43 [6, 159, 0, 4, 177, 43, 21, 5, 182, 0, 90] dwX1_offerValues_40 rfl rfl)
theorem dX1_offerValues_44 : decode cX1_offerValues 44 = .ok (.if_icmp .eq 4, 3) := dko_159 (dk_t 4 44 [159, 0, 4, 177, 43, 21, 5, 182, 0, 90] dwX1_offerValues_40 rfl rfl)
theorem dX1_offerValues_47 : decode cX1_offerValues 47 = .ok (.return_, 1) := dko_177 (dk_t 7 47 [177, 43, 21, 5, 182, 0, 90] dwX1_offerValues_40 rfl rfl)
theorem dX1_offerValues_48 : decode cX1_offerValues 48 = .ok (.aload_n 1, 1) := dko_43 (dk_t 8 48 [43, 21, 5, 182, 0, 90] dwX1_offerValues_40 rfl rfl)
theorem dX1_offerValues_49 : decode cX1_offerValues 49 = .ok (.iload 5, 2) := dko_21 (dk_t 9 49 [21, 5, 182, 0, 90] dwX1_offerValues_40 rfl rfl)
theorem dX1_offerValues_51 : decode cX1_offerValues 51 = .ok (.invokevirtual 90, 3) := dko_182 (dk_t 11 51 [182, 0, 90] dwX1_offerValues_40 rfl rfl)
theorem dwX1_offerValues_54 : dkW cX1_offerValues 54 [153, 0, 9, 42, 21, 5, 182, 0, 93, 43, 21, 6] = true := by decide +kernel
theorem dX1_offerValues_54 : decode cX1_offerValues 54 = .ok (.ifCond .eq 9, 3) := dko_153 dwX1_offerValues_54
theorem dX1_offerValues_57 : decode cX1_offerValues 57 = .ok (.aload_n 0, 1) := dko_42 (dk_t 3 57 [42, 21, 5, 182, 0, 93, 43, 21, 6] dwX1_offerValues_54 rfl rfl)
theorem dX1_offerValues_58 : decode cX1_offerValues 58 = .ok (.iload 5, 2) := dko_21 (dk_t 4 58 [21, 5, 182, 0, 93, 43, 21, 6] dwX1_offerValues_54 rfl rfl)
theorem dX1_offerValues_60 : decode cX1_offerValues 60 = .ok (.invokevirtual 93, 3) := dko_182 (dk_t 6 60 [182, 0, 93, 43, 21, 6] dwX1_offerValues_54 rfl rfl)
theorem dX1_offerValues_63 : decode cX1_offerValues 63 = .ok (.aload_n 1, 1) := dko_43 (dk_t 9 63 [43, 21, 6] dwX1_offerValues_54 rfl rfl)
theorem dX1_offerValues_64 : decode cX1_offerValues 64 = .ok (.iload 6, 2) := dko_21 (dk_t 10 64 [21, 6] dwX1_offerValues_54 rfl rfl)
theorem dwX1_offerValues_66 : dkW cX1_offerValues 66 [182, 0, 90, 153, 0, 9, 42, 21, 6, 182, 0, 93, 177] = true := by decide +kernel
theorem dX1_offerValues_66 : decode cX1_offerValues 66 = .ok (.invokevirtual 90, 3) := dko_182 dwX1_offerValues_66
theorem dX1_offerValues_69 : decode cX1_offerValues 69 = .ok (.ifCond .eq 9, 3) := dko_153 (dk_t 3 69 [153, 0, 9, 42, 21, 6, 182, 0, 93, 177] dwX1_offerValues_66 rfl rfl)
theorem dX1_offerValues_72 : decode cX1_offerValues 72 = .ok (.aload_n 0, 1) := dko_42 (dk_t 6 72 [42, 21, 6, 182, 0, 93, 177] dwX1_offerValues_66 rfl rfl)
theorem dX1_offerValues_73 : decode cX1_offerValues 73 = .ok (.iload 6, 2) := dko_21 (dk_t 7 73 [21, 6, 182, 0, 93, 177] dwX1_offerValues_66 rfl rfl)
theorem dX1_offerValues_75 : decode cX1_offerValues 75 = .ok (.invokevirtual 93, 3) := dko_182 (dk_t 9 75 [182, 0, 93, 177] dwX1_offerValues_66 rfl rfl)
theorem dX1_offerValues_78 : decode cX1_offerValues 78 = .ok (.return_, 1) := dko_177 (dk_t 12 78 [177] dwX1_offerValues_66 rfl rfl)
theorem dwX1_offerKeys_0 : dkW cX1_offerKeys 0 [3, 61, 28, 16, 30, 162, 0, 28, 27, 28, 122, 153, 0, 22] = true := by decide +kernel
theorem dX1_offerKeys_0 : decode cX1_offerKeys 0 = .ok (.iconst 0, 1) := dko_3 dwX1_offerKeys_0
theorem dX1_offerKeys_1 : decode cX1_offerKeys 1 = .ok (.istore_n 2, 1) := dko_61 (dk_t 1 1 [61, 28, 16, 30, 162, 0, 28, 27, 28, 122, 153, 0, 22] dwX1_offerKeys_0 rfl rfl)
theorem dX1_offerKeys_2 : decode cX1_offerKeys 2 = .ok (.iload_n 2, 1) := dko_28 (dk_t 2 2 [28, 16, 30, 162, 0, 28, 27, 28, 122, 153, 0, 22] dwX1_offerKeys_0 rfl rfl)
theorem dX1_offerKeys_3 : decode cX1_offerKeys 3 = .ok (.bipush 30, 2) := dko_16 (dk_t 3 3 [16, 30, 162, 0, 28, 27, 28, 122, 153, 0, 22] dwX1_offerKeys_0 rfl rfl)
theorem dX1_offerKeys_5 : decode cX1_offerKeys 5 = .ok (.if_icmp .ge 28, 3) := dko_162 (dk_t 5 5 [162, 0, 28, 27, 28, 122, 153, 0, 22] dwX1_offerKeys_0 rfl rfl)
theorem dX1_offerKeys_8 : decode cX1_offerKeys 8 = .ok (.iload_n 1, 1) := dko_27 (dk_t 8 8 [27, 28, 122, 153, 0, 22] dwX1_offerKeys_0 rfl rfl)
theorem dX1_offerKeys_9 : decode cX1_offerKeys 9 = .ok (.iload_n 2, 1) := dko_28 (dk_t 9 9 [28, 122, 153, 0, 22] dwX1_offerKeys_0 rfl rfl)
theorem dX1_offerKeys_10 : decode cX1_offerKeys 10 = .ok (.ishr, 1) := dko_122 (dk_t 10 10 [122, 153, 0, 22] dwX1_offerKeys_0 rfl rfl)
theorem dX1_offerKeys_11 : decode cX1_offerKeys 11 = .ok (.ifCond .eq 22, 3) := dko_153 (dk_t 11 11 [153, 0, 22] dwX1_offerKeys_0 rfl rfl)
theorem dwX1_offerKeys_14 : dkW cX1_offerKeys 14 [27, 28, 122, 4, 126, 153, 0, 8, 42, 28, 182, 0, 93] = true := by decide +kernel
theorem dX1_offerKeys_14 : decode cX1_offerKeys 14 = .ok (.iload_n 1, 1) := dko_27 dwX1_offerKeys_14
theorem dX1_offerKeys_15 : decode cX1_offerKeys 15 = .ok (.iload_n 2, 1) := dko_28 (dk_t 1 15 [28, 122, 4, 126, 153, 0, 8, 42, 28, 182, 0, 93] dwX1_offerKeys_14 rfl rfl)
theorem dX1_offerKeys_16 : decode cX1_offerKeys 16 = .ok (.ishr, 1) := dko_122 (dk_t 2 16 [122, 4, 126, 153, 0, 8, 42, 28, 182, 0, 93] dwX1_offerKeys_14 rfl rfl)
theorem dX1_offerKeys_17 : decode cX1_offerKeys 17 = .ok (.iconst 1, 1) := dko_4 (dk_t 3 17 [4, 126, 153, 0, 8, 42, 28, 182, 0, 93] dwX1_offerKeys_14 rfl rfl)
theorem dX1_offerKeys_18 : decode cX1_offerKeys 18 = .ok (.iand, 1) := dko_126 (dk_t 4 18 [126, 153, 0, 8, 42, 28, 182, 0, 93] dwX1_offerKeys_14 rfl rfl)
theorem dX1_offerKeys_19 : decode cX1_offerKeys 19 = .ok (.ifCond .eq 8, 3) := dko_153 (dk_t 5 19 [153, 0, 8, 42, 28, 182, 0, 93] dwX1_offerKeys_14 rfl rfl)
theorem dX1_offerKeys_22 : decode cX1_offerKeys 22 = .ok (.aload_n 0, 1) := dko_42 (dk_t 8 22 [42, 28, 182, 0, 93] dwX1_offerKeys_14 rfl rfl)
theorem dX1_offerKeys_23 : decode cX1_offerKeys 23 = .ok (.iload_n 2, 1) := dko_28 (dk_t 9 23 [28, 182, 0, 93] dwX1_offerKeys_14 rfl rfl)
theorem dX1_offerKeys_24 : decode cX1_offerKeys 24 = .ok (.invokevirtual 93, 3) := dko_182 (dk_t 10 24 [182, 0, 93] dwX1_offerKeys_14 rfl rfl)
theorem dwX1_offerKeys_27 : dkW cX1_offerKeys 27 [132, 2, 1, 167, 255, 228, 177] = true := by decide +kernel
theorem dX1_offerKeys_27 : decode cX1_offerKeys 27 = .ok (.iinc 2 1, 3) := dko_132 dwX1_offerKeys_27
theorem dX1_offerKeys_30 : decode cX1_offerKeys 30 = .ok (.goto (-28), 3) := dko_167 (dk_t 3 30 [167, 255, 228, 177] dwX1_offerKeys_27 rfl rfl)
theorem dX1_offerKeys_33 : decode cX1_offerKeys 33 = .ok (.return_, 1) := dko_177 (dk_t 6 33 [177] dwX1_offerKeys_27 rfl rfl)
theorem dwX1_insert_0 : dkW cX1_insert 0 [42, 180, 0, 38, 61, 28, 158, 0, 27, 28, 16, 90] = true := by decide +kernel
theorem dX1_insert_0 : decode cX1_insert 0 = .ok (.aload_n 0, 1) := dko_42 dwX1_insert_0
theorem dX1_insert_1 : decode cX1_insert 1 = .ok (.getfield 38, 3) := dko_180 (dk_t 1 1 [180, 0, 38, 61, 28, 158, 0, 27, 28, 16, 90] dwX1_insert_0 rfl rfl)
theorem dX1_insert_4 : decode cX1_insert 4 = .ok (.istore_n 2, 1) := dko_61 (dk_t 4 4 [61, 28, 158, 0, 27, 28, 16, 90] dwX1_insert_0 rfl rfl)
theorem dX1_insert_5 : decode cX1_insert 5 = .ok (.iload_n 2, 1) := dko_28 (dk_t 5 5 [28, 158, 0, 27, 28, 16, 90] dwX1_insert_0 rfl rfl)
theorem dX1_insert_6 : decode cX1_insert 6 = .ok (.ifCond .le 27, 3) := dko_158 (dk_t 6 6 [158, 0, 27, 28, 16, 90] dwX1_insert_0 rfl rfl)
theorem dX1_insert_9 : decode cX1_insert 9 = .ok (.iload_n 2, 1) := dko_28 (dk_t 9 9 [28, 16, 90] dwX1_insert_0 rfl rfl)
theorem dX1_insert_10 : decode cX1_insert 10 = .ok (.bipush 90, 2) := dko_16 (dk_t 10 10 [16, 90] dwX1_insert_0 rfl rfl)
theorem dwX1_insert_12 : dkW cX1_insert 12 [163, 0, 21, 42, 180, 0, 18, 28, 4, 100, 46, 27] = true := by decide +kernel
theorem dX1_insert_12 : decode cX1_insert 12 = .ok (.if_icmp .gt 21, 3) := dko_163 dwX1_insert_12
theorem dX1_insert_15 : decode cX1_insert 15 = .ok (.aload_n 0, 1) := dko_42 (dk_t 3 15 [42, 180, 0, 18, 28, 4, 100, 46, 27] dwX1_insert_12 rfl rfl)
theorem dX1_insert_16 : decode cX1_insert 16 = .ok (.getfield 18, 3) := dko_180 (dk_t 4 16 [180, 0, 18, 28, 4, 100, 46, 27] dwX1_insert_12 rfl rfl)
theorem dX1_insert_19 : decode cX1_insert 19 = .ok (.iload_n 2, 1) := dko_28 (dk_t 7 19 [28, 4, 100, 46, 27] dwX1_insert_12 rfl rfl)
theorem dX1_insert_20 : decode cX1_insert 20 = .ok (.iconst 1, 1) := dko_4 (dk_t 8 20 [4, 100, 46, 27] dwX1_insert_12 rfl rfl)
theorem dX1_insert_21 : decode cX1_insert 21 = .ok (.isub, 1) := dko_100 (dk_t 9 21 [100, 46, 27] dwX1_insert_12 rfl rfl)
theorem dX1_insert_22 : decode cX1_insert 22 = .ok (.iaload, 1) := dko_46 (dk_t 10 22 [46, 27] dwX1_insert_12 rfl rfl)
theorem dX1_insert_23 : decode cX1_insert 23 = .ok (.iload_n 1, 1) := dko_27 (dk_t 11 23 [27] dwX1_insert_12 rfl rfl)
theorem dwX1_insert_24 : dkW cX1_insert 24 [164, 0, 9, 132, 2, 255, 167, 255, 231, 28, 158, 0, 25, 28] = true := by decide +kernel
theorem dX1_insert_24 : decode cX1_insert 24 = .ok (.if_icmp .le 9, 3) := dko_164 dwX1_insert_24
theorem dX1_insert_27 : decode cX1_insert 27 = .ok (.iinc 2 (-1), 3) := dko_132 (dk_t 3 27 [132, 2, 255, 167, 255, 231, 28, 158, 0, 25, 28] dwX1_insert_24 rfl rfl)
theorem dX1_insert_30 : decode cX1_insert 30 = .ok (.goto (-25), 3) := dko_167 (dk_t 6 30 [167, 255, 231, 28, 158, 0, 25, 28] dwX1_insert_24 rfl rfl)
theorem dX1_insert_33 : decode cX1_insert 33 = .ok (.iload_n 2, 1) := dko_28 (dk_t 9 33 [28, 158, 0, 25, 28] dwX1_insert_24 rfl rfl)
theorem dX1_insert_34 : decode cX1_insert 34 = .ok (.ifCond .le 25, 3) := dko_158 (dk_t 10 34 [158, 0, 25, 28] dwX1_insert_24 rfl rfl)
theorem dX1_insert_37 : decode cX1_insert 37 = .ok (.iload_n 2, 1) := dko_28 (dk_t 13 37 [28] dwX1_insert_24 rfl rfl)
theorem dwX1_insert_38 : dkW cX1_insert 38 [16, 90, 163, 0, 19, 42, 180, 0, 18, 28, 4, 100, 46, 27] = true := by decide +kernel
theorem dX1_insert_38 : decode cX1_insert 38 = .ok (.bipush 90, 2) := dko_16 dwX1_insert_38
theorem dX1_insert_40 : decode cX1_insert 40 = .ok (.if_icmp .gt 19, 3) := dko_163 (dk_t 2 40 [163, 0, 19, 42, 180, 0, 18, 28, 4, 100, 46, 27] dwX1_insert_38 rfl rfl)
theorem dX1_insert_43 : decode cX1_insert 43 = .ok (.aload_n 0, 1) := dko_42 (dk_t 5 43 [42, 180, 0, 18, 28, 4, 100, 46, 27] dwX1_insert_38 rfl rfl)
theorem dX1_insert_44 : decode cX1_insert 44 = .ok (.getfield 18, 3) := dko_180 (dk_t 6 44 [180, 0, 18, 28, 4, 100, 46, 27] dwX1_insert_38 rfl rfl)
theorem dX1_insert_47 : decode cX1_insert 47 = .ok (.iload_n 2, 1) := dko_28 (dk_t 9 47 [28, 4, 100, 46, 27] dwX1_insert_38 rfl rfl)
theorem dX1_insert_48 : decode cX1_insert 48 = .ok (.iconst 1, 1) := dko_4 (dk_t 10 48 [4, 100, 46, 27] dwX1_insert_38 rfl rfl)
theorem dX1_insert_49 : decode cX1_insert 49 = .ok (.isub, 1) := dko_100 (dk_t 11 49 [100, 46, 27] dwX1_insert_38 rfl rfl)
theorem dX1_insert_50 : decode cX1_insert 50 = .ok (.iaload, 1) := dko_46 (dk_t 12 50 [46, 27] dwX1_insert_38 rfl rfl)
theorem dX1_insert_51 : decode cX1_insert 51 = .ok (.iload_n 1, 1) := dko_27 (dk_t 13 51 [27] dwX1_insert_38 rfl rfl)
theorem dwX1_insert_52 : dkW cX1_insert 52 [160, 0, 7, 4, 167, 0, 4, 3, 62, 29, 154, 0, 19, 42] = true := by decide +kernel
theorem dX1_insert_52 : decode cX1_insert 52 = .ok (.if_icmp .ne 7, 3) := dko_160 dwX1_insert_52
theorem dX1_insert_55 : decode cX1_insert 55 = .ok (.iconst 1, 1) := dko_4 (dk_t 3 55 [4, 167, 0, 4, 3, 62, 29, 154, 0, 19, 42] dwX1_insert_52 rfl rfl)
theorem dX1_insert_56 : decode cX1_insert 56 = .ok (.goto 4, 3) := dko_167 (dk_t 4 56 [167, 0, 4, 3, 62, 29, 154, 0, 19, 42] dwX1_insert_52 rfl rfl)
theorem dX1_insert_59 : decode cX1_insert 59 = .ok (.iconst 0, 1) := dko_3 (dk_t 7 59 [3, 62, 29, 154, 0, 19, 42] dwX1_insert_52 rfl rfl)
theorem dX1_insert_60 : decode cX1_insert 60 = .ok (.istore_n 3, 1) := dko_62 (dk_t 8 60 [62, 29, 154, 0, 19, 42] dwX1_insert_52 rfl rfl)
theorem dX1_insert_61 : decode cX1_insert 61 = .ok (.iload_n 3, 1) := dko_29 (dk_t 9 61 [29, 154, 0, 19, 42] dwX1_insert_52 rfl rfl)
theorem dX1_insert_62 : decode cX1_insert 62 = .ok (.ifCond .ne 19, 3) := dko_154 (dk_t 10 62 [154, 0, 19, 42] dwX1_insert_52 rfl rfl)
theorem dX1_insert_65 : decode cX1_insert 65 = .ok (.aload_n 0, 1) := dko_42 (dk_t 13 65 [42] dwX1_insert_52 rfl rfl)
theorem dwX1_insert_66 : dkW cX1_insert 66 [180, 0, 38, 155, 0, 12, 42, 180, 0, 38, 16, 90] = true := by decide +kernel
theorem dX1_insert_66 : decode cX1_insert 66 = .ok (.getfield 38, 3) := dko_180 dwX1_insert_66
theorem dX1_insert_69 : decode cX1_insert 69 = .ok (.ifCond .lt 12, 3) := dko_155 (dk_t 3 69 [155, 0, 12, 42, 180, 0, 38, 16, 90] dwX1_insert_66 rfl rfl)
theorem dX1_insert_72 : decode cX1_insert 72 = .ok (.aload_n 0, 1) := dko_42 (dk_t 6 72 [42, 180, 0, 38, 16, 90] dwX1_insert_66 rfl rfl)
theorem dX1_insert_73 : decode cX1_insert 73 = .ok (.getfield 38, 3) := dko_180 (dk_t 7 73 [180, 0, 38, 16, 90] dwX1_insert_66 rfl rfl)
theorem dX1_insert_76 : decode cX1_insert 76 = .ok (.bipush 90, 2) := dko_16 (dk_t 10 76 [16, 90] dwX1_insert_66 rfl rfl)
theorem dwX1_insert_78 : dkW cX1_insert 78 [161, 0, 4, 177, 42, 180, 0, 38, 54, 4, 21, 4, 28] = true := by decide +kernel
theorem dX1_insert_78 : decode cX1_insert 78 = .ok (.if_icmp .lt 4, 3) := dko_161 dwX1_insert_78
theorem dX1_insert_81 : decode cX1_insert 81 = .ok (.return_, 1) := dko_177 (dk_t 3 81 [177, 42, 180, 0, 38, 54, 4, 21, 4, 28] dwX1_insert_78 rfl rfl)
theorem dX1_insert_82 : decode cX1_insert 82 = .ok (.aload_n 0, 1) := dko_42 (dk_t 4 82 [42, 180, 0, 38, 54, 4, 21, 4, 28] dwX1_insert_78 rfl rfl)
theorem dX1_insert_83 : decode cX1_insert 83 = .ok (.getfield 38, 3) := dko_180 (dk_t 5 83 [180, 0, 38, 54, 4, 21, 4, 28] dwX1_insert_78 rfl rfl)
theorem dX1_insert_86 : decode cX1_insert 86 = .ok (.istore 4, 2) := dko_54 (dk_t 8 86 [54, 4, 21, 4, 28] dwX1_insert_78 rfl rfl)
theorem dX1_insert_88 : decode cX1_insert 88 = .ok (.iload 4, 2) := dko_21 (dk_t 10 88 [21, 4, 28] dwX1_insert_78 rfl rfl)
theorem dX1_insert_90 : decode cX1_insert 90 = .ok (.iload_n 2, 1) := dko_28 (dk_t 12 90 [28] dwX1_insert_78 rfl rfl)
theorem dwX1_insert_91 : dkW cX1_insert 91 [164, 0, 32, 21, 4, 16, 90, 162, 0, 25, 42, 180, 0, 18] = true := by decide +kernel
theorem dX1_insert_91 : decode cX1_insert 91 = .ok (.if_icmp .le 32, 3) := dko_164 dwX1_insert_91
theorem dX1_insert_94 : decode cX1_insert 94 = .ok (.iload 4, 2) := dko_21 (dk_t 3 94 [21, 4, 16, 90, 162, 0, 25, 42, 180, 0, 18] dwX1_insert_91 rfl rfl)
theorem dX1_insert_96 : decode cX1_insert 96 = .ok (.bipush 90, 2) := dko_16 (dk_t 5 96 [16, 90, 162, 0, 25, 42, 180, 0, 18] dwX1_insert_91 rfl rfl)
theorem dX1_insert_98 : decode cX1_insert 98 = .ok (.if_icmp .ge 25, 3) := dko_162 (dk_t 7 98 [162, 0, 25, 42, 180, 0, 18] dwX1_insert_91 rfl rfl)
theorem dX1_insert_101 : decode cX1_insert 101 = .ok (.aload_n 0, 1) := dko_42 (dk_t 10 101 [42, 180, 0, 18] dwX1_insert_91 rfl rfl)
theorem dX1_insert_102 : decode cX1_insert 102 = .ok (.getfield 18, 3) := dko_180 (dk_t 11 102 [180, 0, 18] dwX1_insert_91 rfl rfl)
theorem dwX1_insert_105 : dkW cX1_insert 105 [21, 4, 42, 180, 0, 18, 21, 4, 4, 100, 46, 79] = true := by decide +kernel
theorem dX1_insert_105 : decode cX1_insert 105 = .ok (.iload 4, 2) := dko_21 dwX1_insert_105
theorem dX1_insert_107 : decode cX1_insert 107 = .ok (.aload_n 0, 1) := dko_42 (dk_t 2 107 [42, 180, 0, 18, 21, 4, 4, 100, 46, 79] dwX1_insert_105 rfl rfl)
theorem dX1_insert_108 : decode cX1_insert 108 = .ok (.getfield 18, 3) := dko_180 (dk_t 3 108 [180, 0, 18, 21, 4, 4, 100, 46, 79] dwX1_insert_105 rfl rfl)
theorem dX1_insert_111 : decode cX1_insert 111 = .ok (.iload 4, 2) := dko_21 (dk_t 6 111 [21, 4, 4, 100, 46, 79] dwX1_insert_105 rfl rfl)
theorem dX1_insert_113 : decode cX1_insert 113 = .ok (.iconst 1, 1) := dko_4 (dk_t 8 113 [4, 100, 46, 79] dwX1_insert_105 rfl rfl)
theorem dX1_insert_114 : decode cX1_insert 114 = .ok (.isub, 1) := dko_100 (dk_t 9 114 [100, 46, 79] dwX1_insert_105 rfl rfl)
theorem dX1_insert_115 : decode cX1_insert 115 = .ok (.iaload, 1) := dko_46 (dk_t 10 115 [46, 79] dwX1_insert_105 rfl rfl)
theorem dX1_insert_116 : decode cX1_insert 116 = .ok (.iastore, 1) := dko_79 (dk_t 11 116 [79] dwX1_insert_105 rfl rfl)
theorem dwX1_insert_117 : dkW cX1_insert 117 [132, 4, 255, 167, 255, 224, 28, 155, 0, 26, 28, 16, 90] = true := by decide +kernel
theorem dX1_insert_117 : decode cX1_insert 117 = .ok (.iinc 4 (-1), 3) := dko_132 dwX1_insert_117
theorem dX1_insert_120 : decode cX1_insert 120 = .ok (.goto (-32), 3) := dko_167 (dk_t 3 120 [167, 255, 224, 28, 155, 0, 26, 28, 16, 90] dwX1_insert_117 rfl rfl)
theorem dX1_insert_123 : decode cX1_insert 123 = .ok (.iload_n 2, 1) := dko_28 (dk_t 6 123 [28, 155, 0, 26, 28, 16, 90] dwX1_insert_117 rfl rfl)
theorem dX1_insert_124 : decode cX1_insert 124 = .ok (.ifCond .lt 26, 3) := dko_155 (dk_t 7 124 [155, 0, 26, 28, 16, 90] dwX1_insert_117 rfl rfl)
theorem dX1_insert_127 : decode cX1_insert 127 = .ok (.iload_n 2, 1) := dko_28 (dk_t 10 127 [28, 16, 90] dwX1_insert_117 rfl rfl)
theorem dX1_insert_128 : decode cX1_insert 128 = .ok (.bipush 90, 2) := dko_16 (dk_t 11 128 [16, 90] dwX1_insert_117 rfl rfl)
theorem dwX1_insert_130 : dkW cX1_insert 130 [162, 0, 20, 42, 180, 0, 18, 28, 27, 79, 42, 89] = true := by decide +kernel
theorem dX1_insert_130 : decode cX1_insert 130 = .ok (.if_icmp .ge 20, 3) := dko_162 dwX1_insert_130
theorem dX1_insert_133 : decode cX1_insert 133 = .ok (.aload_n 0, 1) := dko_42 (dk_t 3 133 [42, 180, 0, 18, 28, 27, 79, 42, 89] dwX1_insert_130 rfl rfl)
theorem dX1_insert_134 : decode cX1_insert 134 = .ok (.getfield 18, 3) := dko_180 (dk_t 4 134 [180, 0, 18, 28, 27, 79, 42, 89] dwX1_insert_130 rfl rfl)
theorem dX1_insert_137 : decode cX1_insert 137 = .ok (.iload_n 2, 1) := dko_28 (dk_t 7 137 [28, 27, 79, 42, 89] dwX1_insert_130 rfl rfl)
theorem dX1_insert_138 : decode cX1_insert 138 = .ok (.iload_n 1, 1) := dko_27 (dk_t 8 138 [27, 79, 42, 89] dwX1_insert_130 rfl rfl)
theorem dX1_insert_139 : decode cX1_insert 139 = .ok (.iastore, 1) := dko_79 (dk_t 9 139 [79, 42, 89] dwX1_insert_130 rfl rfl)
theorem dX1_insert_140 : decode cX1_insert 140 = .ok (.aload_n 0, 1) := dko_42 (dk_t 10 140 [42, 89] dwX1_insert_130 rfl rfl)
theorem dX1_insert_141 : decode cX1_insert 141 = .ok (.dup, 1) := dko_89 (dk_t 11 141 [89] dwX1_insert_130 rfl rfl)
theorem dwX1_insert_142 : dkW cX1_insert 142 [180, 0, 38, 4, 96, 181, 0, 38, 177] = true := by decide +kernel
theorem dX1_insert_142 : decode cX1_insert 142 = .ok (.getfield 38, 3) := dko_180 dwX1_insert_142
theorem dX1_insert_145 : decode cX1_insert 145 = .ok (.iconst 1, 1) := dko_4 (dk_t 3 145 [4, 96, 181, 0, 38, 177] dwX1_insert_142 rfl rfl)
theorem dX1_insert_146 : decode cX1_insert 146 = .ok (.iadd, 1) := dko_96 (dk_t 4 146 [96, 181, 0, 38, 177] dwX1_insert_142 rfl rfl)
theorem dX1_insert_147 : decode cX1_insert 147 = .ok (.putfield 38, 3) := dko_181 (dk_t 5 147 [181, 0, 38, 177] dwX1_insert_142 rfl rfl)
theorem dX1_insert_150 : decode cX1_insert 150 = .ok (.return_, 1) := dko_177 (dk_t 8 150 [177] dwX1_insert_142 rfl rfl)
theorem dwX1_valuesDiffer_0 : dkW cX1_valuesDiffer 0 [3, 54, 4, 21, 4, 6, 162, 0, 30, 42, 28, 29, 21, 4] = true := by decide +kernel
theorem dX1_valuesDiffer_0 : decode cX1_valuesDiffer 0 = .ok (.iconst 0, 1) := dko_3 dwX1_valuesDiffer_0
theorem dX1_valuesDiffer_1 : decode cX1_valuesDiffer 1 = .ok (.istore 4, 2) := dko_54 (dk_t 1 1 [54, 4, 21, 4, 6, 162, 0, 30, 42, 28, 29, 21, 4] dwX1_valuesDiffer_0 rfl rfl)
theorem dX1_valuesDiffer_3 : decode cX1_valuesDiffer 3 = .ok (.iload 4, 2) := dko_21 (dk_t 3 3 [21, 4, 6, 162, 0, 30, 42, 28, 29, 21, 4] dwX1_valuesDiffer_0 rfl rfl)
theorem dX1_valuesDiffer_5 : decode cX1_valuesDiffer 5 = .ok (.iconst 3, 1) := dko_6 (dk_t 5 5 [6, 162, 0, 30, 42, 28, 29, 21, 4] dwX1_valuesDiffer_0 rfl rfl)
theorem dX1_valuesDiffer_6 : decode cX1_valuesDiffer 6 = .ok (.if_icmp .ge 30, 3) := dko_162 (dk_t 6 6 [162, 0, 30, 42, 28, 29, 21, 4] dwX1_valuesDiffer_0 rfl rfl)
theorem dX1_valuesDiffer_9 : decode cX1_valuesDiffer 9 = .ok (.aload_n 0, 1) := dko_42 (dk_t 9 9 [42, 28, 29, 21, 4] dwX1_valuesDiffer_0 rfl rfl)
theorem dX1_valuesDiffer_10 : decode cX1_valuesDiffer 10 = .ok (.iload_n 2, 1) := dko_28 (dk_t 10 10 [28, 29, 21, 4] dwX1_valuesDiffer_0 rfl rfl)
theorem dX1_valuesDiffer_11 : decode cX1_valuesDiffer 11 = .ok (.iload_n 3, 1) := dko_29 (dk_t 11 11 [29, 21, 4] dwX1_valuesDiffer_0 rfl rfl)
theorem dX1_valuesDiffer_12 : decode cX1_valuesDiffer 12 = .ok (.iload 4, 2) := dko_21 (dk_t 12 12 [21, 4] dwX1_valuesDiffer_0 rfl rfl)
theorem dwX1_valuesDiffer_14 : dkW cX1_valuesDiffer 14 [182, 0, 86, 43, 28, 29, 21, 4, 182, 0, 86, 159, 0, 5] = true := by decide +kernel
theorem dX1_valuesDiffer_14 : decode cX1_valuesDiffer 14 = .ok (.invokevirtual 86, 3) := dko_182 dwX1_valuesDiffer_14
theorem dX1_valuesDiffer_17 : decode cX1_valuesDiffer 17 = .ok (.aload_n 1, 1) := dko_43 (dk_t 3 17 [43, 28, 29, 21, 4, 182, 0, 86, 159, 0, 5] dwX1_valuesDiffer_14 rfl rfl)
theorem dX1_valuesDiffer_18 : decode cX1_valuesDiffer 18 = .ok (.iload_n 2, 1) := dko_28 (dk_t 4 18 [28, 29, 21, 4, 182, 0, 86, 159, 0, 5] dwX1_valuesDiffer_14 rfl rfl)
theorem dX1_valuesDiffer_19 : decode cX1_valuesDiffer 19 = .ok (.iload_n 3, 1) := dko_29 (dk_t 5 19 [29, 21, 4, 182, 0, 86, 159, 0, 5] dwX1_valuesDiffer_14 rfl rfl)
theorem dX1_valuesDiffer_20 : decode cX1_valuesDiffer 20 = .ok (.iload 4, 2) := dko_21 (dk_t 6 20 [21, 4, 182, 0, 86, 159, 0, 5] dwX1_valuesDiffer_14 rfl rfl)
theorem dX1_valuesDiffer_22 : decode cX1_valuesDiffer 22 = .ok (.invokevirtual 86, 3) := dko_182 (dk_t 8 22 [182, 0, 86, 159, 0, 5] dwX1_valuesDiffer_14 rfl rfl)
theorem dX1_valuesDiffer_25 : decode cX1_valuesDiffer 25 = .ok (.if_icmp .eq 5, 3) := dko_159 (dk_t 11 25 [159, 0, 5] dwX1_valuesDiffer_14 rfl rfl)
theorem dwX1_valuesDiffer_28 : dkW cX1_valuesDiffer 28 [4, 172, 132, 4, 1, 167, 255, 226, 3, 172] = true := by decide +kernel
theorem dX1_valuesDiffer_28 : decode cX1_valuesDiffer 28 = .ok (.iconst 1, 1) := dko_4 dwX1_valuesDiffer_28
theorem dX1_valuesDiffer_29 : decode cX1_valuesDiffer 29 = .ok (.ireturn, 1) := dko_172 (dk_t 1 29 [172, 132, 4, 1, 167, 255, 226, 3, 172] dwX1_valuesDiffer_28 rfl rfl)
theorem dX1_valuesDiffer_30 : decode cX1_valuesDiffer 30 = .ok (.iinc 4 1, 3) := dko_132 (dk_t 2 30 [132, 4, 1, 167, 255, 226, 3, 172] dwX1_valuesDiffer_28 rfl rfl)
theorem dX1_valuesDiffer_33 : decode cX1_valuesDiffer 33 = .ok (.goto (-30), 3) := dko_167 (dk_t 5 33 [167, 255, 226, 3, 172] dwX1_valuesDiffer_28 rfl rfl)
theorem dX1_valuesDiffer_36 : decode cX1_valuesDiffer 36 = .ok (.iconst 0, 1) := dko_3 (dk_t 8 36 [3, 172] dwX1_valuesDiffer_28 rfl rfl)
theorem dX1_valuesDiffer_37 : decode cX1_valuesDiffer 37 = .ok (.ireturn, 1) := dko_172 (dk_t 9 37 [172] dwX1_valuesDiffer_28 rfl rfl)
theorem dwX2_init_0 : dkW cX2_init 0 [42, 183, 0, 5, 42, 16, 90, 188, 10, 181, 0, 11, 42] = true := by decide +kernel
theorem dX2_init_0 : decode cX2_init 0 = .ok (.aload_n 0, 1) := dko_42 dwX2_init_0
theorem dX2_init_1 : decode cX2_init 1 = .ok (.invokespecial 5, 3) := dko_183 (dk_t 1 1 [183, 0, 5, 42, 16, 90, 188, 10, 181, 0, 11, 42] dwX2_init_0 rfl rfl)
theorem dX2_init_4 : decode cX2_init 4 = .ok (.aload_n 0, 1) := dko_42 (dk_t 4 4 [42, 16, 90, 188, 10, 181, 0, 11, 42] dwX2_init_0 rfl rfl)
theorem dX2_init_5 : decode cX2_init 5 = .ok (.bipush 90, 2) := dko_16 (dk_t 5 5 [16, 90, 188, 10, 181, 0, 11, 42] dwX2_init_0 rfl rfl)
theorem dX2_init_7 : decode cX2_init 7 = .ok (.newarray .int, 2) := dko_188_10 (dk_t 7 7 [188, 10, 181, 0, 11, 42] dwX2_init_0 rfl rfl)
theorem dX2_init_9 : decode cX2_init 9 = .ok (.putfield 11, 3) := dko_181 (dk_t 9 9 [181, 0, 11, 42] dwX2_init_0 rfl rfl)
theorem dX2_init_12 : decode cX2_init 12 = .ok (.aload_n 0, 1) := dko_42 (dk_t 12 12 [42] dwX2_init_0 rfl rfl)
theorem dwX2_init_13 : dkW cX2_init 13 [16, 90, 188, 10, 181, 0, 15, 42, 16, 90, 188, 10] = true := by decide +kernel
theorem dX2_init_13 : decode cX2_init 13 = .ok (.bipush 90, 2) := dko_16 dwX2_init_13
theorem dX2_init_15 : decode cX2_init 15 = .ok (.newarray .int, 2) := dko_188_10 (dk_t 2 15 [188, 10, 181, 0, 15, 42, 16, 90, 188, 10] dwX2_init_13 rfl rfl)
theorem dX2_init_17 : decode cX2_init 17 = .ok (.putfield 15, 3) := dko_181 (dk_t 4 17 [181, 0, 15, 42, 16, 90, 188, 10] dwX2_init_13 rfl rfl)
theorem dX2_init_20 : decode cX2_init 20 = .ok (.aload_n 0, 1) := dko_42 (dk_t 7 20 [42, 16, 90, 188, 10] dwX2_init_13 rfl rfl)
theorem dX2_init_21 : decode cX2_init 21 = .ok (.bipush 90, 2) := dko_16 (dk_t 8 21 [16, 90, 188, 10] dwX2_init_13 rfl rfl)
theorem dX2_init_23 : decode cX2_init 23 = .ok (.newarray .int, 2) := dko_188_10 (dk_t 10 23 [188, 10] dwX2_init_13 rfl rfl)
theorem dwX2_init_25 : dkW cX2_init 25 [181, 0, 18, 42, 16, 90, 188, 10, 181, 0, 21, 177] = true := by decide +kernel
theorem dX2_init_25 : decode cX2_init 25 = .ok (.putfield 18, 3) := dko_181 dwX2_init_25
theorem dX2_init_28 : decode cX2_init 28 = .ok (.aload_n 0, 1) := dko_42 (dk_t 3 28 [42, 16, 90, 188, 10, 181, 0, 21, 177] dwX2_init_25 rfl rfl)
theorem dX2_init_29 : decode cX2_init 29 = .ok (.bipush 90, 2) := dko_16 (dk_t 4 29 [16, 90, 188, 10, 181, 0, 21, 177] dwX2_init_25 rfl rfl)
theorem dX2_init_31 : decode cX2_init 31 = .ok (.newarray .int, 2) := dko_188_10 (dk_t 6 31 [188, 10, 181, 0, 21, 177] dwX2_init_25 rfl rfl)
theorem dX2_init_33 : decode cX2_init 33 = .ok (.putfield 21, 3) := dko_181 (dk_t 8 33 [181, 0, 21, 177] dwX2_init_25 rfl rfl)
theorem dX2_init_36 : decode cX2_init 36 = .ok (.return_, 1) := dko_177 (dk_t 11 36 [177] dwX2_init_25 rfl rfl)
theorem dwX2_cutRow_0 : dkW cX2_cutRow 0 [42, 3, 181, 0, 24, 42, 43, 29, 21, 4, 182, 0, 28, 3] = true := by decide +kernel
theorem dX2_cutRow_0 : decode cX2_cutRow 0 = .ok (.aload_n 0, 1) := dko_42 dwX2_cutRow_0
theorem dX2_cutRow_1 : decode cX2_cutRow 1 = .ok (.iconst 0, 1) := dko_3 (dk_t 1 1 [3, 181, 0, 24, 42, 43, 29, 21, 4, 182, 0, 28, 3] dwX2_cutRow_0 rfl rfl)
theorem dX2_cutRow_2 : decode cX2_cutRow 2 = .ok (.putfield 24, 3) := dko_181 (dk_t 2 2 [181, 0, 24, 42, 43, 29, 21, 4, 182, 0, 28, 3] dwX2_cutRow_0 rfl rfl)
theorem dX2_cutRow_5 : decode cX2_cutRow 5 = .ok (.aload_n 0, 1) := dko_42 (dk_t 5 5 [42, 43, 29, 21, 4, 182, 0, 28, 3] dwX2_cutRow_0 rfl rfl)
theorem dX2_cutRow_6 : decode cX2_cutRow 6 = .ok (.aload_n 1, 1) := dko_43 (dk_t 6 6 [43, 29, 21, 4, 182, 0, 28, 3] dwX2_cutRow_0 rfl rfl)
theorem dX2_cutRow_7 : decode cX2_cutRow 7 = .ok (.iload_n 3, 1) := dko_29 (dk_t 7 7 [29, 21, 4, 182, 0, 28, 3] dwX2_cutRow_0 rfl rfl)
theorem dX2_cutRow_8 : decode cX2_cutRow 8 = .ok (.iload 4, 2) := dko_21 (dk_t 8 8 [21, 4, 182, 0, 28, 3] dwX2_cutRow_0 rfl rfl)
theorem dX2_cutRow_10 : decode cX2_cutRow 10 = .ok (.invokevirtual 28, 3) := dko_182 (dk_t 10 10 [182, 0, 28, 3] dwX2_cutRow_0 rfl rfl)
theorem dX2_cutRow_13 : decode cX2_cutRow 13 = .ok (.iconst 0, 1) := dko_3 (dk_t 13 13 [3] dwX2_cutRow_0 rfl rfl)
theorem dwX2_cutRow_14 : dkW cX2_cutRow 14 [54, 5, 21, 5, 17, 4, 236, 162, 0, 22, 42, 180, 0, 24] = true := by decide +kernel
theorem dX2_cutRow_14 : decode cX2_cutRow 14 = .ok (.istore 5, 2) := dko_54 dwX2_cutRow_14
theorem dX2_cutRow_16 : decode cX2_cutRow 16 = .ok (.iload 5, 2) := dko_21 (dk_t 2 16 [21, 5, 17, 4, 236, 162, 0, 22, 42, 180, 0, 24] dwX2_cutRow_14 rfl rfl)
theorem dX2_cutRow_18 : decode cX2_cutRow 18 = .ok (.sipush 1260, 3) := dko_17 (dk_t 4 18 [17, 4, 236, 162, 0, 22, 42, 180, 0, 24] dwX2_cutRow_14 rfl rfl)
theorem dX2_cutRow_21 : decode cX2_cutRow 21 = .ok (.if_icmp .ge 22, 3) := dko_162 (dk_t 7 21 [162, 0, 22, 42, 180, 0, 24] dwX2_cutRow_14 rfl rfl)
theorem dX2_cutRow_24 : decode cX2_cutRow 24 = .ok (.aload_n 0, 1) := dko_42 (dk_t 10 24 [42, 180, 0, 24] dwX2_cutRow_14 rfl rfl)
theorem dX2_cutRow_25 : decode cX2_cutRow 25 = .ok (.getfield 24, 3) := dko_180 (dk_t 11 25 [180, 0, 24] dwX2_cutRow_14 rfl rfl)
theorem dwX2_cutRow_28 : dkW cX2_cutRow 28 [158, 0, 15, 42, 43, 44, 182, 0, 32, 132, 5, 1] = true := by decide +kernel
theorem dX2_cutRow_28 : decode cX2_cutRow 28 = .ok (.ifCond .le 15, 3) := dko_158 dwX2_cutRow_28
theorem dX2_cutRow_31 : decode cX2_cutRow 31 = .ok (.aload_n 0, 1) := dko_42 (dk_t 3 31 [42, 43, 44, 182, 0, 32, 132, 5, 1] dwX2_cutRow_28 rfl rfl)
theorem dX2_cutRow_32 : decode cX2_cutRow 32 = .ok (.aload_n 1, 1) := dko_43 (dk_t 4 32 [43, 44, 182, 0, 32, 132, 5, 1] dwX2_cutRow_28 rfl rfl)
theorem dX2_cutRow_33 : decode cX2_cutRow 33 = .ok (.aload_n 2, 1) := dko_44 (dk_t 5 33 [44, 182, 0, 32, 132, 5, 1] dwX2_cutRow_28 rfl rfl)
theorem dX2_cutRow_34 : decode cX2_cutRow 34 = .ok (.invokevirtual 32, 3) := dko_182 (dk_t 6 34 [182, 0, 32, 132, 5, 1] dwX2_cutRow_28 rfl rfl)
theorem dX2_cutRow_37 : decode cX2_cutRow 37 = .ok (.iinc 5 1, 3) := dko_132 (dk_t 9 37 [132, 5, 1] dwX2_cutRow_28 rfl rfl)
theorem dwX2_cutRow_40 : dkW cX2_cutRow 40 [167, 255, 232, 177] = true := by decide +kernel
theorem dX2_cutRow_40 : decode cX2_cutRow 40 = .ok (.goto (-24), 3) := dko_167 dwX2_cutRow_40
theorem dX2_cutRow_43 : decode cX2_cutRow 43 = .ok (.return_, 1) := dko_177 (dk_t 3 43 [177] dwX2_cutRow_40 rfl rfl)
theorem dwX2_moveRow_0 : dkW cX2_moveRow 0 [43, 29, 21, 4, 21, 5, 182, 0, 36, 3, 54, 6, 21, 6] = true := by decide +kernel
theorem dX2_moveRow_0 : decode cX2_moveRow 0 = .ok (.aload_n 1, 1) := dko_43 dwX2_moveRow_0
theorem dX2_moveRow_1 : decode cX2_moveRow 1 = .ok (.iload_n 3, 1) := dko_29 (dk_t 1 1 [29, 21, 4, 21, 5, 182, 0, 36, 3, 54, 6, 21, 6] dwX2_moveRow_0 rfl rfl)
theorem dX2_moveRow_2 : decode cX2_moveRow 2 = .ok (.iload 4, 2) := dko_21 (dk_t 2 2 [21, 4, 21, 5, 182, 0, 36, 3, 54, 6, 21, 6] dwX2_moveRow_0 rfl rfl)
theorem dX2_moveRow_4 : decode cX2_moveRow 4 = .ok (.iload 5, 2) := dko_21 (dk_t 4 4 [21, 5, 182, 0, 36, 3, 54, 6, 21, 6] dwX2_moveRow_0 rfl rfl)
theorem dX2_moveRow_6 : decode cX2_moveRow 6 = .ok (.invokevirtual 36, 3) := dko_182 (dk_t 6 6 [182, 0, 36, 3, 54, 6, 21, 6] dwX2_moveRow_0 rfl rfl)
theorem dX2_moveRow_9 : decode cX2_moveRow 9 = .ok (.iconst 0, 1) := dko_3 (dk_t 9 9 [3, 54, 6, 21, 6] dwX2_moveRow_0 rfl rfl)
theorem dX2_moveRow_10 : decode cX2_moveRow 10 = .ok (.istore 6, 2) := dko_54 (dk_t 10 10 [54, 6, 21, 6] dwX2_moveRow_0 rfl rfl)
theorem dX2_moveRow_12 : decode cX2_moveRow 12 = .ok (.iload 6, 2) := dko_21 (dk_t 12 12 [21, 6] dwX2_moveRow_0 rfl rfl)
theorem dwX2_moveRow_14 : dkW cX2_moveRow 14 [16, 12, 162, 0, 56, 44, 21, 6, 182, 0, 42, 58, 7] = true := by decide +kernel
theorem dX2_moveRow_14 : decode cX2_moveRow 14 = .ok (.bipush 12, 2) := dko_16 dwX2_moveRow_14
theorem dX2_moveRow_16 : decode cX2_moveRow 16 = .ok (.if_icmp .ge 56, 3) := dko_162 (dk_t 2 16 [162, 0, 56, 44, 21, 6, 182, 0, 42, 58, 7] dwX2_moveRow_14 rfl rfl)
theorem dX2_moveRow_19 : decode cX2_moveRow 19 = .ok (.aload_n 2, 1) := dko_44 (dk_t 5 19 [44, 21, 6, 182, 0, 42, 58, 7] dwX2_moveRow_14 rfl rfl)
theorem dX2_moveRow_20 : decode cX2_moveRow 20 = .ok (.iload 6, 2) := dko_21 (dk_t 6 20 [21, 6, 182, 0, 42, 58, 7] dwX2_moveRow_14 rfl rfl)
theorem dX2_moveRow_22 : decode cX2_moveRow 22 = .ok (.invokevirtual 42, 3) := dko_182 (dk_t 8 22 [182, 0, 42, 58, 7] dwX2_moveRow_14 rfl rfl)
theorem dX2_moveRow_25 : decode cX2_moveRow 25 = .ok (.astore 7, 2) := dko_58 (dk_t 11 25 [58, 7] dwX2_moveRow_14 rfl rfl)
theorem dwX2_moveRow_27 : dkW cX2_moveRow 27 [25, 7, 198, 0, 37, 25, 7, 29, 182, 0, 48, 153, 0, 28] = true := by decide +kernel
theorem dX2_moveRow_27 : decode cX2_moveRow 27 = .ok (.aload 7, 2) := dko_25 dwX2_moveRow_27
theorem dX2_moveRow_29 : decode cX2_moveRow 29 = .ok (.ifnull 37, 3) := dko_198 (dk_t 2 29 [198, 0, 37, 25, 7, 29, 182, 0, 48, 153, 0, 28] dwX2_moveRow_27 rfl rfl)
theorem dX2_moveRow_32 : decode cX2_moveRow 32 = .ok (.aload 7, 2) := dko_25 (dk_t 5 32 [25, 7, 29, 182, 0, 48, 153, 0, 28] dwX2_moveRow_27 rfl rfl)
theorem dX2_moveRow_34 : decode cX2_moveRow 34 = .ok (.iload_n 3, 1) := dko_29 (dk_t 7 34 [29, 182, 0, 48, 153, 0, 28] dwX2_moveRow_27 rfl rfl)
theorem dX2_moveRow_35 : decode cX2_moveRow 35 = .ok (.invokevirtual 48, 3) := dko_182 (dk_t 8 35 [182, 0, 48, 153, 0, 28] dwX2_moveRow_27 rfl rfl)
theorem dX2_moveRow_38 : decode cX2_moveRow 38 = .ok (.ifCond .eq 28, 3) := dko_153 (dk_t 11 38 [153, 0, 28] dwX2_moveRow_27 rfl rfl)
theorem dwX2_moveRow_41 : dkW cX2_moveRow 41 [43, 25, 7, 21, 4, 25, 7, 180, 0, 54, 4, 160, 0, 8] = true := by decide +kernel
theorem dX2_moveRow_41 : decode cX2_moveRow 41 = .ok (.aload_n 1, 1) := dko_43 dwX2_moveRow_41
theorem dX2_moveRow_42 : decode cX2_moveRow 42 = .ok (.aload 7, 2) := dko_25 (dk_t 1 42 [25, 7, 21, 4, 25, 7, 180, 0, 54, 4, 160, 0, 8] dwX2_moveRow_41 rfl rfl)
theorem dX2_moveRow_44 : decode cX2_moveRow 44 = .ok (.iload 4, 2) := dko_21 (dk_t 3 44 [21, 4, 25, 7, 180, 0, 54, 4, 160, 0, 8] dwX2_moveRow_41 rfl rfl)
theorem dX2_moveRow_46 : decode cX2_moveRow 46 = .ok (.aload 7, 2) := dko_25 (dk_t 5 46 [25, 7, 180, 0, 54, 4, 160, 0, 8] dwX2_moveRow_41 rfl rfl)
theorem dX2_moveRow_48 : decode cX2_moveRow 48 = .ok (.getfield 54, 3) := dko_180 (dk_t 7 48 [180, 0, 54, 4, 160, 0, 8] dwX2_moveRow_41 rfl rfl)
theorem dX2_moveRow_51 : decode cX2_moveRow 51 = .ok (.iconst 1, 1) := dko_4 (dk_t 10 51 [4, 160, 0, 8] dwX2_moveRow_41 rfl rfl)
theorem dX2_moveRow_52 : decode cX2_moveRow 52 = .ok (.if_icmp .ne 8, 3) := dko_160 (dk_t 11 52 [160, 0, 8] dwX2_moveRow_41 rfl rfl)
theorem dwX2_moveRow_55 : dkW cX2_moveRow 55 [21, 5, 167, 0, 6, 17, 252, 24, 184, 0, 57, 132, 6, 1] = true := by decide +kernel
theorem dX2_moveRow_55 : decode cX2_moveRow 55 = .ok (.iload 5, 2) := dko_21 dwX2_moveRow_55
theorem dX2_moveRow_57 : decode cX2_moveRow 57 = .ok (.goto 6, 3) := dko_167 (dk_t 2 57 [167, 0, 6, 17, 252, 24, 184, 0, 57, 132, 6, 1] dwX2_moveRow_55 rfl rfl)
theorem dX2_moveRow_60 : decode cX2_moveRow 60 = .ok (.sipush (-1000), 3) := dko_17 (dk_t 5 60 [17, 252, 24, 184, 0, 57, 132, 6, 1] dwX2_moveRow_55 rfl rfl)
theorem dX2_moveRow_63 : decode cX2_moveRow 63 = .ok (.invokestatic 57, 3) := dko_184 (dk_t 8 63 [184, 0, 57, 132, 6, 1] dwX2_moveRow_55 rfl rfl)
theorem dX2_moveRow_66 : decode cX2_moveRow 66 = .ok (.iinc 6 1, 3) := dko_132 (dk_t 11 66 [132, 6, 1] dwX2_moveRow_55 rfl rfl)
theorem dwX2_moveRow_69 : dkW cX2_moveRow 69 [167, 255, 199, 177] = true := by decide +kernel
theorem dX2_moveRow_69 : decode cX2_moveRow 69 = .ok (.goto (-57), 3) := dko_167 dwX2_moveRow_69
theorem dX2_moveRow_72 : decode cX2_moveRow 72 = .ok (.return_, 1) := dko_177 (dk_t 3 72 [177] dwX2_moveRow_69 rfl rfl)
theorem dwX2_replace_0 : dkW cX2_replace 0 [3, 54, 4, 21, 4, 16, 30, 162, 0, 42, 42, 43] = true := by decide +kernel
theorem dX2_replace_0 : decode cX2_replace 0 = .ok (.iconst 0, 1) := dko_3 dwX2_replace_0
theorem dX2_replace_1 : decode cX2_replace 1 = .ok (.istore 4, 2) := dko_54 (dk_t 1 1 [54, 4, 21, 4, 16, 30, 162, 0, 42, 42, 43] dwX2_replace_0 rfl rfl)
theorem dX2_replace_3 : decode cX2_replace 3 = .ok (.iload 4, 2) := dko_21 (dk_t 3 3 [21, 4, 16, 30, 162, 0, 42, 42, 43] dwX2_replace_0 rfl rfl)
theorem dX2_replace_5 : decode cX2_replace 5 = .ok (.bipush 30, 2) := dko_16 (dk_t 5 5 [16, 30, 162, 0, 42, 42, 43] dwX2_replace_0 rfl rfl)
theorem dX2_replace_7 : decode cX2_replace 7 = .ok (.if_icmp .ge 42, 3) := dko_162 (dk_t 7 7 [162, 0, 42, 42, 43] dwX2_replace_0 rfl rfl)
theorem dX2_replace_10 : decode cX2_replace 10 = .ok (.aload_n 0, 1) := dko_42 (dk_t 10 10 [42, 43] dwX2_replace_0 rfl rfl)
theorem dX2_replace_11 : decode cX2_replace 11 = .ok (.aload_n 1, 1) := dko_43 (dk_t 11 11 [43] dwX2_replace_0 rfl rfl)
theorem dwX2_replace_12 : dkW cX2_replace 12 [180, 0, 61, 21, 4, 43, 180, 0, 64, 182, 0, 67, 28] = true := by decide +kernel
theorem dX2_replace_12 : decode cX2_replace 12 = .ok (.getfield 61, 3) := dko_180 dwX2_replace_12
theorem dX2_replace_15 : decode cX2_replace 15 = .ok (.iload 4, 2) := dko_21 (dk_t 3 15 [21, 4, 43, 180, 0, 64, 182, 0, 67, 28] dwX2_replace_12 rfl rfl)
theorem dX2_replace_17 : decode cX2_replace 17 = .ok (.aload_n 1, 1) := dko_43 (dk_t 5 17 [43, 180, 0, 64, 182, 0, 67, 28] dwX2_replace_12 rfl rfl)
theorem dX2_replace_18 : decode cX2_replace 18 = .ok (.getfield 64, 3) := dko_180 (dk_t 6 18 [180, 0, 64, 182, 0, 67, 28] dwX2_replace_12 rfl rfl)
theorem dX2_replace_21 : decode cX2_replace 21 = .ok (.invokevirtual 67, 3) := dko_182 (dk_t 9 21 [182, 0, 67, 28] dwX2_replace_12 rfl rfl)
theorem dX2_replace_24 : decode cX2_replace 24 = .ok (.iload_n 2, 1) := dko_28 (dk_t 12 24 [28] dwX2_replace_12 rfl rfl)
theorem dwX2_replace_25 : dkW cX2_replace 25 [160, 0, 18, 42, 43, 180, 0, 61, 21, 4, 43, 180, 0, 64] = true := by decide +kernel
theorem dX2_replace_25 : decode cX2_replace 25 = .ok (.if_icmp .ne 18, 3) := dko_160 dwX2_replace_25
theorem dX2_replace_28 : decode cX2_replace 28 = .ok (.aload_n 0, 1) := dko_42 (dk_t 3 28 [42, 43, 180, 0, 61, 21, 4, 43, 180, 0, 64] dwX2_replace_25 rfl rfl)
theorem dX2_replace_29 : decode cX2_replace 29 = .ok (.aload_n 1, 1) := dko_43 (dk_t 4 29 [43, 180, 0, 61, 21, 4, 43, 180, 0, 64] dwX2_replace_25 rfl rfl)
theorem dX2_replace_30 : decode cX2_replace 30 = .ok (.getfield 61, 3) := dko_180 (dk_t 5 30 [180, 0, 61, 21, 4, 43, 180, 0, 64] dwX2_replace_25 rfl rfl)
theorem dX2_replace_33 : decode cX2_replace 33 = .ok (.iload 4, 2) := dko_21 (dk_t 8 33 [21, 4, 43, 180, 0, 64] dwX2_replace_25 rfl rfl)
theorem dX2_replace_35 : decode cX2_replace 35 = .ok (.aload_n 1, 1) := dko_43 (dk_t 10 35 [43, 180, 0, 64] dwX2_replace_25 rfl rfl)
theorem dX2_replace_36 : decode cX2_replace 36 = .ok (.getfield 64, 3) := dko_180 (dk_t 11 36 [180, 0, 64] dwX2_replace_25 rfl rfl)
theorem dwX2_replace_39 : dkW cX2_replace 39 [29, 182, 0, 71, 132, 4, 1, 167, 255, 213, 177] = true := by decide +kernel
theorem dX2_replace_39 : decode cX2_replace 39 = .ok (.iload_n 3, 1) := dko_29 dwX2_replace_39
theorem dX2_replace_40 : decode cX2_replace 40 = .ok (.invokevirtual 71, 3) := dko_182 (dk_t 1 40 [182, 0, 71, 132, 4, 1, 167, 255, 213, 177] dwX2_replace_39 rfl rfl)
theorem dX2_replace_43 : decode cX2_replace 43 = .ok (.iinc 4 1, 3) := dko_132 (dk_t 4 43 [132, 4, 1, 167, 255, 213, 177] dwX2_replace_39 rfl rfl)
theorem dX2_replace_46 : decode cX2_replace 46 = .ok (.goto (-43), 3) := dko_167 (dk_t 7 46 [167, 255, 213, 177] dwX2_replace_39 rfl rfl)
theorem dX2_replace_49 : decode cX2_replace 49 = .ok (.return_, 1) := dko_177 (dk_t 10 49 [177] dwX2_replace_39 rfl rfl)
theorem dwX2_descend_0 : dkW cX2_descend 0 [43, 28, 29, 182, 0, 75, 42, 180, 0, 24, 155, 0, 62, 42] = true := by decide +kernel
theorem dX2_descend_0 : decode cX2_descend 0 = .ok (.aload_n 1, 1) := dko_43 dwX2_descend_0
theorem dX2_descend_1 : decode cX2_descend 1 = .ok (.iload_n 2, 1) := dko_28 (dk_t 1 1 [28, 29, 182, 0, 75, 42, 180, 0, 24, 155, 0, 62, 42] dwX2_descend_0 rfl rfl)
theorem dX2_descend_2 : decode cX2_descend 2 = .ok (.iload_n 3, 1) := dko_29 (dk_t 2 2 [29, 182, 0, 75, 42, 180, 0, 24, 155, 0, 62, 42] dwX2_descend_0 rfl rfl)
theorem dX2_descend_3 : decode cX2_descend 3 = .ok (.invokevirtual 75, 3) := dko_182 (dk_t 3 3 [182, 0, 75, 42, 180, 0, 24, 155, 0, 62, 42] dwX2_descend_0 rfl rfl)
theorem dX2_descend_6 : decode cX2_descend 6 = .ok (.aload_n 0, 1) := dko_42 (dk_t 6 6 [42, 180, 0, 24, 155, 0, 62, 42] dwX2_descend_0 rfl rfl)
theorem dX2_descend_7 : decode cX2_descend 7 = .ok (.getfield 24, 3) := dko_180 (dk_t 7 7 [180, 0, 24, 155, 0, 62, 42] dwX2_descend_0 rfl rfl)
theorem dX2_descend_10 : decode cX2_descend 10 = .ok (.ifCond .lt 62, 3) := dko_155 (dk_t 10 10 [155, 0, 62, 42] dwX2_descend_0 rfl rfl)
theorem dX2_descend_13 : decode cX2_descend 13 = .ok (.aload_n 0, 1) := dko_42 (dk_t 13 13 [42] dwX2_descend_0 rfl rfl)
theorem dwX2_descend_14 : dkW cX2_descend 14 [180, 0, 24, 16, 90, 162, 0, 53, 42, 180, 0, 11, 42] = true := by decide +kernel
theorem dX2_descend_14 : decode cX2_descend 14 = .ok (.getfield 24, 3) := dko_180 dwX2_descend_14
theorem dX2_descend_17 : decode cX2_descend 17 = .ok (.bipush 90, 2) := dko_16 (dk_t 3 17 [16, 90, 162, 0, 53, 42, 180, 0, 11, 42] dwX2_descend_14 rfl rfl)
theorem dX2_descend_19 : decode cX2_descend 19 = .ok (.if_icmp .ge 53, 3) := dko_162 (dk_t 5 19 [162, 0, 53, 42, 180, 0, 11, 42] dwX2_descend_14 rfl rfl)
theorem dX2_descend_22 : decode cX2_descend 22 = .ok (.aload_n 0, 1) := dko_42 (dk_t 8 22 [42, 180, 0, 11, 42] dwX2_descend_14 rfl rfl)
theorem dX2_descend_23 : decode cX2_descend 23 = .ok (.getfield 11, 3) := dko_180 (dk_t 9 23 [180, 0, 11, 42] dwX2_descend_14 rfl rfl)
theorem dX2_descend_26 : decode cX2_descend 26 = .ok (.aload_n 0, 1) := dko_42 (dk_t 12 26 [42] dwX2_descend_14 rfl rfl)
theorem dwX2_descend_27 : dkW cX2_descend 27 [180, 0, 24, 28, 79, 42, 180, 0, 15, 42, 180, 0, 24, 29] = true := by decide +kernel
theorem dX2_descend_27 : decode cX2_descend 27 = .ok (.getfield 24, 3) := dko_180 dwX2_descend_27
theorem dX2_descend_30 : decode cX2_descend 30 = .ok (.iload_n 2, 1) := dko_28 (dk_t 3 30 [28, 79, 42, 180, 0, 15, 42, 180, 0, 24, 29] dwX2_descend_27 rfl rfl)
theorem dX2_descend_31 : decode cX2_descend 31 = .ok (.iastore, 1) := dko_79 (dk_t 4 31 [79, 42, 180, 0, 15, 42, 180, 0, 24, 29] dwX2_descend_27 rfl rfl)
theorem dX2_descend_32 : decode cX2_descend 32 = .ok (.aload_n 0, 1) := dko_42 (dk_t 5 32 [42, 180, 0, 15, 42, 180, 0, 24, 29] dwX2_descend_27 rfl rfl)
theorem dX2_descend_33 : decode cX2_descend 33 = .ok (.getfield 15, 3) := dko_180 (dk_t 6 33 [180, 0, 15, 42, 180, 0, 24, 29] dwX2_descend_27 rfl rfl)
theorem dX2_descend_36 : decode cX2_descend 36 = .ok (.aload_n 0, 1) := dko_42 (dk_t 9 36 [42, 180, 0, 24, 29] dwX2_descend_27 rfl rfl)
theorem dX2_descend_37 : decode cX2_descend 37 = .ok (.getfield 24, 3) := dko_180 (dk_t 10 37 [180, 0, 24, 29] dwX2_descend_27 rfl rfl)
theorem dX2_descend_40 : decode cX2_descend 40 = .ok (.iload_n 3, 1) := dko_29 (dk_t 13 40 [29] dwX2_descend_27 rfl rfl)
theorem dwX2_descend_41 : dkW cX2_descend 41 [79, 42, 180, 0, 18, 42, 180, 0, 24, 3, 79, 42] = true := by decide +kernel
theorem dX2_descend_41 : decode cX2_descend 41 = .ok (.iastore, 1) := dko_79 dwX2_descend_41
theorem dX2_descend_42 : decode cX2_descend 42 = .ok (.aload_n 0, 1) := dko_42 (dk_t 1 42 [42, 180, 0, 18, 42, 180, 0, 24, 3, 79, 42] dwX2_descend_41 rfl rfl)
theorem dX2_descend_43 : decode cX2_descend 43 = .ok (.getfield 18, 3) := dko_180 (dk_t 2 43 [180, 0, 18, 42, 180, 0, 24, 3, 79, 42] dwX2_descend_41 rfl rfl)
theorem dX2_descend_46 : decode cX2_descend 46 = .ok (.aload_n 0, 1) := dko_42 (dk_t 5 46 [42, 180, 0, 24, 3, 79, 42] dwX2_descend_41 rfl rfl)
theorem dX2_descend_47 : decode cX2_descend 47 = .ok (.getfield 24, 3) := dko_180 (dk_t 6 47 [180, 0, 24, 3, 79, 42] dwX2_descend_41 rfl rfl)
theorem dX2_descend_50 : decode cX2_descend 50 = .ok (.iconst 0, 1) := dko_3 (dk_t 9 50 [3, 79, 42] dwX2_descend_41 rfl rfl)
theorem dX2_descend_51 : decode cX2_descend 51 = .ok (.iastore, 1) := dko_79 (dk_t 10 51 [79, 42] dwX2_descend_41 rfl rfl)
theorem dX2_descend_52 : decode cX2_descend 52 = .ok (.aload_n 0, 1) := dko_42 (dk_t 11 52 [42] dwX2_descend_41 rfl rfl)
theorem dwX2_descend_53 : dkW cX2_descend 53 [180, 0, 21, 42, 180, 0, 24, 3, 79, 42, 89, 180, 0, 24] = true := by decide +kernel
theorem dX2_descend_53 : decode cX2_descend 53 = .ok (.getfield 21, 3) := dko_180 dwX2_descend_53
theorem dX2_descend_56 : decode cX2_descend 56 = .ok (.aload_n 0, 1) := dko_42 (dk_t 3 56 [42, 180, 0, 24, 3, 79, 42, 89, 180, 0, 24] dwX2_descend_53 rfl rfl)
theorem dX2_descend_57 : decode cX2_descend 57 = .ok (.getfield 24, 3) := dko_180 (dk_t 4 57 [180, 0, 24, 3, 79, 42, 89, 180, 0, 24] dwX2_descend_53 rfl rfl)
theorem dX2_descend_60 : decode cX2_descend 60 = .ok (.iconst 0, 1) := dko_3 (dk_t 7 60 [3, 79, 42, 89, 180, 0, 24] dwX2_descend_53 rfl rfl)
theorem dX2_descend_61 : decode cX2_descend 61 = .ok (.iastore, 1) := dko_79 (dk_t 8 61 [79, 42, 89, 180, 0, 24] dwX2_descend_53 rfl rfl)
theorem dX2_descend_62 : decode cX2_descend 62 = .ok (.aload_n 0, 1) := dko_42 (dk_t 9 62 [42, 89, 180, 0, 24] dwX2_descend_53 rfl rfl)
theorem dX2_descend_63 : decode cX2_descend 63 = .ok (.dup, 1) := dko_89 (dk_t 10 63 [89, 180, 0, 24] dwX2_descend_53 rfl rfl)
theorem dX2_descend_64 : decode cX2_descend 64 = .ok (.getfield 24, 3) := dko_180 (dk_t 11 64 [180, 0, 24] dwX2_descend_53 rfl rfl)
theorem dwX2_descend_67 : dkW cX2_descend 67 [4, 96, 181, 0, 24, 177] = true := by decide +kernel
theorem dX2_descend_67 : decode cX2_descend 67 = .ok (.iconst 1, 1) := dko_4 dwX2_descend_67
theorem dX2_descend_68 : decode cX2_descend 68 = .ok (.iadd, 1) := dko_96 (dk_t 1 68 [96, 181, 0, 24, 177] dwX2_descend_67 rfl rfl)
theorem dX2_descend_69 : decode cX2_descend 69 = .ok (.putfield 24, 3) := dko_181 (dk_t 2 69 [181, 0, 24, 177] dwX2_descend_67 rfl rfl)
theorem dX2_descend_72 : decode cX2_descend 72 = .ok (.return_, 1) := dko_177 (dk_t 5 72 [177] dwX2_descend_67 rfl rfl)
theorem dwX2_goOn_0 : dkW cX2_goOn 0 [42, 180, 0, 24, 4, 100, 62, 29, 155, 0, 9, 29, 16, 90] = true := by decide +kernel
theorem dX2_goOn_0 : decode cX2_goOn 0 = .ok (.aload_n 0, 1) := dko_42 dwX2_goOn_0
theorem dX2_goOn_1 : decode cX2_goOn 1 = .ok (.getfield 24, 3) := dko_180 (dk_t 1 1 [180, 0, 24, 4, 100, 62, 29, 155, 0, 9, 29, 16, 90] dwX2_goOn_0 rfl rfl)
theorem dX2_goOn_4 : decode cX2_goOn 4 = .ok (.iconst 1, 1) := dko_4 (dk_t 4 4 [4, 100, 62, 29, 155, 0, 9, 29, 16, 90] dwX2_goOn_0 rfl rfl)
theorem dX2_goOn_5 : decode cX2_goOn 5 = .ok (.isub, 1) := dko_100 (dk_t 5 5 [100, 62, 29, 155, 0, 9, 29, 16, 90] dwX2_goOn_0 rfl rfl)
theorem dX2_goOn_6 : decode cX2_goOn 6 = .ok (.istore_n 3, 1) := dko_62 (dk_t 6 6 [62, 29, 155, 0, 9, 29, 16, 90] dwX2_goOn_0 rfl rfl)
theorem dX2_goOn_7 : decode cX2_goOn 7 = .ok (.iload_n 3, 1) := dko_29 (dk_t 7 7 [29, 155, 0, 9, 29, 16, 90] dwX2_goOn_0 rfl rfl)
theorem dX2_goOn_8 : decode cX2_goOn 8 = .ok (.ifCond .lt 9, 3) := dko_155 (dk_t 8 8 [155, 0, 9, 29, 16, 90] dwX2_goOn_0 rfl rfl)
theorem dX2_goOn_11 : decode cX2_goOn 11 = .ok (.iload_n 3, 1) := dko_29 (dk_t 11 11 [29, 16, 90] dwX2_goOn_0 rfl rfl)
theorem dX2_goOn_12 : decode cX2_goOn 12 = .ok (.bipush 90, 2) := dko_16 (dk_t 12 12 [16, 90] dwX2_goOn_0 rfl rfl)
theorem dwX2_goOn_14 : dkW cX2_goOn 14 [161, 0, 4, 177, 42, 180, 0, 18, 29, 46, 16, 12] = true := by decide +kernel
theorem dX2_goOn_14 : decode cX2_goOn 14 = .ok (.if_icmp .lt 4, 3) := dko_161 dwX2_goOn_14
theorem dX2_goOn_17 : decode cX2_goOn 17 = .ok (.return_, 1) := dko_177 (dk_t 3 17 [177, 42, 180, 0, 18, 29, 46, 16, 12] dwX2_goOn_14 rfl rfl)
theorem dX2_goOn_18 : decode cX2_goOn 18 = .ok (.aload_n 0, 1) := dko_42 (dk_t 4 18 [42, 180, 0, 18, 29, 46, 16, 12] dwX2_goOn_14 rfl rfl)
theorem dX2_goOn_19 : decode cX2_goOn 19 = .ok (.getfield 18, 3) := dko_180 (dk_t 5 19 [180, 0, 18, 29, 46, 16, 12] dwX2_goOn_14 rfl rfl)
theorem dX2_goOn_22 : decode cX2_goOn 22 = .ok (.iload_n 3, 1) := dko_29 (dk_t 8 22 [29, 46, 16, 12] dwX2_goOn_14 rfl rfl)
theorem dX2_goOn_23 : decode cX2_goOn 23 = .ok (.iaload, 1) := dko_46 (dk_t 9 23 [46, 16, 12] dwX2_goOn_14 rfl rfl)
theorem dX2_goOn_24 : decode cX2_goOn 24 = .ok (.bipush 12, 2) := dko_16 (dk_t 10 24 [16, 12] dwX2_goOn_14 rfl rfl)
theorem dwX2_goOn_26 : dkW cX2_goOn 26 [161, 0, 14, 42, 89, 180, 0, 24, 4, 100, 181, 0, 24, 177] = true := by decide +kernel
theorem dX2_goOn_26 : decode cX2_goOn 26 = .ok (.if_icmp .lt 14, 3) := dko_161 dwX2_goOn_26
theorem dX2_goOn_29 : decode cX2_goOn 29 = .ok (.aload_n 0, 1) := dko_42 (dk_t 3 29 [42, 89, 180, 0, 24, 4, 100, 181, 0, 24, 177] dwX2_goOn_26 rfl rfl)
theorem dX2_goOn_30 : decode cX2_goOn 30 = .ok (.dup, 1) := dko_89 (dk_t 4 30 [89, 180, 0, 24, 4, 100, 181, 0, 24, 177] dwX2_goOn_26 rfl rfl)
theorem dX2_goOn_31 : decode cX2_goOn 31 = .ok (.getfield 24, 3) := dko_180 (dk_t 5 31 [180, 0, 24, 4, 100, 181, 0, 24, 177] dwX2_goOn_26 rfl rfl)
theorem dX2_goOn_34 : decode cX2_goOn 34 = .ok (.iconst 1, 1) := dko_4 (dk_t 8 34 [4, 100, 181, 0, 24, 177] dwX2_goOn_26 rfl rfl)
theorem dX2_goOn_35 : decode cX2_goOn 35 = .ok (.isub, 1) := dko_100 (dk_t 9 35 [100, 181, 0, 24, 177] dwX2_goOn_26 rfl rfl)
theorem dX2_goOn_36 : decode cX2_goOn 36 = .ok (.putfield 24, 3) := dko_181 (dk_t 10 36 [181, 0, 24, 177] dwX2_goOn_26 rfl rfl)
theorem dX2_goOn_39 : decode cX2_goOn 39 = .ok (.return_, 1) := dko_177 (dk_t 13 39 [177] dwX2_goOn_26 rfl rfl)
theorem dwX2_goOn_40 : dkW cX2_goOn 40 [44, 42, 180, 0, 18, 29, 46, 182, 0, 42, 58, 4, 25, 4] = true := by decide +kernel
theorem dX2_goOn_40 : decode cX2_goOn 40 = .ok (.aload_n 2, 1) := dko_44 dwX2_goOn_40
theorem dX2_goOn_41 : decode cX2_goOn 41 = .ok (.aload_n 0, 1) := dko_42 (dk_t 1 41 [42, 180, 0, 18, 29, 46, 182, 0, 42, 58, 4, 25, 4] dwX2_goOn_40 rfl rfl)
theorem dX2_goOn_42 : decode cX2_goOn 42 = .ok (.getfield 18, 3) := dko_180 (dk_t 2 42 [180, 0, 18, 29, 46, 182, 0, 42, 58, 4, 25, 4] dwX2_goOn_40 rfl rfl)
theorem dX2_goOn_45 : decode cX2_goOn 45 = .ok (.iload_n 3, 1) := dko_29 (dk_t 5 45 [29, 46, 182, 0, 42, 58, 4, 25, 4] dwX2_goOn_40 rfl rfl)
theorem dX2_goOn_46 : decode cX2_goOn 46 = .ok (.iaload, 1) := dko_46 (dk_t 6 46 [46, 182, 0, 42, 58, 4, 25, 4] dwX2_goOn_40 rfl rfl)
theorem dX2_goOn_47 : decode cX2_goOn 47 = .ok (.invokevirtual 42, 3) := dko_182 (dk_t 7 47 [182, 0, 42, 58, 4, 25, 4] dwX2_goOn_40 rfl rfl)
theorem dX2_goOn_50 : decode cX2_goOn 50 = .ok (.astore 4, 2) := dko_58 (dk_t 10 50 [58, 4, 25, 4] dwX2_goOn_40 rfl rfl)
theorem dX2_goOn_52 : decode cX2_goOn 52 = .ok (.aload 4, 2) := dko_25 (dk_t 12 52 [25, 4] dwX2_goOn_40 rfl rfl)
theorem dwX2_goOn_54 : dkW cX2_goOn 54 [198, 0, 93, 25, 4, 42, 180, 0, 11, 29, 46, 182, 0, 48] = true := by decide +kernel
theorem dX2_goOn_54 : decode cX2_goOn 54 = .ok (.ifnull 93, 3) := dko_198 dwX2_goOn_54
theorem dX2_goOn_57 : decode cX2_goOn 57 = .ok (.aload 4, 2) := dko_25 (dk_t 3 57 [25, 4, 42, 180, 0, 11, 29, 46, 182, 0, 48] dwX2_goOn_54 rfl rfl)
theorem dX2_goOn_59 : decode cX2_goOn 59 = .ok (.aload_n 0, 1) := dko_42 (dk_t 5 59 [42, 180, 0, 11, 29, 46, 182, 0, 48] dwX2_goOn_54 rfl rfl)
theorem dX2_goOn_60 : decode cX2_goOn 60 = .ok (.getfield 11, 3) := dko_180 (dk_t 6 60 [180, 0, 11, 29, 46, 182, 0, 48] dwX2_goOn_54 rfl rfl)
theorem dX2_goOn_63 : decode cX2_goOn 63 = .ok (.iload_n 3, 1) := dko_29 (dk_t 9 63 [29, 46, 182, 0, 48] dwX2_goOn_54 rfl rfl)
theorem dX2_goOn_64 : decode cX2_goOn 64 = .ok (.iaload, 1) := dko_46 (dk_t 10 64 [46, 182, 0, 48] dwX2_goOn_54 rfl rfl)
theorem dX2_goOn_65 : decode cX2_goOn 65 = .ok (.invokevirtual 48, 3) := dko_182 (dk_t 11 65 [182, 0, 48] dwX2_goOn_54 rfl rfl)
theorem dwX2_goOn_68 : dkW cX2_goOn 68 [153, 0, 79, 25, 4, 180, 0, 54, 5, 160, 0, 21, 43] = true := by decide +kernel
theorem dX2_goOn_68 : decode cX2_goOn 68 = .ok (.ifCond .eq 79, 3) := dko_153 dwX2_goOn_68
theorem dX2_goOn_71 : decode cX2_goOn 71 = .ok (.aload 4, 2) := dko_25 (dk_t 3 71 [25, 4, 180, 0, 54, 5, 160, 0, 21, 43] dwX2_goOn_68 rfl rfl)
theorem dX2_goOn_73 : decode cX2_goOn 73 = .ok (.getfield 54, 3) := dko_180 (dk_t 5 73 [180, 0, 54, 5, 160, 0, 21, 43] dwX2_goOn_68 rfl rfl)
theorem dX2_goOn_76 : decode cX2_goOn 76 = .ok (.iconst 2, 1) := dko_5 (dk_t 8 76 [5, 160, 0, 21, 43] dwX2_goOn_68 rfl rfl)
theorem dX2_goOn_77 : decode cX2_goOn 77 = .ok (.if_icmp .ne 21, 3) := dko_160 (dk_t 9 77 [160, 0, 21, 43] dwX2_goOn_68 rfl rfl)
theorem dX2_goOn_80 : decode cX2_goOn 80 = .ok (.aload_n 1, 1) := dko_43 (dk_t 12 80 [43] dwX2_goOn_68 rfl rfl)
theorem dwX2_goOn_81 : dkW cX2_goOn 81 [25, 4, 42, 180, 0, 15, 29, 46, 17, 252, 24, 184, 0, 57] = true := by decide +kernel
theorem dX2_goOn_81 : decode cX2_goOn 81 = .ok (.aload 4, 2) := dko_25 dwX2_goOn_81
theorem dX2_goOn_83 : decode cX2_goOn 83 = .ok (.aload_n 0, 1) := dko_42 (dk_t 2 83 [42, 180, 0, 15, 29, 46, 17, 252, 24, 184, 0, 57] dwX2_goOn_81 rfl rfl)
theorem dX2_goOn_84 : decode cX2_goOn 84 = .ok (.getfield 15, 3) := dko_180 (dk_t 3 84 [180, 0, 15, 29, 46, 17, 252, 24, 184, 0, 57] dwX2_goOn_81 rfl rfl)
theorem dX2_goOn_87 : decode cX2_goOn 87 = .ok (.iload_n 3, 1) := dko_29 (dk_t 6 87 [29, 46, 17, 252, 24, 184, 0, 57] dwX2_goOn_81 rfl rfl)
theorem dX2_goOn_88 : decode cX2_goOn 88 = .ok (.iaload, 1) := dko_46 (dk_t 7 88 [46, 17, 252, 24, 184, 0, 57] dwX2_goOn_81 rfl rfl)
theorem dX2_goOn_89 : decode cX2_goOn 89 = .ok (.sipush (-1000), 3) := dko_17 (dk_t 8 89 [17, 252, 24, 184, 0, 57] dwX2_goOn_81 rfl rfl)
theorem dX2_goOn_92 : decode cX2_goOn 92 = .ok (.invokestatic 57, 3) := dko_184 (dk_t 11 92 [184, 0, 57] dwX2_goOn_81 rfl rfl)
theorem dwX2_goOn_95 : dkW cX2_goOn 95 [167, 0, 52, 43, 25, 4, 42, 180, 0, 21, 29, 46, 42] = true := by decide +kernel
theorem dX2_goOn_95 : decode cX2_goOn 95 = .ok (.goto 52, 3) := dko_167 dwX2_goOn_95
theorem dX2_goOn_98 : decode cX2_goOn 98 = .ok (.aload_n 1, 1) := dko_43 (dk_t 3 98 [43, 25, 4, 42, 180, 0, 21, 29, 46, 42] dwX2_goOn_95 rfl rfl)
theorem dX2_goOn_99 : decode cX2_goOn 99 = .ok (.aload 4, 2) := dko_25 (dk_t 4 99 [25, 4, 42, 180, 0, 21, 29, 46, 42] dwX2_goOn_95 rfl rfl)
theorem dX2_goOn_101 : decode cX2_goOn 101 = .ok (.aload_n 0, 1) := dko_42 (dk_t 6 101 [42, 180, 0, 21, 29, 46, 42] dwX2_goOn_95 rfl rfl)
theorem dX2_goOn_102 : decode cX2_goOn 102 = .ok (.getfield 21, 3) := dko_180 (dk_t 7 102 [180, 0, 21, 29, 46, 42] dwX2_goOn_95 rfl rfl)
theorem dX2_goOn_105 : decode cX2_goOn 105 = .ok (.iload_n 3, 1) := dko_29 (dk_t 10 105 [29, 46, 42] dwX2_goOn_95 rfl rfl)
theorem dX2_goOn_106 : decode cX2_goOn 106 = .ok (.iaload, 1) := dko_46 (dk_t 11 106 [46, 42] dwX2_goOn_95 rfl rfl)
theorem dX2_goOn_107 : decode cX2_goOn 107 = .ok (.aload_n 0, 1) := dko_42 (dk_t 12 107 [42] dwX2_goOn_95 rfl rfl)
theorem dwX2_goOn_108 : dkW cX2_goOn 108 [180, 0, 15, 29, 46, 184, 0, 79, 54, 5, 21, 5, 2] = true := by decide +kernel
theorem dX2_goOn_108 : decode cX2_goOn 108 = .ok (.getfield 15, 3) := dko_180 dwX2_goOn_108
theorem dX2_goOn_111 : decode cX2_goOn 111 = .ok (.iload_n 3, 1) := dko_29 (dk_t 3 111 [29, 46, 184, 0, 79, 54, 5, 21, 5, 2] dwX2_goOn_108 rfl rfl)
theorem dX2_goOn_112 : decode cX2_goOn 112 = .ok (.iaload, 1) := dko_46 (dk_t 4 112 [46, 184, 0, 79, 54, 5, 21, 5, 2] dwX2_goOn_108 rfl rfl)
theorem dX2_goOn_113 : decode cX2_goOn 113 = .ok (.invokestatic 79, 3) := dko_184 (dk_t 5 113 [184, 0, 79, 54, 5, 21, 5, 2] dwX2_goOn_108 rfl rfl)
theorem dX2_goOn_116 : decode cX2_goOn 116 = .ok (.istore 5, 2) := dko_54 (dk_t 8 116 [54, 5, 21, 5, 2] dwX2_goOn_108 rfl rfl)
theorem dX2_goOn_118 : decode cX2_goOn 118 = .ok (.iload 5, 2) := dko_21 (dk_t 10 118 [21, 5, 2] dwX2_goOn_108 rfl rfl)
theorem dX2_goOn_120 : decode cX2_goOn 120 = .ok (.iconst (-1), 1) := dko_2 (dk_t 12 120 [2] dwX2_goOn_108 rfl rfl)
theorem dwX2_goOn_121 : dkW cX2_goOn 121 [159, 0, 26, 42, 180, 0, 21, 29, 21, 5, 4, 96, 79, 42] = true := by decide +kernel
theorem dX2_goOn_121 : decode cX2_goOn 121 = .ok (.if_icmp .eq 26, 3) := dko_159 dwX2_goOn_121
theorem dX2_goOn_124 : decode cX2_goOn 124 = .ok (.aload_n 0, 1) := dko_42 (dk_t 3 124 [42, 180, 0, 21, 29, 21, 5, 4, 96, 79, 42] dwX2_goOn_121 rfl rfl)
theorem dX2_goOn_125 : decode cX2_goOn 125 = .ok (.getfield 21, 3) := dko_180 (dk_t 4 125 [180, 0, 21, 29, 21, 5, 4, 96, 79, 42] dwX2_goOn_121 rfl rfl)
theorem dX2_goOn_128 : decode cX2_goOn 128 = .ok (.iload_n 3, 1) := dko_29 (dk_t 7 128 [29, 21, 5, 4, 96, 79, 42] dwX2_goOn_121 rfl rfl)
theorem dX2_goOn_129 : decode cX2_goOn 129 = .ok (.iload 5, 2) := dko_21 (dk_t 8 129 [21, 5, 4, 96, 79, 42] dwX2_goOn_121 rfl rfl)
theorem dX2_goOn_131 : decode cX2_goOn 131 = .ok (.iconst 1, 1) := dko_4 (dk_t 10 131 [4, 96, 79, 42] dwX2_goOn_121 rfl rfl)
theorem dX2_goOn_132 : decode cX2_goOn 132 = .ok (.iadd, 1) := dko_96 (dk_t 11 132 [96, 79, 42] dwX2_goOn_121 rfl rfl)
theorem dX2_goOn_133 : decode cX2_goOn 133 = .ok (.iastore, 1) := dko_79 (dk_t 12 133 [79, 42] dwX2_goOn_121 rfl rfl)
theorem dX2_goOn_134 : decode cX2_goOn 134 = .ok (.aload_n 0, 1) := dko_42 (dk_t 13 134 [42] dwX2_goOn_121 rfl rfl)
theorem dwX2_goOn_135 : dkW cX2_goOn 135 [43, 25, 4, 180, 0, 61, 21, 5, 182, 0, 28, 177, 42] = true := by decide +kernel
theorem dX2_goOn_135 : decode cX2_goOn 135 = .ok (.aload_n 1, 1) := dko_43 dwX2_goOn_135
theorem dX2_goOn_136 : decode cX2_goOn 136 = .ok (.aload 4, 2) := dko_25 (dk_t 1 136 [25, 4, 180, 0, 61, 21, 5, 182, 0, 28, 177, 42] dwX2_goOn_135 rfl rfl)
theorem dX2_goOn_138 : decode cX2_goOn 138 = .ok (.getfield 61, 3) := dko_180 (dk_t 3 138 [180, 0, 61, 21, 5, 182, 0, 28, 177, 42] dwX2_goOn_135 rfl rfl)
theorem dX2_goOn_141 : decode cX2_goOn 141 = .ok (.iload 5, 2) := dko_21 (dk_t 6 141 [21, 5, 182, 0, 28, 177, 42] dwX2_goOn_135 rfl rfl)
theorem dX2_goOn_143 : decode cX2_goOn 143 = .ok (.invokevirtual 28, 3) := dko_182 (dk_t 8 143 [182, 0, 28, 177, 42] dwX2_goOn_135 rfl rfl)
theorem dX2_goOn_146 : decode cX2_goOn 146 = .ok (.return_, 1) := dko_177 (dk_t 11 146 [177, 42] dwX2_goOn_135 rfl rfl)
theorem dX2_goOn_147 : decode cX2_goOn 147 = .ok (.aload_n 0, 1) := dko_42 (dk_t 12 147 [42] dwX2_goOn_135 rfl rfl)
theorem dwX2_goOn_148 : dkW cX2_goOn 148 [180, 0, 18, 29, 92, 46, 4, 96, 79, 42, 180, 0, 21, 29] = true := by decide +kernel
theorem dX2_goOn_148 : decode cX2_goOn 148 = .ok (.getfield 18, 3) := dko_180 dwX2_goOn_148
theorem dX2_goOn_151 : decode cX2_goOn 151 = .ok (.iload_n 3, 1) := dko_29 (dk_t 3 151 [29, 92, 46, 4, 96, 79, 42, 180, 0, 21, 29] dwX2_goOn_148 rfl rfl)
theorem dX2_goOn_152 : decode cX2_goOn 152 = .ok (.dup2, 1) := dko_92 (dk_t 4 152 [92, 46, 4, 96, 79, 42, 180, 0, 21, 29] dwX2_goOn_148 rfl rfl)
theorem dX2_goOn_153 : decode cX2_goOn 153 = .ok (.iaload, 1) := dko_46 (dk_t 5 153 [46, 4, 96, 79, 42, 180, 0, 21, 29] dwX2_goOn_148 rfl rfl)
theorem dX2_goOn_154 : decode cX2_goOn 154 = .ok (.iconst 1, 1) := dko_4 (dk_t 6 154 [4, 96, 79, 42, 180, 0, 21, 29] dwX2_goOn_148 rfl rfl)
theorem dX2_goOn_155 : decode cX2_goOn 155 = .ok (.iadd, 1) := dko_96 (dk_t 7 155 [96, 79, 42, 180, 0, 21, 29] dwX2_goOn_148 rfl rfl)
theorem dX2_goOn_156 : decode cX2_goOn 156 = .ok (.iastore, 1) := dko_79 (dk_t 8 156 [79, 42, 180, 0, 21, 29] dwX2_goOn_148 rfl rfl)
theorem dX2_goOn_157 : decode cX2_goOn 157 = .ok (.aload_n 0, 1) := dko_42 (dk_t 9 157 [42, 180, 0, 21, 29] dwX2_goOn_148 rfl rfl)
theorem dX2_goOn_158 : decode cX2_goOn 158 = .ok (.getfield 21, 3) := dko_180 (dk_t 10 158 [180, 0, 21, 29] dwX2_goOn_148 rfl rfl)
theorem dX2_goOn_161 : decode cX2_goOn 161 = .ok (.iload_n 3, 1) := dko_29 (dk_t 13 161 [29] dwX2_goOn_148 rfl rfl)
theorem dwX2_goOn_162 : dkW cX2_goOn 162 [3, 79, 177] = true := by decide +kernel
theorem dX2_goOn_162 : decode cX2_goOn 162 = .ok (.iconst 0, 1) := dko_3 dwX2_goOn_162
theorem dX2_goOn_163 : decode cX2_goOn 163 = .ok (.iastore, 1) := dko_79 (dk_t 1 163 [79, 177] dwX2_goOn_162 rfl rfl)
theorem dX2_goOn_164 : decode cX2_goOn 164 = .ok (.return_, 1) := dko_177 (dk_t 2 164 [177] dwX2_goOn_162 rfl rfl)
theorem dwX2_nextWith_0 : dkW cX2_nextWith 0 [28, 54, 4, 21, 4, 16, 30, 162, 0, 30, 42, 43] = true := by decide +kernel
theorem dX2_nextWith_0 : decode cX2_nextWith 0 = .ok (.iload_n 2, 1) := dko_28 dwX2_nextWith_0
theorem dX2_nextWith_1 : decode cX2_nextWith 1 = .ok (.istore 4, 2) := dko_54 (dk_t 1 1 [54, 4, 21, 4, 16, 30, 162, 0, 30, 42, 43] dwX2_nextWith_0 rfl rfl)
theorem dX2_nextWith_3 : decode cX2_nextWith 3 = .ok (.iload 4, 2) := dko_21 (dk_t 3 3 [21, 4, 16, 30, 162, 0, 30, 42, 43] dwX2_nextWith_0 rfl rfl)
theorem dX2_nextWith_5 : decode cX2_nextWith 5 = .ok (.bipush 30, 2) := dko_16 (dk_t 5 5 [16, 30, 162, 0, 30, 42, 43] dwX2_nextWith_0 rfl rfl)
theorem dX2_nextWith_7 : decode cX2_nextWith 7 = .ok (.if_icmp .ge 30, 3) := dko_162 (dk_t 7 7 [162, 0, 30, 42, 43] dwX2_nextWith_0 rfl rfl)
theorem dX2_nextWith_10 : decode cX2_nextWith 10 = .ok (.aload_n 0, 1) := dko_42 (dk_t 10 10 [42, 43] dwX2_nextWith_0 rfl rfl)
theorem dX2_nextWith_11 : decode cX2_nextWith 11 = .ok (.aload_n 1, 1) := dko_43 (dk_t 11 11 [43] dwX2_nextWith_0 rfl rfl)
theorem dwX2_nextWith_12 : dkW cX2_nextWith 12 [180, 0, 61, 21, 4, 43, 180, 0, 64, 182, 0, 67, 29] = true := by decide +kernel
theorem dX2_nextWith_12 : decode cX2_nextWith 12 = .ok (.getfield 61, 3) := dko_180 dwX2_nextWith_12
theorem dX2_nextWith_15 : decode cX2_nextWith 15 = .ok (.iload 4, 2) := dko_21 (dk_t 3 15 [21, 4, 43, 180, 0, 64, 182, 0, 67, 29] dwX2_nextWith_12 rfl rfl)
theorem dX2_nextWith_17 : decode cX2_nextWith 17 = .ok (.aload_n 1, 1) := dko_43 (dk_t 5 17 [43, 180, 0, 64, 182, 0, 67, 29] dwX2_nextWith_12 rfl rfl)
theorem dX2_nextWith_18 : decode cX2_nextWith 18 = .ok (.getfield 64, 3) := dko_180 (dk_t 6 18 [180, 0, 64, 182, 0, 67, 29] dwX2_nextWith_12 rfl rfl)
theorem dX2_nextWith_21 : decode cX2_nextWith 21 = .ok (.invokevirtual 67, 3) := dko_182 (dk_t 9 21 [182, 0, 67, 29] dwX2_nextWith_12 rfl rfl)
theorem dX2_nextWith_24 : decode cX2_nextWith 24 = .ok (.iload_n 3, 1) := dko_29 (dk_t 12 24 [29] dwX2_nextWith_12 rfl rfl)
theorem dwX2_nextWith_25 : dkW cX2_nextWith 25 [160, 0, 6, 21, 4, 172, 132, 4, 1, 167, 255, 225, 2, 172] = true := by decide +kernel
theorem dX2_nextWith_25 : decode cX2_nextWith 25 = .ok (.if_icmp .ne 6, 3) := dko_160 dwX2_nextWith_25
theorem dX2_nextWith_28 : decode cX2_nextWith 28 = .ok (.iload 4, 2) := dko_21 (dk_t 3 28 [21, 4, 172, 132, 4, 1, 167, 255, 225, 2, 172] dwX2_nextWith_25 rfl rfl)
theorem dX2_nextWith_30 : decode cX2_nextWith 30 = .ok (.ireturn, 1) := dko_172 (dk_t 5 30 [172, 132, 4, 1, 167, 255, 225, 2, 172] dwX2_nextWith_25 rfl rfl)
theorem dX2_nextWith_31 : decode cX2_nextWith 31 = .ok (.iinc 4 1, 3) := dko_132 (dk_t 6 31 [132, 4, 1, 167, 255, 225, 2, 172] dwX2_nextWith_25 rfl rfl)
theorem dX2_nextWith_34 : decode cX2_nextWith 34 = .ok (.goto (-31), 3) := dko_167 (dk_t 9 34 [167, 255, 225, 2, 172] dwX2_nextWith_25 rfl rfl)
theorem dX2_nextWith_37 : decode cX2_nextWith 37 = .ok (.iconst (-1), 1) := dko_2 (dk_t 12 37 [2, 172] dwX2_nextWith_25 rfl rfl)
theorem dX2_nextWith_38 : decode cX2_nextWith 38 = .ok (.ireturn, 1) := dko_172 (dk_t 13 38 [172] dwX2_nextWith_25 rfl rfl)
theorem dwX3_init_0 : dkW cX3_init 0 [42, 183, 0, 3, 42, 6, 188, 10, 181, 0, 9, 42, 16, 90] = true := by decide +kernel
theorem dX3_init_0 : decode cX3_init 0 = .ok (.aload_n 0, 1) := dko_42 dwX3_init_0
theorem dX3_init_1 : decode cX3_init 1 = .ok (.invokespecial 3, 3) := dko_183 (dk_t 1 1 [183, 0, 3, 42, 6, 188, 10, 181, 0, 9, 42, 16, 90] dwX3_init_0 rfl rfl)
theorem dX3_init_4 : decode cX3_init 4 = .ok (.aload_n 0, 1) := dko_42 (dk_t 4 4 [42, 6, 188, 10, 181, 0, 9, 42, 16, 90] dwX3_init_0 rfl rfl)
theorem dX3_init_5 : decode cX3_init 5 = .ok (.iconst 3, 1) := dko_6 (dk_t 5 5 [6, 188, 10, 181, 0, 9, 42, 16, 90] dwX3_init_0 rfl rfl)
theorem dX3_init_6 : decode cX3_init 6 = .ok (.newarray .int, 2) := dko_188_10 (dk_t 6 6 [188, 10, 181, 0, 9, 42, 16, 90] dwX3_init_0 rfl rfl)
theorem dX3_init_8 : decode cX3_init 8 = .ok (.putfield 9, 3) := dko_181 (dk_t 8 8 [181, 0, 9, 42, 16, 90] dwX3_init_0 rfl rfl)
theorem dX3_init_11 : decode cX3_init 11 = .ok (.aload_n 0, 1) := dko_42 (dk_t 11 11 [42, 16, 90] dwX3_init_0 rfl rfl)
theorem dX3_init_12 : decode cX3_init 12 = .ok (.bipush 90, 2) := dko_16 (dk_t 12 12 [16, 90] dwX3_init_0 rfl rfl)
theorem dwX3_init_14 : dkW cX3_init 14 [188, 10, 181, 0, 15, 42, 16, 90, 188, 10, 181, 0, 18, 177] = true := by decide +kernel
theorem dX3_init_14 : decode cX3_init 14 = .ok (.newarray .int, 2) := dko_188_10 dwX3_init_14
theorem dX3_init_16 : decode cX3_init 16 = .ok (.putfield 15, 3) := dko_181 (dk_t 2 16 [181, 0, 15, 42, 16, 90, 188, 10, 181, 0, 18, 177] dwX3_init_14 rfl rfl)
theorem dX3_init_19 : decode cX3_init 19 = .ok (.aload_n 0, 1) := dko_42 (dk_t 5 19 [42, 16, 90, 188, 10, 181, 0, 18, 177] dwX3_init_14 rfl rfl)
theorem dX3_init_20 : decode cX3_init 20 = .ok (.bipush 90, 2) := dko_16 (dk_t 6 20 [16, 90, 188, 10, 181, 0, 18, 177] dwX3_init_14 rfl rfl)
theorem dX3_init_22 : decode cX3_init 22 = .ok (.newarray .int, 2) := dko_188_10 (dk_t 8 22 [188, 10, 181, 0, 18, 177] dwX3_init_14 rfl rfl)
theorem dX3_init_24 : decode cX3_init 24 = .ok (.putfield 18, 3) := dko_181 (dk_t 10 24 [181, 0, 18, 177] dwX3_init_14 rfl rfl)
theorem dX3_init_27 : decode cX3_init 27 = .ok (.return_, 1) := dko_177 (dk_t 13 27 [177] dwX3_init_14 rfl rfl)
theorem dwX3_straight_0 : dkW cX3_straight 0 [42, 182, 0, 21, 42, 43, 44, 29, 21, 4, 182, 0, 24, 42] = true := by decide +kernel
theorem dX3_straight_0 : decode cX3_straight 0 = .ok (.aload_n 0, 1) := dko_42 dwX3_straight_0
theorem dX3_straight_1 : decode cX3_straight 1 = .ok (.invokevirtual 21, 3) := dko_182 (dk_t 1 1 [182, 0, 21, 42, 43, 44, 29, 21, 4, 182, 0, 24, 42] dwX3_straight_0 rfl rfl)
theorem dX3_straight_4 : decode cX3_straight 4 = .ok (.aload_n 0, 1) := dko_42 (dk_t 4 4 [42, 43, 44, 29, 21, 4, 182, 0, 24, 42] dwX3_straight_0 rfl rfl)
theorem dX3_straight_5 : decode cX3_straight 5 = .ok (.aload_n 1, 1) := dko_43 (dk_t 5 5 [43, 44, 29, 21, 4, 182, 0, 24, 42] dwX3_straight_0 rfl rfl)
theorem dX3_straight_6 : decode cX3_straight 6 = .ok (.aload_n 2, 1) := dko_44 (dk_t 6 6 [44, 29, 21, 4, 182, 0, 24, 42] dwX3_straight_0 rfl rfl)
theorem dX3_straight_7 : decode cX3_straight 7 = .ok (.iload_n 3, 1) := dko_29 (dk_t 7 7 [29, 21, 4, 182, 0, 24, 42] dwX3_straight_0 rfl rfl)
theorem dX3_straight_8 : decode cX3_straight 8 = .ok (.iload 4, 2) := dko_21 (dk_t 8 8 [21, 4, 182, 0, 24, 42] dwX3_straight_0 rfl rfl)
theorem dX3_straight_10 : decode cX3_straight 10 = .ok (.invokevirtual 24, 3) := dko_182 (dk_t 10 10 [182, 0, 24, 42] dwX3_straight_0 rfl rfl)
theorem dX3_straight_13 : decode cX3_straight 13 = .ok (.aload_n 0, 1) := dko_42 (dk_t 13 13 [42] dwX3_straight_0 rfl rfl)
theorem dwX3_straight_14 : dkW cX3_straight 14 [180, 0, 28, 172] = true := by decide +kernel
theorem dX3_straight_14 : decode cX3_straight 14 = .ok (.getfield 28, 3) := dko_180 dwX3_straight_14
theorem dX3_straight_17 : decode cX3_straight 17 = .ok (.ireturn, 1) := dko_172 (dk_t 3 17 [172] dwX3_straight_14 rfl rfl)
theorem dwX3_straightOrNot_0 : dkW cX3_straightOrNot 0 [42, 182, 0, 21, 42, 29, 21, 4, 182, 0, 32, 3, 54, 5] = true := by decide +kernel
theorem dX3_straightOrNot_0 : decode cX3_straightOrNot 0 = .ok (.aload_n 0, 1) := dko_42 dwX3_straightOrNot_0
theorem dX3_straightOrNot_1 : decode cX3_straightOrNot 1 = .ok (.invokevirtual 21, 3) := dko_182 (dk_t 1 1 [182, 0, 21, 42, 29, 21, 4, 182, 0, 32, 3, 54, 5] dwX3_straightOrNot_0 rfl rfl)
theorem dX3_straightOrNot_4 : decode cX3_straightOrNot 4 = .ok (.aload_n 0, 1) := dko_42 (dk_t 4 4 [42, 29, 21, 4, 182, 0, 32, 3, 54, 5] dwX3_straightOrNot_0 rfl rfl)
theorem dX3_straightOrNot_5 : decode cX3_straightOrNot 5 = .ok (.iload_n 3, 1) := dko_29 (dk_t 5 5 [29, 21, 4, 182, 0, 32, 3, 54, 5] dwX3_straightOrNot_0 rfl rfl)
theorem dX3_straightOrNot_6 : decode cX3_straightOrNot 6 = .ok (.iload 4, 2) := dko_21 (dk_t 6 6 [21, 4, 182, 0, 32, 3, 54, 5] dwX3_straightOrNot_0 rfl rfl)
theorem dX3_straightOrNot_8 : decode cX3_straightOrNot 8 = .ok (.invokevirtual 32, 3) := dko_182 (dk_t 8 8 [182, 0, 32, 3, 54, 5] dwX3_straightOrNot_0 rfl rfl)
theorem dX3_straightOrNot_11 : decode cX3_straightOrNot 11 = .ok (.iconst 0, 1) := dko_3 (dk_t 11 11 [3, 54, 5] dwX3_straightOrNot_0 rfl rfl)
theorem dX3_straightOrNot_12 : decode cX3_straightOrNot 12 = .ok (.istore 5, 2) := dko_54 (dk_t 12 12 [54, 5] dwX3_straightOrNot_0 rfl rfl)
theorem dwX3_straightOrNot_14 : dkW cX3_straightOrNot 14 [21, 5, 42, 180, 0, 28, 162, 0, 36, 21, 5, 16, 90] = true := by decide +kernel
theorem dX3_straightOrNot_14 : decode cX3_straightOrNot 14 = .ok (.iload 5, 2) := dko_21 dwX3_straightOrNot_14
theorem dX3_straightOrNot_16 : decode cX3_straightOrNot 16 = .ok (.aload_n 0, 1) := dko_42 (dk_t 2 16 [42, 180, 0, 28, 162, 0, 36, 21, 5, 16, 90] dwX3_straightOrNot_14 rfl rfl)
theorem dX3_straightOrNot_17 : decode cX3_straightOrNot 17 = .ok (.getfield 28, 3) := dko_180 (dk_t 3 17 [180, 0, 28, 162, 0, 36, 21, 5, 16, 90] dwX3_straightOrNot_14 rfl rfl)
theorem dX3_straightOrNot_20 : decode cX3_straightOrNot 20 = .ok (.if_icmp .ge 36, 3) := dko_162 (dk_t 6 20 [162, 0, 36, 21, 5, 16, 90] dwX3_straightOrNot_14 rfl rfl)
theorem dX3_straightOrNot_23 : decode cX3_straightOrNot 23 = .ok (.iload 5, 2) := dko_21 (dk_t 9 23 [21, 5, 16, 90] dwX3_straightOrNot_14 rfl rfl)
theorem dX3_straightOrNot_25 : decode cX3_straightOrNot 25 = .ok (.bipush 90, 2) := dko_16 (dk_t 11 25 [16, 90] dwX3_straightOrNot_14 rfl rfl)
theorem dwX3_straightOrNot_27 : dkW cX3_straightOrNot 27 [162, 0, 29, 42, 43, 44, 42, 180, 0, 15, 21, 5, 46, 42] = true := by decide +kernel
theorem dX3_straightOrNot_27 : decode cX3_straightOrNot 27 = .ok (.if_icmp .ge 29, 3) := dko_162 dwX3_straightOrNot_27
theorem dX3_straightOrNot_30 : decode cX3_straightOrNot 30 = .ok (.aload_n 0, 1) := dko_42 (dk_t 3 30 [42, 43, 44, 42, 180, 0, 15, 21, 5, 46, 42] dwX3_straightOrNot_27 rfl rfl)
theorem dX3_straightOrNot_31 : decode cX3_straightOrNot 31 = .ok (.aload_n 1, 1) := dko_43 (dk_t 4 31 [43, 44, 42, 180, 0, 15, 21, 5, 46, 42] dwX3_straightOrNot_27 rfl rfl)
theorem dX3_straightOrNot_32 : decode cX3_straightOrNot 32 = .ok (.aload_n 2, 1) := dko_44 (dk_t 5 32 [44, 42, 180, 0, 15, 21, 5, 46, 42] dwX3_straightOrNot_27 rfl rfl)
theorem dX3_straightOrNot_33 : decode cX3_straightOrNot 33 = .ok (.aload_n 0, 1) := dko_42 (dk_t 6 33 [42, 180, 0, 15, 21, 5, 46, 42] dwX3_straightOrNot_27 rfl rfl)
theorem dX3_straightOrNot_34 : decode cX3_straightOrNot 34 = .ok (.getfield 15, 3) := dko_180 (dk_t 7 34 [180, 0, 15, 21, 5, 46, 42] dwX3_straightOrNot_27 rfl rfl)
theorem dX3_straightOrNot_37 : decode cX3_straightOrNot 37 = .ok (.iload 5, 2) := dko_21 (dk_t 10 37 [21, 5, 46, 42] dwX3_straightOrNot_27 rfl rfl)
theorem dX3_straightOrNot_39 : decode cX3_straightOrNot 39 = .ok (.iaload, 1) := dko_46 (dk_t 12 39 [46, 42] dwX3_straightOrNot_27 rfl rfl)
theorem dX3_straightOrNot_40 : decode cX3_straightOrNot 40 = .ok (.aload_n 0, 1) := dko_42 (dk_t 13 40 [42] dwX3_straightOrNot_27 rfl rfl)
theorem dwX3_straightOrNot_41 : dkW cX3_straightOrNot 41 [180, 0, 18, 21, 5, 46, 182, 0, 24, 132, 5, 1] = true := by decide +kernel
theorem dX3_straightOrNot_41 : decode cX3_straightOrNot 41 = .ok (.getfield 18, 3) := dko_180 dwX3_straightOrNot_41
theorem dX3_straightOrNot_44 : decode cX3_straightOrNot 44 = .ok (.iload 5, 2) := dko_21 (dk_t 3 44 [21, 5, 46, 182, 0, 24, 132, 5, 1] dwX3_straightOrNot_41 rfl rfl)
theorem dX3_straightOrNot_46 : decode cX3_straightOrNot 46 = .ok (.iaload, 1) := dko_46 (dk_t 5 46 [46, 182, 0, 24, 132, 5, 1] dwX3_straightOrNot_41 rfl rfl)
theorem dX3_straightOrNot_47 : decode cX3_straightOrNot 47 = .ok (.invokevirtual 24, 3) := dko_182 (dk_t 6 47 [182, 0, 24, 132, 5, 1] dwX3_straightOrNot_41 rfl rfl)
theorem dX3_straightOrNot_50 : decode cX3_straightOrNot 50 = .ok (.iinc 5 1, 3) := dko_132 (dk_t 9 50 [132, 5, 1] dwX3_straightOrNot_41 rfl rfl)
theorem dwX3_straightOrNot_53 : dkW cX3_straightOrNot 53 [167, 255, 217, 42, 180, 0, 28, 4, 100, 172] = true := by decide +kernel
theorem dX3_straightOrNot_53 : decode cX3_straightOrNot 53 = .ok (.goto (-39), 3) := dko_167 dwX3_straightOrNot_53
theorem dX3_straightOrNot_56 : decode cX3_straightOrNot 56 = .ok (.aload_n 0, 1) := dko_42 (dk_t 3 56 [42, 180, 0, 28, 4, 100, 172] dwX3_straightOrNot_53 rfl rfl)
theorem dX3_straightOrNot_57 : decode cX3_straightOrNot 57 = .ok (.getfield 28, 3) := dko_180 (dk_t 4 57 [180, 0, 28, 4, 100, 172] dwX3_straightOrNot_53 rfl rfl)
theorem dX3_straightOrNot_60 : decode cX3_straightOrNot 60 = .ok (.iconst 1, 1) := dko_4 (dk_t 7 60 [4, 100, 172] dwX3_straightOrNot_53 rfl rfl)
theorem dX3_straightOrNot_61 : decode cX3_straightOrNot 61 = .ok (.isub, 1) := dko_100 (dk_t 8 61 [100, 172] dwX3_straightOrNot_53 rfl rfl)
theorem dX3_straightOrNot_62 : decode cX3_straightOrNot 62 = .ok (.ireturn, 1) := dko_172 (dk_t 9 62 [172] dwX3_straightOrNot_53 rfl rfl)
theorem dwX3_clear_0 : dkW cX3_clear 0 [42, 3, 181, 0, 28, 3, 60, 27, 6, 162, 0, 16, 42] = true := by decide +kernel
theorem dX3_clear_0 : decode cX3_clear 0 = .ok (.aload_n 0, 1) := dko_42 dwX3_clear_0
theorem dX3_clear_1 : decode cX3_clear 1 = .ok (.iconst 0, 1) := dko_3 (dk_t 1 1 [3, 181, 0, 28, 3, 60, 27, 6, 162, 0, 16, 42] dwX3_clear_0 rfl rfl)
theorem dX3_clear_2 : decode cX3_clear 2 = .ok (.putfield 28, 3) := dko_181 (dk_t 2 2 [181, 0, 28, 3, 60, 27, 6, 162, 0, 16, 42] dwX3_clear_0 rfl rfl)
theorem dX3_clear_5 : decode cX3_clear 5 = .ok (.iconst 0, 1) := dko_3 (dk_t 5 5 [3, 60, 27, 6, 162, 0, 16, 42] dwX3_clear_0 rfl rfl)
theorem dX3_clear_6 : decode cX3_clear 6 = .ok (.istore_n 1, 1) := dko_60 (dk_t 6 6 [60, 27, 6, 162, 0, 16, 42] dwX3_clear_0 rfl rfl)
theorem dX3_clear_7 : decode cX3_clear 7 = .ok (.iload_n 1, 1) := dko_27 (dk_t 7 7 [27, 6, 162, 0, 16, 42] dwX3_clear_0 rfl rfl)
theorem dX3_clear_8 : decode cX3_clear 8 = .ok (.iconst 3, 1) := dko_6 (dk_t 8 8 [6, 162, 0, 16, 42] dwX3_clear_0 rfl rfl)
theorem dX3_clear_9 : decode cX3_clear 9 = .ok (.if_icmp .ge 16, 3) := dko_162 (dk_t 9 9 [162, 0, 16, 42] dwX3_clear_0 rfl rfl)
theorem dX3_clear_12 : decode cX3_clear 12 = .ok (.aload_n 0, 1) := dko_42 (dk_t 12 12 [42] dwX3_clear_0 rfl rfl)
theorem dwX3_clear_13 : dkW cX3_clear 13 [180, 0, 9, 27, 3, 79, 132, 1, 1, 167, 255, 241, 177] = true := by decide +kernel
theorem dX3_clear_13 : decode cX3_clear 13 = .ok (.getfield 9, 3) := dko_180 dwX3_clear_13
theorem dX3_clear_16 : decode cX3_clear 16 = .ok (.iload_n 1, 1) := dko_27 (dk_t 3 16 [27, 3, 79, 132, 1, 1, 167, 255, 241, 177] dwX3_clear_13 rfl rfl)
theorem dX3_clear_17 : decode cX3_clear 17 = .ok (.iconst 0, 1) := dko_3 (dk_t 4 17 [3, 79, 132, 1, 1, 167, 255, 241, 177] dwX3_clear_13 rfl rfl)
theorem dX3_clear_18 : decode cX3_clear 18 = .ok (.iastore, 1) := dko_79 (dk_t 5 18 [79, 132, 1, 1, 167, 255, 241, 177] dwX3_clear_13 rfl rfl)
theorem dX3_clear_19 : decode cX3_clear 19 = .ok (.iinc 1 1, 3) := dko_132 (dk_t 6 19 [132, 1, 1, 167, 255, 241, 177] dwX3_clear_13 rfl rfl)
theorem dX3_clear_22 : decode cX3_clear 22 = .ok (.goto (-15), 3) := dko_167 (dk_t 9 22 [167, 255, 241, 177] dwX3_clear_13 rfl rfl)
theorem dX3_clear_25 : decode cX3_clear 25 = .ok (.return_, 1) := dko_177 (dk_t 12 25 [177] dwX3_clear_13 rfl rfl)
theorem dwX3_reachFrom_0 : dkW cX3_reachFrom 0 [3, 54, 5, 21, 5, 44, 182, 0, 36, 162, 0, 91, 44] = true := by decide +kernel
theorem dX3_reachFrom_0 : decode cX3_reachFrom 0 = .ok (.iconst 0, 1) := dko_3 dwX3_reachFrom_0
theorem dX3_reachFrom_1 : decode cX3_reachFrom 1 = .ok (.istore 5, 2) := dko_54 (dk_t 1 1 [54, 5, 21, 5, 44, 182, 0, 36, 162, 0, 91, 44] dwX3_reachFrom_0 rfl rfl)
theorem dX3_reachFrom_3 : decode cX3_reachFrom 3 = .ok (.iload 5, 2) := dko_21 (dk_t 3 3 [21, 5, 44, 182, 0, 36, 162, 0, 91, 44] dwX3_reachFrom_0 rfl rfl)
theorem dX3_reachFrom_5 : decode cX3_reachFrom 5 = .ok (.aload_n 2, 1) := dko_44 (dk_t 5 5 [44, 182, 0, 36, 162, 0, 91, 44] dwX3_reachFrom_0 rfl rfl)
theorem dX3_reachFrom_6 : decode cX3_reachFrom 6 = .ok (.invokevirtual 36, 3) := dko_182 (dk_t 6 6 [182, 0, 36, 162, 0, 91, 44] dwX3_reachFrom_0 rfl rfl)
theorem dX3_reachFrom_9 : decode cX3_reachFrom 9 = .ok (.if_icmp .ge 91, 3) := dko_162 (dk_t 9 9 [162, 0, 91, 44] dwX3_reachFrom_0 rfl rfl)
theorem dX3_reachFrom_12 : decode cX3_reachFrom 12 = .ok (.aload_n 2, 1) := dko_44 (dk_t 12 12 [44] dwX3_reachFrom_0 rfl rfl)
theorem dwX3_reachFrom_13 : dkW cX3_reachFrom 13 [21, 5, 182, 0, 41, 58, 6, 25, 6, 198, 0, 72, 25, 6] = true := by decide +kernel
theorem dX3_reachFrom_13 : decode cX3_reachFrom 13 = .ok (.iload 5, 2) := dko_21 dwX3_reachFrom_13
theorem dX3_reachFrom_15 : decode cX3_reachFrom 15 = .ok (.invokevirtual 41, 3) := dko_182 (dk_t 2 15 [182, 0, 41, 58, 6, 25, 6, 198, 0, 72, 25, 6] dwX3_reachFrom_13 rfl rfl)
theorem dX3_reachFrom_18 : decode cX3_reachFrom 18 = .ok (.astore 6, 2) := dko_58 (dk_t 5 18 [58, 6, 25, 6, 198, 0, 72, 25, 6] dwX3_reachFrom_13 rfl rfl)
theorem dX3_reachFrom_20 : decode cX3_reachFrom 20 = .ok (.aload 6, 2) := dko_25 (dk_t 7 20 [25, 6, 198, 0, 72, 25, 6] dwX3_reachFrom_13 rfl rfl)
theorem dX3_reachFrom_22 : decode cX3_reachFrom 22 = .ok (.ifnull 72, 3) := dko_198 (dk_t 9 22 [198, 0, 72, 25, 6] dwX3_reachFrom_13 rfl rfl)
theorem dX3_reachFrom_25 : decode cX3_reachFrom 25 = .ok (.aload 6, 2) := dko_25 (dk_t 12 25 [25, 6] dwX3_reachFrom_13 rfl rfl)
theorem dwX3_reachFrom_27 : dkW cX3_reachFrom 27 [180, 0, 45, 4, 160, 0, 63, 25, 6, 180, 0, 50, 29] = true := by decide +kernel
theorem dX3_reachFrom_27 : decode cX3_reachFrom 27 = .ok (.getfield 45, 3) := dko_180 dwX3_reachFrom_27
theorem dX3_reachFrom_30 : decode cX3_reachFrom 30 = .ok (.iconst 1, 1) := dko_4 (dk_t 3 30 [4, 160, 0, 63, 25, 6, 180, 0, 50, 29] dwX3_reachFrom_27 rfl rfl)
theorem dX3_reachFrom_31 : decode cX3_reachFrom 31 = .ok (.if_icmp .ne 63, 3) := dko_160 (dk_t 4 31 [160, 0, 63, 25, 6, 180, 0, 50, 29] dwX3_reachFrom_27 rfl rfl)
theorem dX3_reachFrom_34 : decode cX3_reachFrom 34 = .ok (.aload 6, 2) := dko_25 (dk_t 7 34 [25, 6, 180, 0, 50, 29] dwX3_reachFrom_27 rfl rfl)
theorem dX3_reachFrom_36 : decode cX3_reachFrom 36 = .ok (.getfield 50, 3) := dko_180 (dk_t 9 36 [180, 0, 50, 29] dwX3_reachFrom_27 rfl rfl)
theorem dX3_reachFrom_39 : decode cX3_reachFrom 39 = .ok (.iload_n 3, 1) := dko_29 (dk_t 12 39 [29] dwX3_reachFrom_27 rfl rfl)
theorem dwX3_reachFrom_40 : dkW cX3_reachFrom 40 [159, 0, 6, 167, 0, 51, 3, 54, 7, 21, 7, 16, 30] = true := by decide +kernel
theorem dX3_reachFrom_40 : decode cX3_reachFrom 40 = .ok (.if_icmp .eq 6, 3) := dko_159 dwX3_reachFrom_40
theorem dX3_reachFrom_43 : decode cX3_reachFrom 43 = .ok (.goto 51, 3) := dko_167 (dk_t 3 43 [167, 0, 51, 3, 54, 7, 21, 7, 16, 30] dwX3_reachFrom_40 rfl rfl)
theorem dX3_reachFrom_46 : decode cX3_reachFrom 46 = .ok (.iconst 0, 1) := dko_3 (dk_t 6 46 [3, 54, 7, 21, 7, 16, 30] dwX3_reachFrom_40 rfl rfl)
theorem dX3_reachFrom_47 : decode cX3_reachFrom 47 = .ok (.istore 7, 2) := dko_54 (dk_t 7 47 [54, 7, 21, 7, 16, 30] dwX3_reachFrom_40 rfl rfl)
theorem dX3_reachFrom_49 : decode cX3_reachFrom 49 = .ok (.iload 7, 2) := dko_21 (dk_t 9 49 [21, 7, 16, 30] dwX3_reachFrom_40 rfl rfl)
theorem dX3_reachFrom_51 : decode cX3_reachFrom 51 = .ok (.bipush 30, 2) := dko_16 (dk_t 11 51 [16, 30] dwX3_reachFrom_40 rfl rfl)
theorem dwX3_reachFrom_53 : dkW cX3_reachFrom 53 [162, 0, 41, 43, 25, 6, 180, 0, 53, 21, 7, 25, 6] = true := by decide +kernel
theorem dX3_reachFrom_53 : decode cX3_reachFrom 53 = .ok (.if_icmp .ge 41, 3) := dko_162 dwX3_reachFrom_53
theorem dX3_reachFrom_56 : decode cX3_reachFrom 56 = .ok (.aload_n 1, 1) := dko_43 (dk_t 3 56 [43, 25, 6, 180, 0, 53, 21, 7, 25, 6] dwX3_reachFrom_53 rfl rfl)
theorem dX3_reachFrom_57 : decode cX3_reachFrom 57 = .ok (.aload 6, 2) := dko_25 (dk_t 4 57 [25, 6, 180, 0, 53, 21, 7, 25, 6] dwX3_reachFrom_53 rfl rfl)
theorem dX3_reachFrom_59 : decode cX3_reachFrom 59 = .ok (.getfield 53, 3) := dko_180 (dk_t 6 59 [180, 0, 53, 21, 7, 25, 6] dwX3_reachFrom_53 rfl rfl)
theorem dX3_reachFrom_62 : decode cX3_reachFrom 62 = .ok (.iload 7, 2) := dko_21 (dk_t 9 62 [21, 7, 25, 6] dwX3_reachFrom_53 rfl rfl)
theorem dX3_reachFrom_64 : decode cX3_reachFrom 64 = .ok (.aload 6, 2) := dko_25 (dk_t 11 64 [25, 6] dwX3_reachFrom_53 rfl rfl)
theorem dwX3_reachFrom_66 : dkW cX3_reachFrom 66 [180, 0, 56, 182, 0, 59, 21, 4, 160, 0, 14, 42, 25, 6] = true := by decide +kernel
theorem dX3_reachFrom_66 : decode cX3_reachFrom 66 = .ok (.getfield 56, 3) := dko_180 dwX3_reachFrom_66
theorem dX3_reachFrom_69 : decode cX3_reachFrom 69 = .ok (.invokevirtual 59, 3) := dko_182 (dk_t 3 69 [182, 0, 59, 21, 4, 160, 0, 14, 42, 25, 6] dwX3_reachFrom_66 rfl rfl)
theorem dX3_reachFrom_72 : decode cX3_reachFrom 72 = .ok (.iload 4, 2) := dko_21 (dk_t 6 72 [21, 4, 160, 0, 14, 42, 25, 6] dwX3_reachFrom_66 rfl rfl)
theorem dX3_reachFrom_74 : decode cX3_reachFrom 74 = .ok (.if_icmp .ne 14, 3) := dko_160 (dk_t 8 74 [160, 0, 14, 42, 25, 6] dwX3_reachFrom_66 rfl rfl)
theorem dX3_reachFrom_77 : decode cX3_reachFrom 77 = .ok (.aload_n 0, 1) := dko_42 (dk_t 11 77 [42, 25, 6] dwX3_reachFrom_66 rfl rfl)
theorem dX3_reachFrom_78 : decode cX3_reachFrom 78 = .ok (.aload 6, 2) := dko_25 (dk_t 12 78 [25, 6] dwX3_reachFrom_66 rfl rfl)
theorem dwX3_reachFrom_80 : dkW cX3_reachFrom 80 [180, 0, 53, 21, 7, 182, 0, 32, 132, 7, 1, 167, 255, 214] = true := by decide +kernel
theorem dX3_reachFrom_80 : decode cX3_reachFrom 80 = .ok (.getfield 53, 3) := dko_180 dwX3_reachFrom_80
theorem dX3_reachFrom_83 : decode cX3_reachFrom 83 = .ok (.iload 7, 2) := dko_21 (dk_t 3 83 [21, 7, 182, 0, 32, 132, 7, 1, 167, 255, 214] dwX3_reachFrom_80 rfl rfl)
theorem dX3_reachFrom_85 : decode cX3_reachFrom 85 = .ok (.invokevirtual 32, 3) := dko_182 (dk_t 5 85 [182, 0, 32, 132, 7, 1, 167, 255, 214] dwX3_reachFrom_80 rfl rfl)
theorem dX3_reachFrom_88 : decode cX3_reachFrom 88 = .ok (.iinc 7 1, 3) := dko_132 (dk_t 8 88 [132, 7, 1, 167, 255, 214] dwX3_reachFrom_80 rfl rfl)
theorem dX3_reachFrom_91 : decode cX3_reachFrom 91 = .ok (.goto (-42), 3) := dko_167 (dk_t 11 91 [167, 255, 214] dwX3_reachFrom_80 rfl rfl)
theorem dwX3_reachFrom_94 : dkW cX3_reachFrom 94 [132, 5, 1, 167, 255, 162, 177] = true := by decide +kernel
theorem dX3_reachFrom_94 : decode cX3_reachFrom 94 = .ok (.iinc 5 1, 3) := dko_132 dwX3_reachFrom_94
theorem dX3_reachFrom_97 : decode cX3_reachFrom 97 = .ok (.goto (-94), 3) := dko_167 (dk_t 3 97 [167, 255, 162, 177] dwX3_reachFrom_94 rfl rfl)
theorem dX3_reachFrom_100 : decode cX3_reachFrom 100 = .ok (.return_, 1) := dko_177 (dk_t 6 100 [177] dwX3_reachFrom_94 rfl rfl)
theorem dwX3_reach_0 : dkW cX3_reach 0 [27, 184, 0, 65, 153, 0, 23, 28, 184, 0, 69, 153, 0, 16] = true := by decide +kernel
theorem dX3_reach_0 : decode cX3_reach 0 = .ok (.iload_n 1, 1) := dko_27 dwX3_reach_0
theorem dX3_reach_1 : decode cX3_reach 1 = .ok (.invokestatic 65, 3) := dko_184 (dk_t 1 1 [184, 0, 65, 153, 0, 23, 28, 184, 0, 69, 153, 0, 16] dwX3_reach_0 rfl rfl)
theorem dX3_reach_4 : decode cX3_reach 4 = .ok (.ifCond .eq 23, 3) := dko_153 (dk_t 4 4 [153, 0, 23, 28, 184, 0, 69, 153, 0, 16] dwX3_reach_0 rfl rfl)
theorem dX3_reach_7 : decode cX3_reach 7 = .ok (.iload_n 2, 1) := dko_28 (dk_t 7 7 [28, 184, 0, 69, 153, 0, 16] dwX3_reach_0 rfl rfl)
theorem dX3_reach_8 : decode cX3_reach 8 = .ok (.invokestatic 69, 3) := dko_184 (dk_t 8 8 [184, 0, 69, 153, 0, 16] dwX3_reach_0 rfl rfl)
theorem dX3_reach_11 : decode cX3_reach 11 = .ok (.ifCond .eq 16, 3) := dko_153 (dk_t 11 11 [153, 0, 16] dwX3_reach_0 rfl rfl)
theorem dwX3_reach_14 : dkW cX3_reach 14 [42, 180, 0, 9, 27, 46, 28, 122, 4, 126, 153, 0, 4, 177] = true := by decide +kernel
theorem dX3_reach_14 : decode cX3_reach 14 = .ok (.aload_n 0, 1) := dko_42 dwX3_reach_14
theorem dX3_reach_15 : decode cX3_reach 15 = .ok (.getfield 9, 3) := dko_180 (dk_t 1 15 [180, 0, 9, 27, 46, 28, 122, 4, 126, 153, 0, 4, 177] dwX3_reach_14 rfl rfl)
theorem dX3_reach_18 : decode cX3_reach 18 = .ok (.iload_n 1, 1) := dko_27 (dk_t 4 18 [27, 46, 28, 122, 4, 126, 153, 0, 4, 177] dwX3_reach_14 rfl rfl)
theorem dX3_reach_19 : decode cX3_reach 19 = .ok (.iaload, 1) := dko_46 (dk_t 5 19 [46, 28, 122, 4, 126, 153, 0, 4, 177] dwX3_reach_14 rfl rfl)
theorem dX3_reach_20 : decode cX3_reach 20 = .ok (.iload_n 2, 1) := dko_28 (dk_t 6 20 [28, 122, 4, 126, 153, 0, 4, 177] dwX3_reach_14 rfl rfl)
theorem dX3_reach_21 : decode cX3_reach 21 = .ok (.ishr, 1) := dko_122 (dk_t 7 21 [122, 4, 126, 153, 0, 4, 177] dwX3_reach_14 rfl rfl)
theorem dX3_reach_22 : decode cX3_reach 22 = .ok (.iconst 1, 1) := dko_4 (dk_t 8 22 [4, 126, 153, 0, 4, 177] dwX3_reach_14 rfl rfl)
theorem dX3_reach_23 : decode cX3_reach 23 = .ok (.iand, 1) := dko_126 (dk_t 9 23 [126, 153, 0, 4, 177] dwX3_reach_14 rfl rfl)
theorem dX3_reach_24 : decode cX3_reach 24 = .ok (.ifCond .eq 4, 3) := dko_153 (dk_t 10 24 [153, 0, 4, 177] dwX3_reach_14 rfl rfl)
theorem dX3_reach_27 : decode cX3_reach 27 = .ok (.return_, 1) := dko_177 (dk_t 13 27 [177] dwX3_reach_14 rfl rfl)
theorem dwX3_reach_28 : dkW cX3_reach 28 [42, 180, 0, 28, 155, 0, 54, 42, 180, 0, 28, 16, 90] = true := by decide +kernel
theorem dX3_reach_28 : decode cX3_reach 28 = .ok (.aload_n 0, 1) := dko_42 dwX3_reach_28
theorem dX3_reach_29 : decode cX3_reach 29 = .ok (.getfield 28, 3) := dko_180 (dk_t 1 29 [180, 0, 28, 155, 0, 54, 42, 180, 0, 28, 16, 90] dwX3_reach_28 rfl rfl)
theorem dX3_reach_32 : decode cX3_reach 32 = .ok (.ifCond .lt 54, 3) := dko_155 (dk_t 4 32 [155, 0, 54, 42, 180, 0, 28, 16, 90] dwX3_reach_28 rfl rfl)
theorem dX3_reach_35 : decode cX3_reach 35 = .ok (.aload_n 0, 1) := dko_42 (dk_t 7 35 [42, 180, 0, 28, 16, 90] dwX3_reach_28 rfl rfl)
theorem dX3_reach_36 : decode cX3_reach 36 = .ok (.getfield 28, 3) := dko_180 (dk_t 8 36 [180, 0, 28, 16, 90] dwX3_reach_28 rfl rfl)
theorem dX3_reach_39 : decode cX3_reach 39 = .ok (.bipush 90, 2) := dko_16 (dk_t 11 39 [16, 90] dwX3_reach_28 rfl rfl)
theorem dwX3_reach_41 : dkW cX3_reach 41 [162, 0, 45, 42, 180, 0, 9, 27, 92, 46, 4, 28, 120, 128] = true := by decide +kernel
theorem dX3_reach_41 : decode cX3_reach 41 = .ok (.if_icmp .ge 45, 3) := dko_162 dwX3_reach_41
theorem dX3_reach_44 : decode cX3_reach 44 = .ok (.aload_n 0, 1) := dko_42 (dk_t 3 44 [42, 180, 0, 9, 27, 92, 46, 4, 28, 120, 128] dwX3_reach_41 rfl rfl)
theorem dX3_reach_45 : decode cX3_reach 45 = .ok (.getfield 9, 3) := dko_180 (dk_t 4 45 [180, 0, 9, 27, 92, 46, 4, 28, 120, 128] dwX3_reach_41 rfl rfl)
theorem dX3_reach_48 : decode cX3_reach 48 = .ok (.iload_n 1, 1) := dko_27 (dk_t 7 48 [27, 92, 46, 4, 28, 120, 128] dwX3_reach_41 rfl rfl)
theorem dX3_reach_49 : decode cX3_reach 49 = .ok (.dup2, 1) := dko_92 (dk_t 8 49 [92, 46, 4, 28, 120, 128] dwX3_reach_41 rfl rfl)
theorem dX3_reach_50 : decode cX3_reach 50 = .ok (.iaload, 1) := dko_46 (dk_t 9 50 [46, 4, 28, 120, 128] dwX3_reach_41 rfl rfl)
theorem dX3_reach_51 : decode cX3_reach 51 = .ok (.iconst 1, 1) := dko_4 (dk_t 10 51 [4, 28, 120, 128] dwX3_reach_41 rfl rfl)
theorem dX3_reach_52 : decode cX3_reach 52 = .ok (.iload_n 2, 1) := dko_28 (dk_t 11 52 [28, 120, 128] dwX3_reach_41 rfl rfl)
theorem dX3_reach_53 : decode cX3_reach 53 = .ok (.ishl, 1) := dko_120 (dk_t 12 53 [120, 128] dwX3_reach_41 rfl rfl)
theorem dX3_reach_54 : decode cX3_reach 54 = .ok (.ior, 1) := dko_128 (dk_t 13 54 [128] dwX3_reach_41 rfl rfl)
theorem dwX3_reach_55 : dkW cX3_reach 55 [79, 42, 180, 0, 15, 42, 180, 0, 28, 27, 79, 42] = true := by decide +kernel
theorem dX3_reach_55 : decode cX3_reach 55 = .ok (.iastore, 1) := dko_79 dwX3_reach_55
theorem dX3_reach_56 : decode cX3_reach 56 = .ok (.aload_n 0, 1) := dko_42 (dk_t 1 56 [42, 180, 0, 15, 42, 180, 0, 28, 27, 79, 42] dwX3_reach_55 rfl rfl)
theorem dX3_reach_57 : decode cX3_reach 57 = .ok (.getfield 15, 3) := dko_180 (dk_t 2 57 [180, 0, 15, 42, 180, 0, 28, 27, 79, 42] dwX3_reach_55 rfl rfl)
theorem dX3_reach_60 : decode cX3_reach 60 = .ok (.aload_n 0, 1) := dko_42 (dk_t 5 60 [42, 180, 0, 28, 27, 79, 42] dwX3_reach_55 rfl rfl)
theorem dX3_reach_61 : decode cX3_reach 61 = .ok (.getfield 28, 3) := dko_180 (dk_t 6 61 [180, 0, 28, 27, 79, 42] dwX3_reach_55 rfl rfl)
theorem dX3_reach_64 : decode cX3_reach 64 = .ok (.iload_n 1, 1) := dko_27 (dk_t 9 64 [27, 79, 42] dwX3_reach_55 rfl rfl)
theorem dX3_reach_65 : decode cX3_reach 65 = .ok (.iastore, 1) := dko_79 (dk_t 10 65 [79, 42] dwX3_reach_55 rfl rfl)
theorem dX3_reach_66 : decode cX3_reach 66 = .ok (.aload_n 0, 1) := dko_42 (dk_t 11 66 [42] dwX3_reach_55 rfl rfl)
theorem dwX3_reach_67 : dkW cX3_reach 67 [180, 0, 18, 42, 180, 0, 28, 28, 79, 42, 89, 180, 0, 28] = true := by decide +kernel
theorem dX3_reach_67 : decode cX3_reach 67 = .ok (.getfield 18, 3) := dko_180 dwX3_reach_67
theorem dX3_reach_70 : decode cX3_reach 70 = .ok (.aload_n 0, 1) := dko_42 (dk_t 3 70 [42, 180, 0, 28, 28, 79, 42, 89, 180, 0, 28] dwX3_reach_67 rfl rfl)
theorem dX3_reach_71 : decode cX3_reach 71 = .ok (.getfield 28, 3) := dko_180 (dk_t 4 71 [180, 0, 28, 28, 79, 42, 89, 180, 0, 28] dwX3_reach_67 rfl rfl)
theorem dX3_reach_74 : decode cX3_reach 74 = .ok (.iload_n 2, 1) := dko_28 (dk_t 7 74 [28, 79, 42, 89, 180, 0, 28] dwX3_reach_67 rfl rfl)
theorem dX3_reach_75 : decode cX3_reach 75 = .ok (.iastore, 1) := dko_79 (dk_t 8 75 [79, 42, 89, 180, 0, 28] dwX3_reach_67 rfl rfl)
theorem dX3_reach_76 : decode cX3_reach 76 = .ok (.aload_n 0, 1) := dko_42 (dk_t 9 76 [42, 89, 180, 0, 28] dwX3_reach_67 rfl rfl)
theorem dX3_reach_77 : decode cX3_reach 77 = .ok (.dup, 1) := dko_89 (dk_t 10 77 [89, 180, 0, 28] dwX3_reach_67 rfl rfl)
theorem dX3_reach_78 : decode cX3_reach 78 = .ok (.getfield 28, 3) := dko_180 (dk_t 11 78 [180, 0, 28] dwX3_reach_67 rfl rfl)
theorem dwX3_reach_81 : dkW cX3_reach 81 [4, 96, 181, 0, 28, 177] = true := by decide +kernel
theorem dX3_reach_81 : decode cX3_reach 81 = .ok (.iconst 1, 1) := dko_4 dwX3_reach_81
theorem dX3_reach_82 : decode cX3_reach 82 = .ok (.iadd, 1) := dko_96 (dk_t 1 82 [96, 181, 0, 28, 177] dwX3_reach_81 rfl rfl)
theorem dX3_reach_83 : decode cX3_reach 83 = .ok (.putfield 28, 3) := dko_181 (dk_t 2 83 [181, 0, 28, 177] dwX3_reach_81 rfl rfl)
theorem dX3_reach_86 : decode cX3_reach 86 = .ok (.return_, 1) := dko_177 (dk_t 5 86 [177] dwX3_reach_81 rfl rfl)
theorem dwX4_init_0 : dkW cX4_init 0 [42, 183, 0, 5, 42, 17, 4, 56, 188, 10, 181, 0, 13, 42] = true := by decide +kernel
theorem dX4_init_0 : decode cX4_init 0 = .ok (.aload_n 0, 1) := dko_42 dwX4_init_0
theorem dX4_init_1 : decode cX4_init 1 = .ok (.invokespecial 5, 3) := dko_183 (dk_t 1 1 [183, 0, 5, 42, 17, 4, 56, 188, 10, 181, 0, 13, 42] dwX4_init_0 rfl rfl)
theorem dX4_init_4 : decode cX4_init 4 = .ok (.aload_n 0, 1) := dko_42 (dk_t 4 4 [42, 17, 4, 56, 188, 10, 181, 0, 13, 42] dwX4_init_0 rfl rfl)
theorem dX4_init_5 : decode cX4_init 5 = .ok (.sipush 1080, 3) := dko_17 (dk_t 5 5 [17, 4, 56, 188, 10, 181, 0, 13, 42] dwX4_init_0 rfl rfl)
theorem dX4_init_8 : decode cX4_init 8 = .ok (.newarray .int, 2) := dko_188_10 (dk_t 8 8 [188, 10, 181, 0, 13, 42] dwX4_init_0 rfl rfl)
theorem dX4_init_10 : decode cX4_init 10 = .ok (.putfield 13, 3) := dko_181 (dk_t 10 10 [181, 0, 13, 42] dwX4_init_0 rfl rfl)
theorem dX4_init_13 : decode cX4_init 13 = .ok (.aload_n 0, 1) := dko_42 (dk_t 13 13 [42] dwX4_init_0 rfl rfl)
theorem dwX4_init_14 : dkW cX4_init 14 [17, 4, 56, 188, 10, 181, 0, 17, 42, 17, 4, 56, 188, 10] = true := by decide +kernel
theorem dX4_init_14 : decode cX4_init 14 = .ok (.sipush 1080, 3) := dko_17 dwX4_init_14
theorem dX4_init_17 : decode cX4_init 17 = .ok (.newarray .int, 2) := dko_188_10 (dk_t 3 17 [188, 10, 181, 0, 17, 42, 17, 4, 56, 188, 10] dwX4_init_14 rfl rfl)
theorem dX4_init_19 : decode cX4_init 19 = .ok (.putfield 17, 3) := dko_181 (dk_t 5 19 [181, 0, 17, 42, 17, 4, 56, 188, 10] dwX4_init_14 rfl rfl)
theorem dX4_init_22 : decode cX4_init 22 = .ok (.aload_n 0, 1) := dko_42 (dk_t 8 22 [42, 17, 4, 56, 188, 10] dwX4_init_14 rfl rfl)
theorem dX4_init_23 : decode cX4_init 23 = .ok (.sipush 1080, 3) := dko_17 (dk_t 9 23 [17, 4, 56, 188, 10] dwX4_init_14 rfl rfl)
theorem dX4_init_26 : decode cX4_init 26 = .ok (.newarray .int, 2) := dko_188_10 (dk_t 12 26 [188, 10] dwX4_init_14 rfl rfl)
theorem dwX4_init_28 : dkW cX4_init 28 [181, 0, 20, 42, 17, 4, 56, 188, 10, 181, 0, 23, 42] = true := by decide +kernel
theorem dX4_init_28 : decode cX4_init 28 = .ok (.putfield 20, 3) := dko_181 dwX4_init_28
theorem dX4_init_31 : decode cX4_init 31 = .ok (.aload_n 0, 1) := dko_42 (dk_t 3 31 [42, 17, 4, 56, 188, 10, 181, 0, 23, 42] dwX4_init_28 rfl rfl)
theorem dX4_init_32 : decode cX4_init 32 = .ok (.sipush 1080, 3) := dko_17 (dk_t 4 32 [17, 4, 56, 188, 10, 181, 0, 23, 42] dwX4_init_28 rfl rfl)
theorem dX4_init_35 : decode cX4_init 35 = .ok (.newarray .int, 2) := dko_188_10 (dk_t 7 35 [188, 10, 181, 0, 23, 42] dwX4_init_28 rfl rfl)
theorem dX4_init_37 : decode cX4_init 37 = .ok (.putfield 23, 3) := dko_181 (dk_t 9 37 [181, 0, 23, 42] dwX4_init_28 rfl rfl)
theorem dX4_init_40 : decode cX4_init 40 = .ok (.aload_n 0, 1) := dko_42 (dk_t 12 40 [42] dwX4_init_28 rfl rfl)
theorem dwX4_init_41 : dkW cX4_init 41 [17, 4, 56, 188, 4, 181, 0, 26, 42, 17, 4, 56, 188, 4] = true := by decide +kernel
theorem dX4_init_41 : decode cX4_init 41 = .ok (.sipush 1080, 3) := dko_17 dwX4_init_41
theorem dX4_init_44 : decode cX4_init 44 = .ok (.newarray .boolean, 2) := dko_188_4 (dk_t 3 44 [188, 4, 181, 0, 26, 42, 17, 4, 56, 188, 4] dwX4_init_41 rfl rfl)
theorem dX4_init_46 : decode cX4_init 46 = .ok (.putfield 26, 3) := dko_181 (dk_t 5 46 [181, 0, 26, 42, 17, 4, 56, 188, 4] dwX4_init_41 rfl rfl)
theorem dX4_init_49 : decode cX4_init 49 = .ok (.aload_n 0, 1) := dko_42 (dk_t 8 49 [42, 17, 4, 56, 188, 4] dwX4_init_41 rfl rfl)
theorem dX4_init_50 : decode cX4_init 50 = .ok (.sipush 1080, 3) := dko_17 (dk_t 9 50 [17, 4, 56, 188, 4] dwX4_init_41 rfl rfl)
theorem dX4_init_53 : decode cX4_init 53 = .ok (.newarray .boolean, 2) := dko_188_4 (dk_t 12 53 [188, 4] dwX4_init_41 rfl rfl)
theorem dwX4_init_55 : dkW cX4_init 55 [181, 0, 30, 177] = true := by decide +kernel
theorem dX4_init_55 : decode cX4_init 55 = .ok (.putfield 30, 3) := dko_181 dwX4_init_55
theorem dX4_init_58 : decode cX4_init 58 = .ok (.return_, 1) := dko_177 (dk_t 3 58 [177] dwX4_init_55 rfl rfl)
theorem dwX4_size_0 : dkW cX4_size 0 [42, 180, 0, 33, 172] = true := by decide +kernel
theorem dX4_size_0 : decode cX4_size 0 = .ok (.aload_n 0, 1) := dko_42 dwX4_size_0
theorem dX4_size_1 : decode cX4_size 1 = .ok (.getfield 33, 3) := dko_180 (dk_t 1 1 [180, 0, 33, 172] dwX4_size_0 rfl rfl)
theorem dX4_size_4 : decode cX4_size 4 = .ok (.ireturn, 1) := dko_172 (dk_t 4 4 [172] dwX4_size_0 rfl rfl)
theorem dwX4_clear_0 : dkW cX4_clear 0 [42, 3, 181, 0, 33, 177] = true := by decide +kernel
theorem dX4_clear_0 : decode cX4_clear 0 = .ok (.aload_n 0, 1) := dko_42 dwX4_clear_0
theorem dX4_clear_1 : decode cX4_clear 1 = .ok (.iconst 0, 1) := dko_3 (dk_t 1 1 [3, 181, 0, 33, 177] dwX4_clear_0 rfl rfl)
theorem dX4_clear_2 : decode cX4_clear 2 = .ok (.putfield 33, 3) := dko_181 (dk_t 2 2 [181, 0, 33, 177] dwX4_clear_0 rfl rfl)
theorem dX4_clear_5 : decode cX4_clear 5 = .ok (.return_, 1) := dko_177 (dk_t 5 5 [177] dwX4_clear_0 rfl rfl)
theorem dwX4_add_0 : dkW cX4_add 0 [42, 180, 0, 33, 155, 0, 91, 42, 180, 0, 33, 17, 4, 56] = true := by decide +kernel
theorem dX4_add_0 : decode cX4_add 0 = .ok (.aload_n 0, 1) := dko_42 dwX4_add_0
theorem dX4_add_1 : decode cX4_add 1 = .ok (.getfield 33, 3) := dko_180 (dk_t 1 1 [180, 0, 33, 155, 0, 91, 42, 180, 0, 33, 17, 4, 56] dwX4_add_0 rfl rfl)
theorem dX4_add_4 : decode cX4_add 4 = .ok (.ifCond .lt 91, 3) := dko_155 (dk_t 4 4 [155, 0, 91, 42, 180, 0, 33, 17, 4, 56] dwX4_add_0 rfl rfl)
theorem dX4_add_7 : decode cX4_add 7 = .ok (.aload_n 0, 1) := dko_42 (dk_t 7 7 [42, 180, 0, 33, 17, 4, 56] dwX4_add_0 rfl rfl)
theorem dX4_add_8 : decode cX4_add 8 = .ok (.getfield 33, 3) := dko_180 (dk_t 8 8 [180, 0, 33, 17, 4, 56] dwX4_add_0 rfl rfl)
theorem dX4_add_11 : decode cX4_add 11 = .ok (.sipush 1080, 3) := dko_17 (dk_t 11 11 [17, 4, 56] dwX4_add_0 rfl rfl)
theorem dwX4_add_14 : dkW cX4_add 14 [162, 0, 81, 42, 180, 0, 13, 42, 180, 0, 33, 43] = true := by decide +kernel
theorem dX4_add_14 : decode cX4_add 14 = .ok (.if_icmp .ge 81, 3) := dko_162 dwX4_add_14
theorem dX4_add_17 : decode cX4_add 17 = .ok (.aload_n 0, 1) := dko_42 (dk_t 3 17 [42, 180, 0, 13, 42, 180, 0, 33, 43] dwX4_add_14 rfl rfl)
theorem dX4_add_18 : decode cX4_add 18 = .ok (.getfield 13, 3) := dko_180 (dk_t 4 18 [180, 0, 13, 42, 180, 0, 33, 43] dwX4_add_14 rfl rfl)
theorem dX4_add_21 : decode cX4_add 21 = .ok (.aload_n 0, 1) := dko_42 (dk_t 7 21 [42, 180, 0, 33, 43] dwX4_add_14 rfl rfl)
theorem dX4_add_22 : decode cX4_add 22 = .ok (.getfield 33, 3) := dko_180 (dk_t 8 22 [180, 0, 33, 43] dwX4_add_14 rfl rfl)
theorem dX4_add_25 : decode cX4_add 25 = .ok (.aload_n 1, 1) := dko_43 (dk_t 11 25 [43] dwX4_add_14 rfl rfl)
theorem dwX4_add_26 : dkW cX4_add 26 [180, 0, 37, 79, 42, 180, 0, 17, 42, 180, 0, 33, 28, 79] = true := by decide +kernel
theorem dX4_add_26 : decode cX4_add 26 = .ok (.getfield 37, 3) := dko_180 dwX4_add_26
theorem dX4_add_29 : decode cX4_add 29 = .ok (.iastore, 1) := dko_79 (dk_t 3 29 [79, 42, 180, 0, 17, 42, 180, 0, 33, 28, 79] dwX4_add_26 rfl rfl)
theorem dX4_add_30 : decode cX4_add 30 = .ok (.aload_n 0, 1) := dko_42 (dk_t 4 30 [42, 180, 0, 17, 42, 180, 0, 33, 28, 79] dwX4_add_26 rfl rfl)
theorem dX4_add_31 : decode cX4_add 31 = .ok (.getfield 17, 3) := dko_180 (dk_t 5 31 [180, 0, 17, 42, 180, 0, 33, 28, 79] dwX4_add_26 rfl rfl)
theorem dX4_add_34 : decode cX4_add 34 = .ok (.aload_n 0, 1) := dko_42 (dk_t 8 34 [42, 180, 0, 33, 28, 79] dwX4_add_26 rfl rfl)
theorem dX4_add_35 : decode cX4_add 35 = .ok (.getfield 33, 3) := dko_180 (dk_t 9 35 [180, 0, 33, 28, 79] dwX4_add_26 rfl rfl)
theorem dX4_add_38 : decode cX4_add 38 = .ok (.iload_n 2, 1) := dko_28 (dk_t 12 38 [28, 79] dwX4_add_26 rfl rfl)
theorem dX4_add_39 : decode cX4_add 39 = .ok (.iastore, 1) := dko_79 (dk_t 13 39 [79] dwX4_add_26 rfl rfl)
theorem dwX4_add_40 : dkW cX4_add 40 [42, 180, 0, 20, 42, 180, 0, 33, 29, 79, 42, 180, 0, 23] = true := by decide +kernel
theorem dX4_add_40 : decode cX4_add 40 = .ok (.aload_n 0, 1) := dko_42 dwX4_add_40
theorem dX4_add_41 : decode cX4_add 41 = .ok (.getfield 20, 3) := dko_180 (dk_t 1 41 [180, 0, 20, 42, 180, 0, 33, 29, 79, 42, 180, 0, 23] dwX4_add_40 rfl rfl)
theorem dX4_add_44 : decode cX4_add 44 = .ok (.aload_n 0, 1) := dko_42 (dk_t 4 44 [42, 180, 0, 33, 29, 79, 42, 180, 0, 23] dwX4_add_40 rfl rfl)
theorem dX4_add_45 : decode cX4_add 45 = .ok (.getfield 33, 3) := dko_180 (dk_t 5 45 [180, 0, 33, 29, 79, 42, 180, 0, 23] dwX4_add_40 rfl rfl)
theorem dX4_add_48 : decode cX4_add 48 = .ok (.iload_n 3, 1) := dko_29 (dk_t 8 48 [29, 79, 42, 180, 0, 23] dwX4_add_40 rfl rfl)
theorem dX4_add_49 : decode cX4_add 49 = .ok (.iastore, 1) := dko_79 (dk_t 9 49 [79, 42, 180, 0, 23] dwX4_add_40 rfl rfl)
theorem dX4_add_50 : decode cX4_add 50 = .ok (.aload_n 0, 1) := dko_42 (dk_t 10 50 [42, 180, 0, 23] dwX4_add_40 rfl rfl)
theorem dX4_add_51 : decode cX4_add 51 = .ok (.getfield 23, 3) := dko_180 (dk_t 11 51 [180, 0, 23] dwX4_add_40 rfl rfl)
theorem dwX4_add_54 : dkW cX4_add 54 [42, 180, 0, 33, 21, 4, 79, 42, 180, 0, 26, 42] = true := by decide +kernel
theorem dX4_add_54 : decode cX4_add 54 = .ok (.aload_n 0, 1) := dko_42 dwX4_add_54
theorem dX4_add_55 : decode cX4_add 55 = .ok (.getfield 33, 3) := dko_180 (dk_t 1 55 [180, 0, 33, 21, 4, 79, 42, 180, 0, 26, 42] dwX4_add_54 rfl rfl)
theorem dX4_add_58 : decode cX4_add 58 = .ok (.iload 4, 2) := dko_21 (dk_t 4 58 [21, 4, 79, 42, 180, 0, 26, 42] dwX4_add_54 rfl rfl)
theorem dX4_add_60 : decode cX4_add 60 = .ok (.iastore, 1) := dko_79 (dk_t 6 60 [79, 42, 180, 0, 26, 42] dwX4_add_54 rfl rfl)
theorem dX4_add_61 : decode cX4_add 61 = .ok (.aload_n 0, 1) := dko_42 (dk_t 7 61 [42, 180, 0, 26, 42] dwX4_add_54 rfl rfl)
theorem dX4_add_62 : decode cX4_add 62 = .ok (.getfield 26, 3) := dko_180 (dk_t 8 62 [180, 0, 26, 42] dwX4_add_54 rfl rfl)
theorem dX4_add_65 : decode cX4_add 65 = .ok (.aload_n 0, 1) := dko_42 (dk_t 11 65 [42] dwX4_add_54 rfl rfl)
theorem dwX4_add_66 : dkW cX4_add 66 [180, 0, 33, 43, 180, 0, 42, 84, 42, 180, 0, 30, 42] = true := by decide +kernel
theorem dX4_add_66 : decode cX4_add 66 = .ok (.getfield 33, 3) := dko_180 dwX4_add_66
theorem dX4_add_69 : decode cX4_add 69 = .ok (.aload_n 1, 1) := dko_43 (dk_t 3 69 [43, 180, 0, 42, 84, 42, 180, 0, 30, 42] dwX4_add_66 rfl rfl)
theorem dX4_add_70 : decode cX4_add 70 = .ok (.getfield 42, 3) := dko_180 (dk_t 4 70 [180, 0, 42, 84, 42, 180, 0, 30, 42] dwX4_add_66 rfl rfl)
theorem dX4_add_73 : decode cX4_add 73 = .ok (.bastore, 1) := dko_84 (dk_t 7 73 [84, 42, 180, 0, 30, 42] dwX4_add_66 rfl rfl)
theorem dX4_add_74 : decode cX4_add 74 = .ok (.aload_n 0, 1) := dko_42 (dk_t 8 74 [42, 180, 0, 30, 42] dwX4_add_66 rfl rfl)
theorem dX4_add_75 : decode cX4_add 75 = .ok (.getfield 30, 3) := dko_180 (dk_t 9 75 [180, 0, 30, 42] dwX4_add_66 rfl rfl)
theorem dX4_add_78 : decode cX4_add 78 = .ok (.aload_n 0, 1) := dko_42 (dk_t 12 78 [42] dwX4_add_66 rfl rfl)
theorem dwX4_add_79 : dkW cX4_add 79 [180, 0, 33, 21, 5, 84, 42, 89, 180, 0, 33, 4, 96] = true := by decide +kernel
theorem dX4_add_79 : decode cX4_add 79 = .ok (.getfield 33, 3) := dko_180 dwX4_add_79
theorem dX4_add_82 : decode cX4_add 82 = .ok (.iload 5, 2) := dko_21 (dk_t 3 82 [21, 5, 84, 42, 89, 180, 0, 33, 4, 96] dwX4_add_79 rfl rfl)
theorem dX4_add_84 : decode cX4_add 84 = .ok (.bastore, 1) := dko_84 (dk_t 5 84 [84, 42, 89, 180, 0, 33, 4, 96] dwX4_add_79 rfl rfl)
theorem dX4_add_85 : decode cX4_add 85 = .ok (.aload_n 0, 1) := dko_42 (dk_t 6 85 [42, 89, 180, 0, 33, 4, 96] dwX4_add_79 rfl rfl)
theorem dX4_add_86 : decode cX4_add 86 = .ok (.dup, 1) := dko_89 (dk_t 7 86 [89, 180, 0, 33, 4, 96] dwX4_add_79 rfl rfl)
theorem dX4_add_87 : decode cX4_add 87 = .ok (.getfield 33, 3) := dko_180 (dk_t 8 87 [180, 0, 33, 4, 96] dwX4_add_79 rfl rfl)
theorem dX4_add_90 : decode cX4_add 90 = .ok (.iconst 1, 1) := dko_4 (dk_t 11 90 [4, 96] dwX4_add_79 rfl rfl)
theorem dX4_add_91 : decode cX4_add 91 = .ok (.iadd, 1) := dko_96 (dk_t 12 91 [96] dwX4_add_79 rfl rfl)
theorem dwX4_add_92 : dkW cX4_add 92 [181, 0, 33, 177] = true := by decide +kernel
theorem dX4_add_92 : decode cX4_add 92 = .ok (.putfield 33, 3) := dko_181 dwX4_add_92
theorem dX4_add_95 : decode cX4_add 95 = .ok (.return_, 1) := dko_177 (dk_t 3 95 [177] dwX4_add_92 rfl rfl)
theorem dwX4_take_0 : dkW cX4_take 0 [42, 180, 0, 33, 155, 0, 121, 42, 180, 0, 33, 17, 4, 56] = true := by decide +kernel
theorem dX4_take_0 : decode cX4_take 0 = .ok (.aload_n 0, 1) := dko_42 dwX4_take_0
theorem dX4_take_1 : decode cX4_take 1 = .ok (.getfield 33, 3) := dko_180 (dk_t 1 1 [180, 0, 33, 155, 0, 121, 42, 180, 0, 33, 17, 4, 56] dwX4_take_0 rfl rfl)
theorem dX4_take_4 : decode cX4_take 4 = .ok (.ifCond .lt 121, 3) := dko_155 (dk_t 4 4 [155, 0, 121, 42, 180, 0, 33, 17, 4, 56] dwX4_take_0 rfl rfl)
theorem dX4_take_7 : decode cX4_take 7 = .ok (.aload_n 0, 1) := dko_42 (dk_t 7 7 [42, 180, 0, 33, 17, 4, 56] dwX4_take_0 rfl rfl)
theorem dX4_take_8 : decode cX4_take 8 = .ok (.getfield 33, 3) := dko_180 (dk_t 8 8 [180, 0, 33, 17, 4, 56] dwX4_take_0 rfl rfl)
theorem dX4_take_11 : decode cX4_take 11 = .ok (.sipush 1080, 3) := dko_17 (dk_t 11 11 [17, 4, 56] dwX4_take_0 rfl rfl)
theorem dwX4_take_14 : dkW cX4_take 14 [162, 0, 111, 43, 28, 182, 0, 46, 153, 0, 103, 42] = true := by decide +kernel
theorem dX4_take_14 : decode cX4_take 14 = .ok (.if_icmp .ge 111, 3) := dko_162 dwX4_take_14
theorem dX4_take_17 : decode cX4_take 17 = .ok (.aload_n 1, 1) := dko_43 (dk_t 3 17 [43, 28, 182, 0, 46, 153, 0, 103, 42] dwX4_take_14 rfl rfl)
theorem dX4_take_18 : decode cX4_take 18 = .ok (.iload_n 2, 1) := dko_28 (dk_t 4 18 [28, 182, 0, 46, 153, 0, 103, 42] dwX4_take_14 rfl rfl)
theorem dX4_take_19 : decode cX4_take 19 = .ok (.invokevirtual 46, 3) := dko_182 (dk_t 5 19 [182, 0, 46, 153, 0, 103, 42] dwX4_take_14 rfl rfl)
theorem dX4_take_22 : decode cX4_take 22 = .ok (.ifCond .eq 103, 3) := dko_153 (dk_t 8 22 [153, 0, 103, 42] dwX4_take_14 rfl rfl)
theorem dX4_take_25 : decode cX4_take 25 = .ok (.aload_n 0, 1) := dko_42 (dk_t 11 25 [42] dwX4_take_14 rfl rfl)
theorem dwX4_take_26 : dkW cX4_take 26 [180, 0, 13, 42, 180, 0, 33, 43, 180, 0, 13, 28, 46, 79] = true := by decide +kernel
theorem dX4_take_26 : decode cX4_take 26 = .ok (.getfield 13, 3) := dko_180 dwX4_take_26
theorem dX4_take_29 : decode cX4_take 29 = .ok (.aload_n 0, 1) := dko_42 (dk_t 3 29 [42, 180, 0, 33, 43, 180, 0, 13, 28, 46, 79] dwX4_take_26 rfl rfl)
theorem dX4_take_30 : decode cX4_take 30 = .ok (.getfield 33, 3) := dko_180 (dk_t 4 30 [180, 0, 33, 43, 180, 0, 13, 28, 46, 79] dwX4_take_26 rfl rfl)
theorem dX4_take_33 : decode cX4_take 33 = .ok (.aload_n 1, 1) := dko_43 (dk_t 7 33 [43, 180, 0, 13, 28, 46, 79] dwX4_take_26 rfl rfl)
theorem dX4_take_34 : decode cX4_take 34 = .ok (.getfield 13, 3) := dko_180 (dk_t 8 34 [180, 0, 13, 28, 46, 79] dwX4_take_26 rfl rfl)
theorem dX4_take_37 : decode cX4_take 37 = .ok (.iload_n 2, 1) := dko_28 (dk_t 11 37 [28, 46, 79] dwX4_take_26 rfl rfl)
theorem dX4_take_38 : decode cX4_take 38 = .ok (.iaload, 1) := dko_46 (dk_t 12 38 [46, 79] dwX4_take_26 rfl rfl)
theorem dX4_take_39 : decode cX4_take 39 = .ok (.iastore, 1) := dko_79 (dk_t 13 39 [79] dwX4_take_26 rfl rfl)
theorem dwX4_take_40 : dkW cX4_take 40 [42, 180, 0, 17, 42, 180, 0, 33, 43, 180, 0, 17, 28, 46] = true := by decide +kernel
theorem dX4_take_40 : decode cX4_take 40 = .ok (.aload_n 0, 1) := dko_42 dwX4_take_40
theorem dX4_take_41 : decode cX4_take 41 = .ok (.getfield 17, 3) := dko_180 (dk_t 1 41 [180, 0, 17, 42, 180, 0, 33, 43, 180, 0, 17, 28, 46] dwX4_take_40 rfl rfl)
theorem dX4_take_44 : decode cX4_take 44 = .ok (.aload_n 0, 1) := dko_42 (dk_t 4 44 [42, 180, 0, 33, 43, 180, 0, 17, 28, 46] dwX4_take_40 rfl rfl)
theorem dX4_take_45 : decode cX4_take 45 = .ok (.getfield 33, 3) := dko_180 (dk_t 5 45 [180, 0, 33, 43, 180, 0, 17, 28, 46] dwX4_take_40 rfl rfl)
theorem dX4_take_48 : decode cX4_take 48 = .ok (.aload_n 1, 1) := dko_43 (dk_t 8 48 [43, 180, 0, 17, 28, 46] dwX4_take_40 rfl rfl)
theorem dX4_take_49 : decode cX4_take 49 = .ok (.getfield 17, 3) := dko_180 (dk_t 9 49 [180, 0, 17, 28, 46] dwX4_take_40 rfl rfl)
theorem dX4_take_52 : decode cX4_take 52 = .ok (.iload_n 2, 1) := dko_28 (dk_t 12 52 [28, 46] dwX4_take_40 rfl rfl)
theorem dX4_take_53 : decode cX4_take 53 = .ok (.iaload, 1) := dko_46 (dk_t 13 53 [46] dwX4_take_40 rfl rfl)
theorem dwX4_take_54 : dkW cX4_take 54 [79, 42, 180, 0, 20, 42, 180, 0, 33, 43, 180, 0, 20, 28] = true := by decide +kernel
theorem dX4_take_54 : decode cX4_take 54 = .ok (.iastore, 1) := dko_79 dwX4_take_54
theorem dX4_take_55 : decode cX4_take 55 = .ok (.aload_n 0, 1) := dko_42 (dk_t 1 55 [42, 180, 0, 20, 42, 180, 0, 33, 43, 180, 0, 20, 28] dwX4_take_54 rfl rfl)
theorem dX4_take_56 : decode cX4_take 56 = .ok (.getfield 20, 3) := dko_180 (dk_t 2 56 [180, 0, 20, 42, 180, 0, 33, 43, 180, 0, 20, 28] dwX4_take_54 rfl rfl)
theorem dX4_take_59 : decode cX4_take 59 = .ok (.aload_n 0, 1) := dko_42 (dk_t 5 59 [42, 180, 0, 33, 43, 180, 0, 20, 28] dwX4_take_54 rfl rfl)
theorem dX4_take_60 : decode cX4_take 60 = .ok (.getfield 33, 3) := dko_180 (dk_t 6 60 [180, 0, 33, 43, 180, 0, 20, 28] dwX4_take_54 rfl rfl)
theorem dX4_take_63 : decode cX4_take 63 = .ok (.aload_n 1, 1) := dko_43 (dk_t 9 63 [43, 180, 0, 20, 28] dwX4_take_54 rfl rfl)
theorem dX4_take_64 : decode cX4_take 64 = .ok (.getfield 20, 3) := dko_180 (dk_t 10 64 [180, 0, 20, 28] dwX4_take_54 rfl rfl)
theorem dX4_take_67 : decode cX4_take 67 = .ok (.iload_n 2, 1) := dko_28 (dk_t 13 67 [28] dwX4_take_54 rfl rfl)
theorem dwX4_take_68 : dkW cX4_take 68 [46, 79, 42, 180, 0, 23, 42, 180, 0, 33, 43, 180, 0, 23] = true := by decide +kernel
theorem dX4_take_68 : decode cX4_take 68 = .ok (.iaload, 1) := dko_46 dwX4_take_68
theorem dX4_take_69 : decode cX4_take 69 = .ok (.iastore, 1) := dko_79 (dk_t 1 69 [79, 42, 180, 0, 23, 42, 180, 0, 33, 43, 180, 0, 23] dwX4_take_68 rfl rfl)
theorem dX4_take_70 : decode cX4_take 70 = .ok (.aload_n 0, 1) := dko_42 (dk_t 2 70 [42, 180, 0, 23, 42, 180, 0, 33, 43, 180, 0, 23] dwX4_take_68 rfl rfl)
theorem dX4_take_71 : decode cX4_take 71 = .ok (.getfield 23, 3) := dko_180 (dk_t 3 71 [180, 0, 23, 42, 180, 0, 33, 43, 180, 0, 23] dwX4_take_68 rfl rfl)
theorem dX4_take_74 : decode cX4_take 74 = .ok (.aload_n 0, 1) := dko_42 (dk_t 6 74 [42, 180, 0, 33, 43, 180, 0, 23] dwX4_take_68 rfl rfl)
theorem dX4_take_75 : decode cX4_take 75 = .ok (.getfield 33, 3) := dko_180 (dk_t 7 75 [180, 0, 33, 43, 180, 0, 23] dwX4_take_68 rfl rfl)
theorem dX4_take_78 : decode cX4_take 78 = .ok (.aload_n 1, 1) := dko_43 (dk_t 10 78 [43, 180, 0, 23] dwX4_take_68 rfl rfl)
theorem dX4_take_79 : decode cX4_take 79 = .ok (.getfield 23, 3) := dko_180 (dk_t 11 79 [180, 0, 23] dwX4_take_68 rfl rfl)
theorem dwX4_take_82 : dkW cX4_take 82 [28, 46, 79, 42, 180, 0, 26, 42, 180, 0, 33, 43] = true := by decide +kernel
theorem dX4_take_82 : decode cX4_take 82 = .ok (.iload_n 2, 1) := dko_28 dwX4_take_82
theorem dX4_take_83 : decode cX4_take 83 = .ok (.iaload, 1) := dko_46 (dk_t 1 83 [46, 79, 42, 180, 0, 26, 42, 180, 0, 33, 43] dwX4_take_82 rfl rfl)
theorem dX4_take_84 : decode cX4_take 84 = .ok (.iastore, 1) := dko_79 (dk_t 2 84 [79, 42, 180, 0, 26, 42, 180, 0, 33, 43] dwX4_take_82 rfl rfl)
theorem dX4_take_85 : decode cX4_take 85 = .ok (.aload_n 0, 1) := dko_42 (dk_t 3 85 [42, 180, 0, 26, 42, 180, 0, 33, 43] dwX4_take_82 rfl rfl)
theorem dX4_take_86 : decode cX4_take 86 = .ok (.getfield 26, 3) := dko_180 (dk_t 4 86 [180, 0, 26, 42, 180, 0, 33, 43] dwX4_take_82 rfl rfl)
theorem dX4_take_89 : decode cX4_take 89 = .ok (.aload_n 0, 1) := dko_42 (dk_t 7 89 [42, 180, 0, 33, 43] dwX4_take_82 rfl rfl)
theorem dX4_take_90 : decode cX4_take 90 = .ok (.getfield 33, 3) := dko_180 (dk_t 8 90 [180, 0, 33, 43] dwX4_take_82 rfl rfl)
theorem dX4_take_93 : decode cX4_take 93 = .ok (.aload_n 1, 1) := dko_43 (dk_t 11 93 [43] dwX4_take_82 rfl rfl)
theorem dwX4_take_94 : dkW cX4_take 94 [180, 0, 26, 28, 51, 84, 42, 180, 0, 30, 42, 180, 0, 33] = true := by decide +kernel
theorem dX4_take_94 : decode cX4_take 94 = .ok (.getfield 26, 3) := dko_180 dwX4_take_94
theorem dX4_take_97 : decode cX4_take 97 = .ok (.iload_n 2, 1) := dko_28 (dk_t 3 97 [28, 51, 84, 42, 180, 0, 30, 42, 180, 0, 33] dwX4_take_94 rfl rfl)
theorem dX4_take_98 : decode cX4_take 98 = .ok (.baload, 1) := dko_51 (dk_t 4 98 [51, 84, 42, 180, 0, 30, 42, 180, 0, 33] dwX4_take_94 rfl rfl)
theorem dX4_take_99 : decode cX4_take 99 = .ok (.bastore, 1) := dko_84 (dk_t 5 99 [84, 42, 180, 0, 30, 42, 180, 0, 33] dwX4_take_94 rfl rfl)
theorem dX4_take_100 : decode cX4_take 100 = .ok (.aload_n 0, 1) := dko_42 (dk_t 6 100 [42, 180, 0, 30, 42, 180, 0, 33] dwX4_take_94 rfl rfl)
theorem dX4_take_101 : decode cX4_take 101 = .ok (.getfield 30, 3) := dko_180 (dk_t 7 101 [180, 0, 30, 42, 180, 0, 33] dwX4_take_94 rfl rfl)
theorem dX4_take_104 : decode cX4_take 104 = .ok (.aload_n 0, 1) := dko_42 (dk_t 10 104 [42, 180, 0, 33] dwX4_take_94 rfl rfl)
theorem dX4_take_105 : decode cX4_take 105 = .ok (.getfield 33, 3) := dko_180 (dk_t 11 105 [180, 0, 33] dwX4_take_94 rfl rfl)
theorem dwX4_take_108 : dkW cX4_take 108 [43, 180, 0, 30, 28, 51, 84, 42, 89, 180, 0, 33, 4, 96] = true := by decide +kernel
theorem dX4_take_108 : decode cX4_take 108 = .ok (.aload_n 1, 1) := dko_43 dwX4_take_108
theorem dX4_take_109 : decode cX4_take 109 = .ok (.getfield 30, 3) := dko_180 (dk_t 1 109 [180, 0, 30, 28, 51, 84, 42, 89, 180, 0, 33, 4, 96] dwX4_take_108 rfl rfl)
theorem dX4_take_112 : decode cX4_take 112 = .ok (.iload_n 2, 1) := dko_28 (dk_t 4 112 [28, 51, 84, 42, 89, 180, 0, 33, 4, 96] dwX4_take_108 rfl rfl)
theorem dX4_take_113 : decode cX4_take 113 = .ok (.baload, 1) := dko_51 (dk_t 5 113 [51, 84, 42, 89, 180, 0, 33, 4, 96] dwX4_take_108 rfl rfl)
theorem dX4_take_114 : decode cX4_take 114 = .ok (.bastore, 1) := dko_84 (dk_t 6 114 [84, 42, 89, 180, 0, 33, 4, 96] dwX4_take_108 rfl rfl)
theorem dX4_take_115 : decode cX4_take 115 = .ok (.aload_n 0, 1) := dko_42 (dk_t 7 115 [42, 89, 180, 0, 33, 4, 96] dwX4_take_108 rfl rfl)
theorem dX4_take_116 : decode cX4_take 116 = .ok (.dup, 1) := dko_89 (dk_t 8 116 [89, 180, 0, 33, 4, 96] dwX4_take_108 rfl rfl)
theorem dX4_take_117 : decode cX4_take 117 = .ok (.getfield 33, 3) := dko_180 (dk_t 9 117 [180, 0, 33, 4, 96] dwX4_take_108 rfl rfl)
theorem dX4_take_120 : decode cX4_take 120 = .ok (.iconst 1, 1) := dko_4 (dk_t 12 120 [4, 96] dwX4_take_108 rfl rfl)
theorem dX4_take_121 : decode cX4_take 121 = .ok (.iadd, 1) := dko_96 (dk_t 13 121 [96] dwX4_take_108 rfl rfl)
theorem dwX4_take_122 : dkW cX4_take 122 [181, 0, 33, 177] = true := by decide +kernel
theorem dX4_take_122 : decode cX4_take 122 = .ok (.putfield 33, 3) := dko_181 dwX4_take_122
theorem dX4_take_125 : decode cX4_take 125 = .ok (.return_, 1) := dko_177 (dk_t 3 125 [177] dwX4_take_122 rfl rfl)
theorem dwX4_number_0 : dkW cX4_number 0 [42, 27, 182, 0, 46, 153, 0, 12, 42, 180, 0, 13, 27, 46] = true := by decide +kernel
theorem dX4_number_0 : decode cX4_number 0 = .ok (.aload_n 0, 1) := dko_42 dwX4_number_0
theorem dX4_number_1 : decode cX4_number 1 = .ok (.iload_n 1, 1) := dko_27 (dk_t 1 1 [27, 182, 0, 46, 153, 0, 12, 42, 180, 0, 13, 27, 46] dwX4_number_0 rfl rfl)
theorem dX4_number_2 : decode cX4_number 2 = .ok (.invokevirtual 46, 3) := dko_182 (dk_t 2 2 [182, 0, 46, 153, 0, 12, 42, 180, 0, 13, 27, 46] dwX4_number_0 rfl rfl)
theorem dX4_number_5 : decode cX4_number 5 = .ok (.ifCond .eq 12, 3) := dko_153 (dk_t 5 5 [153, 0, 12, 42, 180, 0, 13, 27, 46] dwX4_number_0 rfl rfl)
theorem dX4_number_8 : decode cX4_number 8 = .ok (.aload_n 0, 1) := dko_42 (dk_t 8 8 [42, 180, 0, 13, 27, 46] dwX4_number_0 rfl rfl)
theorem dX4_number_9 : decode cX4_number 9 = .ok (.getfield 13, 3) := dko_180 (dk_t 9 9 [180, 0, 13, 27, 46] dwX4_number_0 rfl rfl)
theorem dX4_number_12 : decode cX4_number 12 = .ok (.iload_n 1, 1) := dko_27 (dk_t 12 12 [27, 46] dwX4_number_0 rfl rfl)
theorem dX4_number_13 : decode cX4_number 13 = .ok (.iaload, 1) := dko_46 (dk_t 13 13 [46] dwX4_number_0 rfl rfl)
theorem dwX4_number_14 : dkW cX4_number 14 [167, 0, 4, 2, 172] = true := by decide +kernel
theorem dX4_number_14 : decode cX4_number 14 = .ok (.goto 4, 3) := dko_167 dwX4_number_14
theorem dX4_number_17 : decode cX4_number 17 = .ok (.iconst (-1), 1) := dko_2 (dk_t 3 17 [2, 172] dwX4_number_14 rfl rfl)
theorem dX4_number_18 : decode cX4_number 18 = .ok (.ireturn, 1) := dko_172 (dk_t 4 18 [172] dwX4_number_14 rfl rfl)
theorem dwX4_subject_0 : dkW cX4_subject 0 [42, 27, 182, 0, 46, 153, 0, 12, 42, 180, 0, 17, 27, 46] = true := by decide +kernel
theorem dX4_subject_0 : decode cX4_subject 0 = .ok (.aload_n 0, 1) := dko_42 dwX4_subject_0
theorem dX4_subject_1 : decode cX4_subject 1 = .ok (.iload_n 1, 1) := dko_27 (dk_t 1 1 [27, 182, 0, 46, 153, 0, 12, 42, 180, 0, 17, 27, 46] dwX4_subject_0 rfl rfl)
theorem dX4_subject_2 : decode cX4_subject 2 = .ok (.invokevirtual 46, 3) := dko_182 (dk_t 2 2 [182, 0, 46, 153, 0, 12, 42, 180, 0, 17, 27, 46] dwX4_subject_0 rfl rfl)
theorem dX4_subject_5 : decode cX4_subject 5 = .ok (.ifCond .eq 12, 3) := dko_153 (dk_t 5 5 [153, 0, 12, 42, 180, 0, 17, 27, 46] dwX4_subject_0 rfl rfl)
theorem dX4_subject_8 : decode cX4_subject 8 = .ok (.aload_n 0, 1) := dko_42 (dk_t 8 8 [42, 180, 0, 17, 27, 46] dwX4_subject_0 rfl rfl)
theorem dX4_subject_9 : decode cX4_subject 9 = .ok (.getfield 17, 3) := dko_180 (dk_t 9 9 [180, 0, 17, 27, 46] dwX4_subject_0 rfl rfl)
theorem dX4_subject_12 : decode cX4_subject 12 = .ok (.iload_n 1, 1) := dko_27 (dk_t 12 12 [27, 46] dwX4_subject_0 rfl rfl)
theorem dX4_subject_13 : decode cX4_subject 13 = .ok (.iaload, 1) := dko_46 (dk_t 13 13 [46] dwX4_subject_0 rfl rfl)
theorem dwX4_subject_14 : dkW cX4_subject 14 [167, 0, 4, 2, 172] = true := by decide +kernel
theorem dX4_subject_14 : decode cX4_subject 14 = .ok (.goto 4, 3) := dko_167 dwX4_subject_14
theorem dX4_subject_17 : decode cX4_subject 17 = .ok (.iconst (-1), 1) := dko_2 (dk_t 3 17 [2, 172] dwX4_subject_14 rfl rfl)
theorem dX4_subject_18 : decode cX4_subject 18 = .ok (.ireturn, 1) := dko_172 (dk_t 4 18 [172] dwX4_subject_14 rfl rfl)
theorem dwX4_before_0 : dkW cX4_before 0 [42, 27, 182, 0, 46, 153, 0, 12, 42, 180, 0, 20, 27, 46] = true := by decide +kernel
theorem dX4_before_0 : decode cX4_before 0 = .ok (.aload_n 0, 1) := dko_42 dwX4_before_0
theorem dX4_before_1 : decode cX4_before 1 = .ok (.iload_n 1, 1) := dko_27 (dk_t 1 1 [27, 182, 0, 46, 153, 0, 12, 42, 180, 0, 20, 27, 46] dwX4_before_0 rfl rfl)
theorem dX4_before_2 : decode cX4_before 2 = .ok (.invokevirtual 46, 3) := dko_182 (dk_t 2 2 [182, 0, 46, 153, 0, 12, 42, 180, 0, 20, 27, 46] dwX4_before_0 rfl rfl)
theorem dX4_before_5 : decode cX4_before 5 = .ok (.ifCond .eq 12, 3) := dko_153 (dk_t 5 5 [153, 0, 12, 42, 180, 0, 20, 27, 46] dwX4_before_0 rfl rfl)
theorem dX4_before_8 : decode cX4_before 8 = .ok (.aload_n 0, 1) := dko_42 (dk_t 8 8 [42, 180, 0, 20, 27, 46] dwX4_before_0 rfl rfl)
theorem dX4_before_9 : decode cX4_before 9 = .ok (.getfield 20, 3) := dko_180 (dk_t 9 9 [180, 0, 20, 27, 46] dwX4_before_0 rfl rfl)
theorem dX4_before_12 : decode cX4_before 12 = .ok (.iload_n 1, 1) := dko_27 (dk_t 12 12 [27, 46] dwX4_before_0 rfl rfl)
theorem dX4_before_13 : decode cX4_before 13 = .ok (.iaload, 1) := dko_46 (dk_t 13 13 [46] dwX4_before_0 rfl rfl)
theorem dwX4_before_14 : dkW cX4_before 14 [167, 0, 6, 17, 248, 48, 172] = true := by decide +kernel
theorem dX4_before_14 : decode cX4_before 14 = .ok (.goto 6, 3) := dko_167 dwX4_before_14
theorem dX4_before_17 : decode cX4_before 17 = .ok (.sipush (-2000), 3) := dko_17 (dk_t 3 17 [17, 248, 48, 172] dwX4_before_14 rfl rfl)
theorem dX4_before_20 : decode cX4_before 20 = .ok (.ireturn, 1) := dko_172 (dk_t 6 20 [172] dwX4_before_14 rfl rfl)
theorem dwX4_after_0 : dkW cX4_after 0 [42, 27, 182, 0, 46, 153, 0, 12, 42, 180, 0, 23, 27, 46] = true := by decide +kernel
theorem dX4_after_0 : decode cX4_after 0 = .ok (.aload_n 0, 1) := dko_42 dwX4_after_0
theorem dX4_after_1 : decode cX4_after 1 = .ok (.iload_n 1, 1) := dko_27 (dk_t 1 1 [27, 182, 0, 46, 153, 0, 12, 42, 180, 0, 23, 27, 46] dwX4_after_0 rfl rfl)
theorem dX4_after_2 : decode cX4_after 2 = .ok (.invokevirtual 46, 3) := dko_182 (dk_t 2 2 [182, 0, 46, 153, 0, 12, 42, 180, 0, 23, 27, 46] dwX4_after_0 rfl rfl)
theorem dX4_after_5 : decode cX4_after 5 = .ok (.ifCond .eq 12, 3) := dko_153 (dk_t 5 5 [153, 0, 12, 42, 180, 0, 23, 27, 46] dwX4_after_0 rfl rfl)
theorem dX4_after_8 : decode cX4_after 8 = .ok (.aload_n 0, 1) := dko_42 (dk_t 8 8 [42, 180, 0, 23, 27, 46] dwX4_after_0 rfl rfl)
theorem dX4_after_9 : decode cX4_after 9 = .ok (.getfield 23, 3) := dko_180 (dk_t 9 9 [180, 0, 23, 27, 46] dwX4_after_0 rfl rfl)
theorem dX4_after_12 : decode cX4_after 12 = .ok (.iload_n 1, 1) := dko_27 (dk_t 12 12 [27, 46] dwX4_after_0 rfl rfl)
theorem dX4_after_13 : decode cX4_after 13 = .ok (.iaload, 1) := dko_46 (dk_t 13 13 [46] dwX4_after_0 rfl rfl)
theorem dwX4_after_14 : dkW cX4_after 14 [167, 0, 6, 17, 248, 48, 172] = true := by decide +kernel
theorem dX4_after_14 : decode cX4_after 14 = .ok (.goto 6, 3) := dko_167 dwX4_after_14
theorem dX4_after_17 : decode cX4_after 17 = .ok (.sipush (-2000), 3) := dko_17 (dk_t 3 17 [17, 248, 48, 172] dwX4_after_14 rfl rfl)
theorem dX4_after_20 : decode cX4_after 20 = .ok (.ireturn, 1) := dko_172 (dk_t 6 20 [172] dwX4_after_14 rfl rfl)
theorem dwX4_isLate_0 : dkW cX4_isLate 0 [42, 27, 182, 0, 46, 153, 0, 16, 42, 180, 0, 26, 27, 51] = true := by decide +kernel
theorem dX4_isLate_0 : decode cX4_isLate 0 = .ok (.aload_n 0, 1) := dko_42 dwX4_isLate_0
theorem dX4_isLate_1 : decode cX4_isLate 1 = .ok (.iload_n 1, 1) := dko_27 (dk_t 1 1 [27, 182, 0, 46, 153, 0, 16, 42, 180, 0, 26, 27, 51] dwX4_isLate_0 rfl rfl)
theorem dX4_isLate_2 : decode cX4_isLate 2 = .ok (.invokevirtual 46, 3) := dko_182 (dk_t 2 2 [182, 0, 46, 153, 0, 16, 42, 180, 0, 26, 27, 51] dwX4_isLate_0 rfl rfl)
theorem dX4_isLate_5 : decode cX4_isLate 5 = .ok (.ifCond .eq 16, 3) := dko_153 (dk_t 5 5 [153, 0, 16, 42, 180, 0, 26, 27, 51] dwX4_isLate_0 rfl rfl)
theorem dX4_isLate_8 : decode cX4_isLate 8 = .ok (.aload_n 0, 1) := dko_42 (dk_t 8 8 [42, 180, 0, 26, 27, 51] dwX4_isLate_0 rfl rfl)
theorem dX4_isLate_9 : decode cX4_isLate 9 = .ok (.getfield 26, 3) := dko_180 (dk_t 9 9 [180, 0, 26, 27, 51] dwX4_isLate_0 rfl rfl)
theorem dX4_isLate_12 : decode cX4_isLate 12 = .ok (.iload_n 1, 1) := dko_27 (dk_t 12 12 [27, 51] dwX4_isLate_0 rfl rfl)
theorem dX4_isLate_13 : decode cX4_isLate 13 = .ok (.baload, 1) := dko_51 (dk_t 13 13 [51] dwX4_isLate_0 rfl rfl)
theorem dwX4_isLate_14 : dkW cX4_isLate 14 [153, 0, 7, 4, 167, 0, 4, 3, 172] = true := by decide +kernel
theorem dX4_isLate_14 : decode cX4_isLate 14 = .ok (.ifCond .eq 7, 3) := dko_153 dwX4_isLate_14
theorem dX4_isLate_17 : decode cX4_isLate 17 = .ok (.iconst 1, 1) := dko_4 (dk_t 3 17 [4, 167, 0, 4, 3, 172] dwX4_isLate_14 rfl rfl)
theorem dX4_isLate_18 : decode cX4_isLate 18 = .ok (.goto 4, 3) := dko_167 (dk_t 4 18 [167, 0, 4, 3, 172] dwX4_isLate_14 rfl rfl)
theorem dX4_isLate_21 : decode cX4_isLate 21 = .ok (.iconst 0, 1) := dko_3 (dk_t 7 21 [3, 172] dwX4_isLate_14 rfl rfl)
theorem dX4_isLate_22 : decode cX4_isLate 22 = .ok (.ireturn, 1) := dko_172 (dk_t 8 22 [172] dwX4_isLate_14 rfl rfl)
theorem dwX4_fails_0 : dkW cX4_fails 0 [42, 27, 182, 0, 46, 153, 0, 16, 42, 180, 0, 30, 27, 51] = true := by decide +kernel
theorem dX4_fails_0 : decode cX4_fails 0 = .ok (.aload_n 0, 1) := dko_42 dwX4_fails_0
theorem dX4_fails_1 : decode cX4_fails 1 = .ok (.iload_n 1, 1) := dko_27 (dk_t 1 1 [27, 182, 0, 46, 153, 0, 16, 42, 180, 0, 30, 27, 51] dwX4_fails_0 rfl rfl)
theorem dX4_fails_2 : decode cX4_fails 2 = .ok (.invokevirtual 46, 3) := dko_182 (dk_t 2 2 [182, 0, 46, 153, 0, 16, 42, 180, 0, 30, 27, 51] dwX4_fails_0 rfl rfl)
theorem dX4_fails_5 : decode cX4_fails 5 = .ok (.ifCond .eq 16, 3) := dko_153 (dk_t 5 5 [153, 0, 16, 42, 180, 0, 30, 27, 51] dwX4_fails_0 rfl rfl)
theorem dX4_fails_8 : decode cX4_fails 8 = .ok (.aload_n 0, 1) := dko_42 (dk_t 8 8 [42, 180, 0, 30, 27, 51] dwX4_fails_0 rfl rfl)
theorem dX4_fails_9 : decode cX4_fails 9 = .ok (.getfield 30, 3) := dko_180 (dk_t 9 9 [180, 0, 30, 27, 51] dwX4_fails_0 rfl rfl)
theorem dX4_fails_12 : decode cX4_fails 12 = .ok (.iload_n 1, 1) := dko_27 (dk_t 12 12 [27, 51] dwX4_fails_0 rfl rfl)
theorem dX4_fails_13 : decode cX4_fails 13 = .ok (.baload, 1) := dko_51 (dk_t 13 13 [51] dwX4_fails_0 rfl rfl)
theorem dwX4_fails_14 : dkW cX4_fails 14 [153, 0, 7, 4, 167, 0, 4, 3, 172] = true := by decide +kernel
theorem dX4_fails_14 : decode cX4_fails 14 = .ok (.ifCond .eq 7, 3) := dko_153 dwX4_fails_14
theorem dX4_fails_17 : decode cX4_fails 17 = .ok (.iconst 1, 1) := dko_4 (dk_t 3 17 [4, 167, 0, 4, 3, 172] dwX4_fails_14 rfl rfl)
theorem dX4_fails_18 : decode cX4_fails 18 = .ok (.goto 4, 3) := dko_167 (dk_t 4 18 [167, 0, 4, 3, 172] dwX4_fails_14 rfl rfl)
theorem dX4_fails_21 : decode cX4_fails 21 = .ok (.iconst 0, 1) := dko_3 (dk_t 7 21 [3, 172] dwX4_fails_14 rfl rfl)
theorem dX4_fails_22 : decode cX4_fails 22 = .ok (.ireturn, 1) := dko_172 (dk_t 8 22 [172] dwX4_fails_14 rfl rfl)
theorem dwX4_firstFailing_0 : dkW cX4_firstFailing 0 [3, 60, 27, 42, 180, 0, 33, 162, 0, 19, 42, 27] = true := by decide +kernel
theorem dX4_firstFailing_0 : decode cX4_firstFailing 0 = .ok (.iconst 0, 1) := dko_3 dwX4_firstFailing_0
theorem dX4_firstFailing_1 : decode cX4_firstFailing 1 = .ok (.istore_n 1, 1) := dko_60 (dk_t 1 1 [60, 27, 42, 180, 0, 33, 162, 0, 19, 42, 27] dwX4_firstFailing_0 rfl rfl)
theorem dX4_firstFailing_2 : decode cX4_firstFailing 2 = .ok (.iload_n 1, 1) := dko_27 (dk_t 2 2 [27, 42, 180, 0, 33, 162, 0, 19, 42, 27] dwX4_firstFailing_0 rfl rfl)
theorem dX4_firstFailing_3 : decode cX4_firstFailing 3 = .ok (.aload_n 0, 1) := dko_42 (dk_t 3 3 [42, 180, 0, 33, 162, 0, 19, 42, 27] dwX4_firstFailing_0 rfl rfl)
theorem dX4_firstFailing_4 : decode cX4_firstFailing 4 = .ok (.getfield 33, 3) := dko_180 (dk_t 4 4 [180, 0, 33, 162, 0, 19, 42, 27] dwX4_firstFailing_0 rfl rfl)
theorem dX4_firstFailing_7 : decode cX4_firstFailing 7 = .ok (.if_icmp .ge 19, 3) := dko_162 (dk_t 7 7 [162, 0, 19, 42, 27] dwX4_firstFailing_0 rfl rfl)
theorem dX4_firstFailing_10 : decode cX4_firstFailing 10 = .ok (.aload_n 0, 1) := dko_42 (dk_t 10 10 [42, 27] dwX4_firstFailing_0 rfl rfl)
theorem dX4_firstFailing_11 : decode cX4_firstFailing 11 = .ok (.iload_n 1, 1) := dko_27 (dk_t 11 11 [27] dwX4_firstFailing_0 rfl rfl)
theorem dwX4_firstFailing_12 : dkW cX4_firstFailing 12 [182, 0, 50, 153, 0, 5, 27, 172, 132, 1, 1, 167, 255, 235] = true := by decide +kernel
theorem dX4_firstFailing_12 : decode cX4_firstFailing 12 = .ok (.invokevirtual 50, 3) := dko_182 dwX4_firstFailing_12
theorem dX4_firstFailing_15 : decode cX4_firstFailing 15 = .ok (.ifCond .eq 5, 3) := dko_153 (dk_t 3 15 [153, 0, 5, 27, 172, 132, 1, 1, 167, 255, 235] dwX4_firstFailing_12 rfl rfl)
theorem dX4_firstFailing_18 : decode cX4_firstFailing 18 = .ok (.iload_n 1, 1) := dko_27 (dk_t 6 18 [27, 172, 132, 1, 1, 167, 255, 235] dwX4_firstFailing_12 rfl rfl)
theorem dX4_firstFailing_19 : decode cX4_firstFailing 19 = .ok (.ireturn, 1) := dko_172 (dk_t 7 19 [172, 132, 1, 1, 167, 255, 235] dwX4_firstFailing_12 rfl rfl)
theorem dX4_firstFailing_20 : decode cX4_firstFailing 20 = .ok (.iinc 1 1, 3) := dko_132 (dk_t 8 20 [132, 1, 1, 167, 255, 235] dwX4_firstFailing_12 rfl rfl)
theorem dX4_firstFailing_23 : decode cX4_firstFailing 23 = .ok (.goto (-21), 3) := dko_167 (dk_t 11 23 [167, 255, 235] dwX4_firstFailing_12 rfl rfl)
theorem dwX4_firstFailing_26 : dkW cX4_firstFailing 26 [2, 172] = true := by decide +kernel
theorem dX4_firstFailing_26 : decode cX4_firstFailing 26 = .ok (.iconst (-1), 1) := dko_2 dwX4_firstFailing_26
theorem dX4_firstFailing_27 : decode cX4_firstFailing 27 = .ok (.ireturn, 1) := dko_172 (dk_t 1 27 [172] dwX4_firstFailing_26 rfl rfl)
theorem dwX4_failing_0 : dkW cX4_failing 0 [3, 60, 3, 61, 28, 42, 180, 0, 33, 162, 0, 20, 42, 28] = true := by decide +kernel
theorem dX4_failing_0 : decode cX4_failing 0 = .ok (.iconst 0, 1) := dko_3 dwX4_failing_0
theorem dX4_failing_1 : decode cX4_failing 1 = .ok (.istore_n 1, 1) := dko_60 (dk_t 1 1 [60, 3, 61, 28, 42, 180, 0, 33, 162, 0, 20, 42, 28] dwX4_failing_0 rfl rfl)
theorem dX4_failing_2 : decode cX4_failing 2 = .ok (.iconst 0, 1) := dko_3 (dk_t 2 2 [3, 61, 28, 42, 180, 0, 33, 162, 0, 20, 42, 28] dwX4_failing_0 rfl rfl)
theorem dX4_failing_3 : decode cX4_failing 3 = .ok (.istore_n 2, 1) := dko_61 (dk_t 3 3 [61, 28, 42, 180, 0, 33, 162, 0, 20, 42, 28] dwX4_failing_0 rfl rfl)
theorem dX4_failing_4 : decode cX4_failing 4 = .ok (.iload_n 2, 1) := dko_28 (dk_t 4 4 [28, 42, 180, 0, 33, 162, 0, 20, 42, 28] dwX4_failing_0 rfl rfl)
theorem dX4_failing_5 : decode cX4_failing 5 = .ok (.aload_n 0, 1) := dko_42 (dk_t 5 5 [42, 180, 0, 33, 162, 0, 20, 42, 28] dwX4_failing_0 rfl rfl)
theorem dX4_failing_6 : decode cX4_failing 6 = .ok (.getfield 33, 3) := dko_180 (dk_t 6 6 [180, 0, 33, 162, 0, 20, 42, 28] dwX4_failing_0 rfl rfl)
theorem dX4_failing_9 : decode cX4_failing 9 = .ok (.if_icmp .ge 20, 3) := dko_162 (dk_t 9 9 [162, 0, 20, 42, 28] dwX4_failing_0 rfl rfl)
theorem dX4_failing_12 : decode cX4_failing 12 = .ok (.aload_n 0, 1) := dko_42 (dk_t 12 12 [42, 28] dwX4_failing_0 rfl rfl)
theorem dX4_failing_13 : decode cX4_failing 13 = .ok (.iload_n 2, 1) := dko_28 (dk_t 13 13 [28] dwX4_failing_0 rfl rfl)
theorem dwX4_failing_14 : dkW cX4_failing 14 [182, 0, 50, 153, 0, 6, 132, 1, 1, 132, 2, 1] = true := by decide +kernel
theorem dX4_failing_14 : decode cX4_failing 14 = .ok (.invokevirtual 50, 3) := dko_182 dwX4_failing_14
theorem dX4_failing_17 : decode cX4_failing 17 = .ok (.ifCond .eq 6, 3) := dko_153 (dk_t 3 17 [153, 0, 6, 132, 1, 1, 132, 2, 1] dwX4_failing_14 rfl rfl)
theorem dX4_failing_20 : decode cX4_failing 20 = .ok (.iinc 1 1, 3) := dko_132 (dk_t 6 20 [132, 1, 1, 132, 2, 1] dwX4_failing_14 rfl rfl)
theorem dX4_failing_23 : decode cX4_failing 23 = .ok (.iinc 2 1, 3) := dko_132 (dk_t 9 23 [132, 2, 1] dwX4_failing_14 rfl rfl)
theorem dwX4_failing_26 : dkW cX4_failing 26 [167, 255, 234, 27, 172] = true := by decide +kernel
theorem dX4_failing_26 : decode cX4_failing 26 = .ok (.goto (-22), 3) := dko_167 dwX4_failing_26
theorem dX4_failing_29 : decode cX4_failing 29 = .ok (.iload_n 1, 1) := dko_27 (dk_t 3 29 [27, 172] dwX4_failing_26 rfl rfl)
theorem dX4_failing_30 : decode cX4_failing 30 = .ok (.ireturn, 1) := dko_172 (dk_t 4 30 [172] dwX4_failing_26 rfl rfl)
theorem dwX4_ofRule_0 : dkW cX4_ofRule 0 [3, 61, 3, 62, 29, 42, 180, 0, 33, 162, 0, 21, 42, 29] = true := by decide +kernel
theorem dX4_ofRule_0 : decode cX4_ofRule 0 = .ok (.iconst 0, 1) := dko_3 dwX4_ofRule_0
theorem dX4_ofRule_1 : decode cX4_ofRule 1 = .ok (.istore_n 2, 1) := dko_61 (dk_t 1 1 [61, 3, 62, 29, 42, 180, 0, 33, 162, 0, 21, 42, 29] dwX4_ofRule_0 rfl rfl)
theorem dX4_ofRule_2 : decode cX4_ofRule 2 = .ok (.iconst 0, 1) := dko_3 (dk_t 2 2 [3, 62, 29, 42, 180, 0, 33, 162, 0, 21, 42, 29] dwX4_ofRule_0 rfl rfl)
theorem dX4_ofRule_3 : decode cX4_ofRule 3 = .ok (.istore_n 3, 1) := dko_62 (dk_t 3 3 [62, 29, 42, 180, 0, 33, 162, 0, 21, 42, 29] dwX4_ofRule_0 rfl rfl)
theorem dX4_ofRule_4 : decode cX4_ofRule 4 = .ok (.iload_n 3, 1) := dko_29 (dk_t 4 4 [29, 42, 180, 0, 33, 162, 0, 21, 42, 29] dwX4_ofRule_0 rfl rfl)
theorem dX4_ofRule_5 : decode cX4_ofRule 5 = .ok (.aload_n 0, 1) := dko_42 (dk_t 5 5 [42, 180, 0, 33, 162, 0, 21, 42, 29] dwX4_ofRule_0 rfl rfl)
theorem dX4_ofRule_6 : decode cX4_ofRule 6 = .ok (.getfield 33, 3) := dko_180 (dk_t 6 6 [180, 0, 33, 162, 0, 21, 42, 29] dwX4_ofRule_0 rfl rfl)
theorem dX4_ofRule_9 : decode cX4_ofRule 9 = .ok (.if_icmp .ge 21, 3) := dko_162 (dk_t 9 9 [162, 0, 21, 42, 29] dwX4_ofRule_0 rfl rfl)
theorem dX4_ofRule_12 : decode cX4_ofRule 12 = .ok (.aload_n 0, 1) := dko_42 (dk_t 12 12 [42, 29] dwX4_ofRule_0 rfl rfl)
theorem dX4_ofRule_13 : decode cX4_ofRule 13 = .ok (.iload_n 3, 1) := dko_29 (dk_t 13 13 [29] dwX4_ofRule_0 rfl rfl)
theorem dwX4_ofRule_14 : dkW cX4_ofRule 14 [182, 0, 53, 27, 160, 0, 6, 132, 2, 1, 132, 3, 1] = true := by decide +kernel
theorem dX4_ofRule_14 : decode cX4_ofRule 14 = .ok (.invokevirtual 53, 3) := dko_182 dwX4_ofRule_14
theorem dX4_ofRule_17 : decode cX4_ofRule 17 = .ok (.iload_n 1, 1) := dko_27 (dk_t 3 17 [27, 160, 0, 6, 132, 2, 1, 132, 3, 1] dwX4_ofRule_14 rfl rfl)
theorem dX4_ofRule_18 : decode cX4_ofRule 18 = .ok (.if_icmp .ne 6, 3) := dko_160 (dk_t 4 18 [160, 0, 6, 132, 2, 1, 132, 3, 1] dwX4_ofRule_14 rfl rfl)
theorem dX4_ofRule_21 : decode cX4_ofRule 21 = .ok (.iinc 2 1, 3) := dko_132 (dk_t 7 21 [132, 2, 1, 132, 3, 1] dwX4_ofRule_14 rfl rfl)
theorem dX4_ofRule_24 : decode cX4_ofRule 24 = .ok (.iinc 3 1, 3) := dko_132 (dk_t 10 24 [132, 3, 1] dwX4_ofRule_14 rfl rfl)
theorem dwX4_ofRule_27 : dkW cX4_ofRule 27 [167, 255, 233, 28, 172] = true := by decide +kernel
theorem dX4_ofRule_27 : decode cX4_ofRule 27 = .ok (.goto (-23), 3) := dko_167 dwX4_ofRule_27
theorem dX4_ofRule_30 : decode cX4_ofRule 30 = .ok (.iload_n 2, 1) := dko_28 (dk_t 3 30 [28, 172] dwX4_ofRule_27 rfl rfl)
theorem dX4_ofRule_31 : decode cX4_ofRule 31 = .ok (.ireturn, 1) := dko_172 (dk_t 4 31 [172] dwX4_ofRule_27 rfl rfl)
theorem dwX4_groups_0 : dkW cX4_groups 0 [3, 60, 3, 61, 28, 42, 180, 0, 33, 162, 0, 20, 42, 28] = true := by decide +kernel
theorem dX4_groups_0 : decode cX4_groups 0 = .ok (.iconst 0, 1) := dko_3 dwX4_groups_0
theorem dX4_groups_1 : decode cX4_groups 1 = .ok (.istore_n 1, 1) := dko_60 (dk_t 1 1 [60, 3, 61, 28, 42, 180, 0, 33, 162, 0, 20, 42, 28] dwX4_groups_0 rfl rfl)
theorem dX4_groups_2 : decode cX4_groups 2 = .ok (.iconst 0, 1) := dko_3 (dk_t 2 2 [3, 61, 28, 42, 180, 0, 33, 162, 0, 20, 42, 28] dwX4_groups_0 rfl rfl)
theorem dX4_groups_3 : decode cX4_groups 3 = .ok (.istore_n 2, 1) := dko_61 (dk_t 3 3 [61, 28, 42, 180, 0, 33, 162, 0, 20, 42, 28] dwX4_groups_0 rfl rfl)
theorem dX4_groups_4 : decode cX4_groups 4 = .ok (.iload_n 2, 1) := dko_28 (dk_t 4 4 [28, 42, 180, 0, 33, 162, 0, 20, 42, 28] dwX4_groups_0 rfl rfl)
theorem dX4_groups_5 : decode cX4_groups 5 = .ok (.aload_n 0, 1) := dko_42 (dk_t 5 5 [42, 180, 0, 33, 162, 0, 20, 42, 28] dwX4_groups_0 rfl rfl)
theorem dX4_groups_6 : decode cX4_groups 6 = .ok (.getfield 33, 3) := dko_180 (dk_t 6 6 [180, 0, 33, 162, 0, 20, 42, 28] dwX4_groups_0 rfl rfl)
theorem dX4_groups_9 : decode cX4_groups 9 = .ok (.if_icmp .ge 20, 3) := dko_162 (dk_t 9 9 [162, 0, 20, 42, 28] dwX4_groups_0 rfl rfl)
theorem dX4_groups_12 : decode cX4_groups 12 = .ok (.aload_n 0, 1) := dko_42 (dk_t 12 12 [42, 28] dwX4_groups_0 rfl rfl)
theorem dX4_groups_13 : decode cX4_groups 13 = .ok (.iload_n 2, 1) := dko_28 (dk_t 13 13 [28] dwX4_groups_0 rfl rfl)
theorem dwX4_groups_14 : dkW cX4_groups 14 [182, 0, 56, 153, 0, 6, 132, 1, 1, 132, 2, 1] = true := by decide +kernel
theorem dX4_groups_14 : decode cX4_groups 14 = .ok (.invokevirtual 56, 3) := dko_182 dwX4_groups_14
theorem dX4_groups_17 : decode cX4_groups 17 = .ok (.ifCond .eq 6, 3) := dko_153 (dk_t 3 17 [153, 0, 6, 132, 1, 1, 132, 2, 1] dwX4_groups_14 rfl rfl)
theorem dX4_groups_20 : decode cX4_groups 20 = .ok (.iinc 1 1, 3) := dko_132 (dk_t 6 20 [132, 1, 1, 132, 2, 1] dwX4_groups_14 rfl rfl)
theorem dX4_groups_23 : decode cX4_groups 23 = .ok (.iinc 2 1, 3) := dko_132 (dk_t 9 23 [132, 2, 1] dwX4_groups_14 rfl rfl)
theorem dwX4_groups_26 : dkW cX4_groups 26 [167, 255, 234, 27, 172] = true := by decide +kernel
theorem dX4_groups_26 : decode cX4_groups 26 = .ok (.goto (-22), 3) := dko_167 dwX4_groups_26
theorem dX4_groups_29 : decode cX4_groups 29 = .ok (.iload_n 1, 1) := dko_27 (dk_t 3 29 [27, 172] dwX4_groups_26 rfl rfl)
theorem dX4_groups_30 : decode cX4_groups 30 = .ok (.ireturn, 1) := dko_172 (dk_t 4 30 [172] dwX4_groups_26 rfl rfl)
theorem dwX4_groupStart_0 : dkW cX4_groupStart 0 [3, 61, 3, 62, 29, 42, 180, 0, 33, 162, 0, 27, 42, 29] = true := by decide +kernel
theorem dX4_groupStart_0 : decode cX4_groupStart 0 = .ok (.iconst 0, 1) := dko_3 dwX4_groupStart_0
theorem dX4_groupStart_1 : decode cX4_groupStart 1 = .ok (.istore_n 2, 1) := dko_61 (dk_t 1 1 [61, 3, 62, 29, 42, 180, 0, 33, 162, 0, 27, 42, 29] dwX4_groupStart_0 rfl rfl)
theorem dX4_groupStart_2 : decode cX4_groupStart 2 = .ok (.iconst 0, 1) := dko_3 (dk_t 2 2 [3, 62, 29, 42, 180, 0, 33, 162, 0, 27, 42, 29] dwX4_groupStart_0 rfl rfl)
theorem dX4_groupStart_3 : decode cX4_groupStart 3 = .ok (.istore_n 3, 1) := dko_62 (dk_t 3 3 [62, 29, 42, 180, 0, 33, 162, 0, 27, 42, 29] dwX4_groupStart_0 rfl rfl)
theorem dX4_groupStart_4 : decode cX4_groupStart 4 = .ok (.iload_n 3, 1) := dko_29 (dk_t 4 4 [29, 42, 180, 0, 33, 162, 0, 27, 42, 29] dwX4_groupStart_0 rfl rfl)
theorem dX4_groupStart_5 : decode cX4_groupStart 5 = .ok (.aload_n 0, 1) := dko_42 (dk_t 5 5 [42, 180, 0, 33, 162, 0, 27, 42, 29] dwX4_groupStart_0 rfl rfl)
theorem dX4_groupStart_6 : decode cX4_groupStart 6 = .ok (.getfield 33, 3) := dko_180 (dk_t 6 6 [180, 0, 33, 162, 0, 27, 42, 29] dwX4_groupStart_0 rfl rfl)
theorem dX4_groupStart_9 : decode cX4_groupStart 9 = .ok (.if_icmp .ge 27, 3) := dko_162 (dk_t 9 9 [162, 0, 27, 42, 29] dwX4_groupStart_0 rfl rfl)
theorem dX4_groupStart_12 : decode cX4_groupStart 12 = .ok (.aload_n 0, 1) := dko_42 (dk_t 12 12 [42, 29] dwX4_groupStart_0 rfl rfl)
theorem dX4_groupStart_13 : decode cX4_groupStart 13 = .ok (.iload_n 3, 1) := dko_29 (dk_t 13 13 [29] dwX4_groupStart_0 rfl rfl)
theorem dwX4_groupStart_14 : dkW cX4_groupStart 14 [182, 0, 56, 153, 0, 13, 28, 27, 160, 0, 5, 29, 172] = true := by decide +kernel
theorem dX4_groupStart_14 : decode cX4_groupStart 14 = .ok (.invokevirtual 56, 3) := dko_182 dwX4_groupStart_14
theorem dX4_groupStart_17 : decode cX4_groupStart 17 = .ok (.ifCond .eq 13, 3) := dko_153 (dk_t 3 17 [153, 0, 13, 28, 27, 160, 0, 5, 29, 172] dwX4_groupStart_14 rfl rfl)
theorem dX4_groupStart_20 : decode cX4_groupStart 20 = .ok (.iload_n 2, 1) := dko_28 (dk_t 6 20 [28, 27, 160, 0, 5, 29, 172] dwX4_groupStart_14 rfl rfl)
theorem dX4_groupStart_21 : decode cX4_groupStart 21 = .ok (.iload_n 1, 1) := dko_27 (dk_t 7 21 [27, 160, 0, 5, 29, 172] dwX4_groupStart_14 rfl rfl)
theorem dX4_groupStart_22 : decode cX4_groupStart 22 = .ok (.if_icmp .ne 5, 3) := dko_160 (dk_t 8 22 [160, 0, 5, 29, 172] dwX4_groupStart_14 rfl rfl)
theorem dX4_groupStart_25 : decode cX4_groupStart 25 = .ok (.iload_n 3, 1) := dko_29 (dk_t 11 25 [29, 172] dwX4_groupStart_14 rfl rfl)
theorem dX4_groupStart_26 : decode cX4_groupStart 26 = .ok (.ireturn, 1) := dko_172 (dk_t 12 26 [172] dwX4_groupStart_14 rfl rfl)
theorem dwX4_groupStart_27 : dkW cX4_groupStart 27 [132, 2, 1, 132, 3, 1, 167, 255, 227, 2, 172] = true := by decide +kernel
theorem dX4_groupStart_27 : decode cX4_groupStart 27 = .ok (.iinc 2 1, 3) := dko_132 dwX4_groupStart_27
theorem dX4_groupStart_30 : decode cX4_groupStart 30 = .ok (.iinc 3 1, 3) := dko_132 (dk_t 3 30 [132, 3, 1, 167, 255, 227, 2, 172] dwX4_groupStart_27 rfl rfl)
theorem dX4_groupStart_33 : decode cX4_groupStart 33 = .ok (.goto (-29), 3) := dko_167 (dk_t 6 33 [167, 255, 227, 2, 172] dwX4_groupStart_27 rfl rfl)
theorem dX4_groupStart_36 : decode cX4_groupStart 36 = .ok (.iconst (-1), 1) := dko_2 (dk_t 9 36 [2, 172] dwX4_groupStart_27 rfl rfl)
theorem dX4_groupStart_37 : decode cX4_groupStart 37 = .ok (.ireturn, 1) := dko_172 (dk_t 10 37 [172] dwX4_groupStart_27 rfl rfl)
theorem dwX4_startsGroup_0 : dkW cX4_startsGroup 0 [27, 153, 0, 18, 42, 27, 182, 0, 53, 42, 27, 4, 100] = true := by decide +kernel
theorem dX4_startsGroup_0 : decode cX4_startsGroup 0 = .ok (.iload_n 1, 1) := dko_27 dwX4_startsGroup_0
theorem dX4_startsGroup_1 : decode cX4_startsGroup 1 = .ok (.ifCond .eq 18, 3) := dko_153 (dk_t 1 1 [153, 0, 18, 42, 27, 182, 0, 53, 42, 27, 4, 100] dwX4_startsGroup_0 rfl rfl)
theorem dX4_startsGroup_4 : decode cX4_startsGroup 4 = .ok (.aload_n 0, 1) := dko_42 (dk_t 4 4 [42, 27, 182, 0, 53, 42, 27, 4, 100] dwX4_startsGroup_0 rfl rfl)
theorem dX4_startsGroup_5 : decode cX4_startsGroup 5 = .ok (.iload_n 1, 1) := dko_27 (dk_t 5 5 [27, 182, 0, 53, 42, 27, 4, 100] dwX4_startsGroup_0 rfl rfl)
theorem dX4_startsGroup_6 : decode cX4_startsGroup 6 = .ok (.invokevirtual 53, 3) := dko_182 (dk_t 6 6 [182, 0, 53, 42, 27, 4, 100] dwX4_startsGroup_0 rfl rfl)
theorem dX4_startsGroup_9 : decode cX4_startsGroup 9 = .ok (.aload_n 0, 1) := dko_42 (dk_t 9 9 [42, 27, 4, 100] dwX4_startsGroup_0 rfl rfl)
theorem dX4_startsGroup_10 : decode cX4_startsGroup 10 = .ok (.iload_n 1, 1) := dko_27 (dk_t 10 10 [27, 4, 100] dwX4_startsGroup_0 rfl rfl)
theorem dX4_startsGroup_11 : decode cX4_startsGroup 11 = .ok (.iconst 1, 1) := dko_4 (dk_t 11 11 [4, 100] dwX4_startsGroup_0 rfl rfl)
theorem dX4_startsGroup_12 : decode cX4_startsGroup 12 = .ok (.isub, 1) := dko_100 (dk_t 12 12 [100] dwX4_startsGroup_0 rfl rfl)
theorem dwX4_startsGroup_13 : dkW cX4_startsGroup 13 [182, 0, 53, 159, 0, 7, 4, 167, 0, 4, 3, 172] = true := by decide +kernel
theorem dX4_startsGroup_13 : decode cX4_startsGroup 13 = .ok (.invokevirtual 53, 3) := dko_182 dwX4_startsGroup_13
theorem dX4_startsGroup_16 : decode cX4_startsGroup 16 = .ok (.if_icmp .eq 7, 3) := dko_159 (dk_t 3 16 [159, 0, 7, 4, 167, 0, 4, 3, 172] dwX4_startsGroup_13 rfl rfl)
theorem dX4_startsGroup_19 : decode cX4_startsGroup 19 = .ok (.iconst 1, 1) := dko_4 (dk_t 6 19 [4, 167, 0, 4, 3, 172] dwX4_startsGroup_13 rfl rfl)
theorem dX4_startsGroup_20 : decode cX4_startsGroup 20 = .ok (.goto 4, 3) := dko_167 (dk_t 7 20 [167, 0, 4, 3, 172] dwX4_startsGroup_13 rfl rfl)
theorem dX4_startsGroup_23 : decode cX4_startsGroup 23 = .ok (.iconst 0, 1) := dko_3 (dk_t 10 23 [3, 172] dwX4_startsGroup_13 rfl rfl)
theorem dX4_startsGroup_24 : decode cX4_startsGroup 24 = .ok (.ireturn, 1) := dko_172 (dk_t 11 24 [172] dwX4_startsGroup_13 rfl rfl)
theorem dwX4_isInside_0 : dkW cX4_isInside 0 [27, 155, 0, 22, 27, 42, 180, 0, 33, 162, 0, 14, 27] = true := by decide +kernel
theorem dX4_isInside_0 : decode cX4_isInside 0 = .ok (.iload_n 1, 1) := dko_27 dwX4_isInside_0
theorem dX4_isInside_1 : decode cX4_isInside 1 = .ok (.ifCond .lt 22, 3) := dko_155 (dk_t 1 1 [155, 0, 22, 27, 42, 180, 0, 33, 162, 0, 14, 27] dwX4_isInside_0 rfl rfl)
theorem dX4_isInside_4 : decode cX4_isInside 4 = .ok (.iload_n 1, 1) := dko_27 (dk_t 4 4 [27, 42, 180, 0, 33, 162, 0, 14, 27] dwX4_isInside_0 rfl rfl)
theorem dX4_isInside_5 : decode cX4_isInside 5 = .ok (.aload_n 0, 1) := dko_42 (dk_t 5 5 [42, 180, 0, 33, 162, 0, 14, 27] dwX4_isInside_0 rfl rfl)
theorem dX4_isInside_6 : decode cX4_isInside 6 = .ok (.getfield 33, 3) := dko_180 (dk_t 6 6 [180, 0, 33, 162, 0, 14, 27] dwX4_isInside_0 rfl rfl)
theorem dX4_isInside_9 : decode cX4_isInside 9 = .ok (.if_icmp .ge 14, 3) := dko_162 (dk_t 9 9 [162, 0, 14, 27] dwX4_isInside_0 rfl rfl)
theorem dX4_isInside_12 : decode cX4_isInside 12 = .ok (.iload_n 1, 1) := dko_27 (dk_t 12 12 [27] dwX4_isInside_0 rfl rfl)
theorem dwX4_isInside_13 : dkW cX4_isInside 13 [17, 4, 56, 162, 0, 7, 4, 167, 0, 4, 3, 172] = true := by decide +kernel
theorem dX4_isInside_13 : decode cX4_isInside 13 = .ok (.sipush 1080, 3) := dko_17 dwX4_isInside_13
theorem dX4_isInside_16 : decode cX4_isInside 16 = .ok (.if_icmp .ge 7, 3) := dko_162 (dk_t 3 16 [162, 0, 7, 4, 167, 0, 4, 3, 172] dwX4_isInside_13 rfl rfl)
theorem dX4_isInside_19 : decode cX4_isInside 19 = .ok (.iconst 1, 1) := dko_4 (dk_t 6 19 [4, 167, 0, 4, 3, 172] dwX4_isInside_13 rfl rfl)
theorem dX4_isInside_20 : decode cX4_isInside 20 = .ok (.goto 4, 3) := dko_167 (dk_t 7 20 [167, 0, 4, 3, 172] dwX4_isInside_13 rfl rfl)
theorem dX4_isInside_23 : decode cX4_isInside 23 = .ok (.iconst 0, 1) := dko_3 (dk_t 10 23 [3, 172] dwX4_isInside_13 rfl rfl)
theorem dX4_isInside_24 : decode cX4_isInside 24 = .ok (.ireturn, 1) := dko_172 (dk_t 11 24 [172] dwX4_isInside_13 rfl rfl)
theorem dwX5_init_0 : dkW cX5_init 0 [42, 183, 0, 3, 42, 43, 181, 0, 9, 177] = true := by decide +kernel
theorem dX5_init_0 : decode cX5_init 0 = .ok (.aload_n 0, 1) := dko_42 dwX5_init_0
theorem dX5_init_1 : decode cX5_init 1 = .ok (.invokespecial 3, 3) := dko_183 (dk_t 1 1 [183, 0, 3, 42, 43, 181, 0, 9, 177] dwX5_init_0 rfl rfl)
theorem dX5_init_4 : decode cX5_init 4 = .ok (.aload_n 0, 1) := dko_42 (dk_t 4 4 [42, 43, 181, 0, 9, 177] dwX5_init_0 rfl rfl)
theorem dX5_init_5 : decode cX5_init 5 = .ok (.aload_n 1, 1) := dko_43 (dk_t 5 5 [43, 181, 0, 9, 177] dwX5_init_0 rfl rfl)
theorem dX5_init_6 : decode cX5_init 6 = .ok (.putfield 9, 3) := dko_181 (dk_t 6 6 [181, 0, 9, 177] dwX5_init_0 rfl rfl)
theorem dX5_init_9 : decode cX5_init 9 = .ok (.return_, 1) := dko_177 (dk_t 9 9 [177] dwX5_init_0 rfl rfl)
theorem dwX5_read_0 : dkW cX5_read 0 [42, 3, 181, 0, 15, 42, 3, 181, 0, 19, 42, 182, 0, 23] = true := by decide +kernel
theorem dX5_read_0 : decode cX5_read 0 = .ok (.aload_n 0, 1) := dko_42 dwX5_read_0
theorem dX5_read_1 : decode cX5_read 1 = .ok (.iconst 0, 1) := dko_3 (dk_t 1 1 [3, 181, 0, 15, 42, 3, 181, 0, 19, 42, 182, 0, 23] dwX5_read_0 rfl rfl)
theorem dX5_read_2 : decode cX5_read 2 = .ok (.putfield 15, 3) := dko_181 (dk_t 2 2 [181, 0, 15, 42, 3, 181, 0, 19, 42, 182, 0, 23] dwX5_read_0 rfl rfl)
theorem dX5_read_5 : decode cX5_read 5 = .ok (.aload_n 0, 1) := dko_42 (dk_t 5 5 [42, 3, 181, 0, 19, 42, 182, 0, 23] dwX5_read_0 rfl rfl)
theorem dX5_read_6 : decode cX5_read 6 = .ok (.iconst 0, 1) := dko_3 (dk_t 6 6 [3, 181, 0, 19, 42, 182, 0, 23] dwX5_read_0 rfl rfl)
theorem dX5_read_7 : decode cX5_read 7 = .ok (.putfield 19, 3) := dko_181 (dk_t 7 7 [181, 0, 19, 42, 182, 0, 23] dwX5_read_0 rfl rfl)
theorem dX5_read_10 : decode cX5_read 10 = .ok (.aload_n 0, 1) := dko_42 (dk_t 10 10 [42, 182, 0, 23] dwX5_read_0 rfl rfl)
theorem dX5_read_11 : decode cX5_read 11 = .ok (.invokevirtual 23, 3) := dko_182 (dk_t 11 11 [182, 0, 23] dwX5_read_0 rfl rfl)
theorem dwX5_read_14 : dkW cX5_read 14 [187, 0, 26, 89, 42, 182, 0, 28, 183, 0, 32, 76, 43, 42] = true := by decide +kernel
theorem dX5_read_14 : decode cX5_read 14 = .ok (.new 26, 3) := dko_187 dwX5_read_14
theorem dX5_read_17 : decode cX5_read 17 = .ok (.dup, 1) := dko_89 (dk_t 3 17 [89, 42, 182, 0, 28, 183, 0, 32, 76, 43, 42] dwX5_read_14 rfl rfl)
theorem dX5_read_18 : decode cX5_read 18 = .ok (.aload_n 0, 1) := dko_42 (dk_t 4 18 [42, 182, 0, 28, 183, 0, 32, 76, 43, 42] dwX5_read_14 rfl rfl)
theorem dX5_read_19 : decode cX5_read 19 = .ok (.invokevirtual 28, 3) := dko_182 (dk_t 5 19 [182, 0, 28, 183, 0, 32, 76, 43, 42] dwX5_read_14 rfl rfl)
theorem dX5_read_22 : decode cX5_read 22 = .ok (.invokespecial 32, 3) := dko_183 (dk_t 8 22 [183, 0, 32, 76, 43, 42] dwX5_read_14 rfl rfl)
theorem dX5_read_25 : decode cX5_read 25 = .ok (.astore_n 1, 1) := dko_76 (dk_t 11 25 [76, 43, 42] dwX5_read_14 rfl rfl)
theorem dX5_read_26 : decode cX5_read 26 = .ok (.aload_n 1, 1) := dko_43 (dk_t 12 26 [43, 42] dwX5_read_14 rfl rfl)
theorem dX5_read_27 : decode cX5_read 27 = .ok (.aload_n 0, 1) := dko_42 (dk_t 13 27 [42] dwX5_read_14 rfl rfl)
theorem dwX5_read_28 : dkW cX5_read 28 [3, 5, 182, 0, 35, 181, 0, 39, 43, 42, 3, 5] = true := by decide +kernel
theorem dX5_read_28 : decode cX5_read 28 = .ok (.iconst 0, 1) := dko_3 dwX5_read_28
theorem dX5_read_29 : decode cX5_read 29 = .ok (.iconst 2, 1) := dko_5 (dk_t 1 29 [5, 182, 0, 35, 181, 0, 39, 43, 42, 3, 5] dwX5_read_28 rfl rfl)
theorem dX5_read_30 : decode cX5_read 30 = .ok (.invokevirtual 35, 3) := dko_182 (dk_t 2 30 [182, 0, 35, 181, 0, 39, 43, 42, 3, 5] dwX5_read_28 rfl rfl)
theorem dX5_read_33 : decode cX5_read 33 = .ok (.putfield 39, 3) := dko_181 (dk_t 5 33 [181, 0, 39, 43, 42, 3, 5] dwX5_read_28 rfl rfl)
theorem dX5_read_36 : decode cX5_read 36 = .ok (.aload_n 1, 1) := dko_43 (dk_t 8 36 [43, 42, 3, 5] dwX5_read_28 rfl rfl)
theorem dX5_read_37 : decode cX5_read 37 = .ok (.aload_n 0, 1) := dko_42 (dk_t 9 37 [42, 3, 5] dwX5_read_28 rfl rfl)
theorem dX5_read_38 : decode cX5_read 38 = .ok (.iconst 0, 1) := dko_3 (dk_t 10 38 [3, 5] dwX5_read_28 rfl rfl)
theorem dX5_read_39 : decode cX5_read 39 = .ok (.iconst 2, 1) := dko_5 (dk_t 11 39 [5] dwX5_read_28 rfl rfl)
theorem dwX5_read_40 : dkW cX5_read 40 [182, 0, 35, 181, 0, 42, 43, 180, 0, 45, 4, 159, 0, 19] = true := by decide +kernel
theorem dX5_read_40 : decode cX5_read 40 = .ok (.invokevirtual 35, 3) := dko_182 dwX5_read_40
theorem dX5_read_43 : decode cX5_read 43 = .ok (.putfield 42, 3) := dko_181 (dk_t 3 43 [181, 0, 42, 43, 180, 0, 45, 4, 159, 0, 19] dwX5_read_40 rfl rfl)
theorem dX5_read_46 : decode cX5_read 46 = .ok (.aload_n 1, 1) := dko_43 (dk_t 6 46 [43, 180, 0, 45, 4, 159, 0, 19] dwX5_read_40 rfl rfl)
theorem dX5_read_47 : decode cX5_read 47 = .ok (.getfield 45, 3) := dko_180 (dk_t 7 47 [180, 0, 45, 4, 159, 0, 19] dwX5_read_40 rfl rfl)
theorem dX5_read_50 : decode cX5_read 50 = .ok (.iconst 1, 1) := dko_4 (dk_t 10 50 [4, 159, 0, 19] dwX5_read_40 rfl rfl)
theorem dX5_read_51 : decode cX5_read 51 = .ok (.if_icmp .eq 19, 3) := dko_159 (dk_t 11 51 [159, 0, 19] dwX5_read_40 rfl rfl)
theorem dwX5_read_54 : dkW cX5_read 54 [43, 180, 0, 45, 6, 159, 0, 11, 43, 180, 0, 45, 7] = true := by decide +kernel
theorem dX5_read_54 : decode cX5_read 54 = .ok (.aload_n 1, 1) := dko_43 dwX5_read_54
theorem dX5_read_55 : decode cX5_read 55 = .ok (.getfield 45, 3) := dko_180 (dk_t 1 55 [180, 0, 45, 6, 159, 0, 11, 43, 180, 0, 45, 7] dwX5_read_54 rfl rfl)
theorem dX5_read_58 : decode cX5_read 58 = .ok (.iconst 3, 1) := dko_6 (dk_t 4 58 [6, 159, 0, 11, 43, 180, 0, 45, 7] dwX5_read_54 rfl rfl)
theorem dX5_read_59 : decode cX5_read 59 = .ok (.if_icmp .eq 11, 3) := dko_159 (dk_t 5 59 [159, 0, 11, 43, 180, 0, 45, 7] dwX5_read_54 rfl rfl)
theorem dX5_read_62 : decode cX5_read 62 = .ok (.aload_n 1, 1) := dko_43 (dk_t 8 62 [43, 180, 0, 45, 7] dwX5_read_54 rfl rfl)
theorem dX5_read_63 : decode cX5_read 63 = .ok (.getfield 45, 3) := dko_180 (dk_t 9 63 [180, 0, 45, 7] dwX5_read_54 rfl rfl)
theorem dX5_read_66 : decode cX5_read 66 = .ok (.iconst 4, 1) := dko_7 (dk_t 12 66 [7] dwX5_read_54 rfl rfl)
theorem dwX5_read_67 : dkW cX5_read 67 [160, 0, 13, 43, 42, 3, 5, 182, 0, 35, 181, 0, 48, 43] = true := by decide +kernel
theorem dX5_read_67 : decode cX5_read 67 = .ok (.if_icmp .ne 13, 3) := dko_160 dwX5_read_67
theorem dX5_read_70 : decode cX5_read 70 = .ok (.aload_n 1, 1) := dko_43 (dk_t 3 70 [43, 42, 3, 5, 182, 0, 35, 181, 0, 48, 43] dwX5_read_67 rfl rfl)
theorem dX5_read_71 : decode cX5_read 71 = .ok (.aload_n 0, 1) := dko_42 (dk_t 4 71 [42, 3, 5, 182, 0, 35, 181, 0, 48, 43] dwX5_read_67 rfl rfl)
theorem dX5_read_72 : decode cX5_read 72 = .ok (.iconst 0, 1) := dko_3 (dk_t 5 72 [3, 5, 182, 0, 35, 181, 0, 48, 43] dwX5_read_67 rfl rfl)
theorem dX5_read_73 : decode cX5_read 73 = .ok (.iconst 2, 1) := dko_5 (dk_t 6 73 [5, 182, 0, 35, 181, 0, 48, 43] dwX5_read_67 rfl rfl)
theorem dX5_read_74 : decode cX5_read 74 = .ok (.invokevirtual 35, 3) := dko_182 (dk_t 7 74 [182, 0, 35, 181, 0, 48, 43] dwX5_read_67 rfl rfl)
theorem dX5_read_77 : decode cX5_read 77 = .ok (.putfield 48, 3) := dko_181 (dk_t 10 77 [181, 0, 48, 43] dwX5_read_67 rfl rfl)
theorem dX5_read_80 : decode cX5_read 80 = .ok (.aload_n 1, 1) := dko_43 (dk_t 13 80 [43] dwX5_read_67 rfl rfl)
theorem dwX5_read_81 : dkW cX5_read 81 [180, 0, 45, 5, 159, 0, 19, 43, 180, 0, 45, 6] = true := by decide +kernel
theorem dX5_read_81 : decode cX5_read 81 = .ok (.getfield 45, 3) := dko_180 dwX5_read_81
theorem dX5_read_84 : decode cX5_read 84 = .ok (.iconst 2, 1) := dko_5 (dk_t 3 84 [5, 159, 0, 19, 43, 180, 0, 45, 6] dwX5_read_81 rfl rfl)
theorem dX5_read_85 : decode cX5_read 85 = .ok (.if_icmp .eq 19, 3) := dko_159 (dk_t 4 85 [159, 0, 19, 43, 180, 0, 45, 6] dwX5_read_81 rfl rfl)
theorem dX5_read_88 : decode cX5_read 88 = .ok (.aload_n 1, 1) := dko_43 (dk_t 7 88 [43, 180, 0, 45, 6] dwX5_read_81 rfl rfl)
theorem dX5_read_89 : decode cX5_read 89 = .ok (.getfield 45, 3) := dko_180 (dk_t 8 89 [180, 0, 45, 6] dwX5_read_81 rfl rfl)
theorem dX5_read_92 : decode cX5_read 92 = .ok (.iconst 3, 1) := dko_6 (dk_t 11 92 [6] dwX5_read_81 rfl rfl)
theorem dwX5_read_93 : dkW cX5_read 93 [159, 0, 11, 43, 180, 0, 45, 7, 160, 0, 32, 43, 42] = true := by decide +kernel
theorem dX5_read_93 : decode cX5_read 93 = .ok (.if_icmp .eq 11, 3) := dko_159 dwX5_read_93
theorem dX5_read_96 : decode cX5_read 96 = .ok (.aload_n 1, 1) := dko_43 (dk_t 3 96 [43, 180, 0, 45, 7, 160, 0, 32, 43, 42] dwX5_read_93 rfl rfl)
theorem dX5_read_97 : decode cX5_read 97 = .ok (.getfield 45, 3) := dko_180 (dk_t 4 97 [180, 0, 45, 7, 160, 0, 32, 43, 42] dwX5_read_93 rfl rfl)
theorem dX5_read_100 : decode cX5_read 100 = .ok (.iconst 4, 1) := dko_7 (dk_t 7 100 [7, 160, 0, 32, 43, 42] dwX5_read_93 rfl rfl)
theorem dX5_read_101 : decode cX5_read 101 = .ok (.if_icmp .ne 32, 3) := dko_160 (dk_t 8 101 [160, 0, 32, 43, 42] dwX5_read_93 rfl rfl)
theorem dX5_read_104 : decode cX5_read 104 = .ok (.aload_n 1, 1) := dko_43 (dk_t 11 104 [43, 42] dwX5_read_93 rfl rfl)
theorem dX5_read_105 : decode cX5_read 105 = .ok (.aload_n 0, 1) := dko_42 (dk_t 12 105 [42] dwX5_read_93 rfl rfl)
theorem dwX5_read_106 : dkW cX5_read 106 [17, 216, 241, 17, 39, 15, 182, 0, 35, 181, 0, 51, 43, 42] = true := by decide +kernel
theorem dX5_read_106 : decode cX5_read 106 = .ok (.sipush (-9999), 3) := dko_17 dwX5_read_106
theorem dX5_read_109 : decode cX5_read 109 = .ok (.sipush 9999, 3) := dko_17 (dk_t 3 109 [17, 39, 15, 182, 0, 35, 181, 0, 51, 43, 42] dwX5_read_106 rfl rfl)
theorem dX5_read_112 : decode cX5_read 112 = .ok (.invokevirtual 35, 3) := dko_182 (dk_t 6 112 [182, 0, 35, 181, 0, 51, 43, 42] dwX5_read_106 rfl rfl)
theorem dX5_read_115 : decode cX5_read 115 = .ok (.putfield 51, 3) := dko_181 (dk_t 9 115 [181, 0, 51, 43, 42] dwX5_read_106 rfl rfl)
theorem dX5_read_118 : decode cX5_read 118 = .ok (.aload_n 1, 1) := dko_43 (dk_t 12 118 [43, 42] dwX5_read_106 rfl rfl)
theorem dX5_read_119 : decode cX5_read 119 = .ok (.aload_n 0, 1) := dko_42 (dk_t 13 119 [42] dwX5_read_106 rfl rfl)
theorem dwX5_read_120 : dkW cX5_read 120 [43, 180, 0, 51, 17, 39, 15, 182, 0, 35, 181, 0, 54, 43] = true := by decide +kernel
theorem dX5_read_120 : decode cX5_read 120 = .ok (.aload_n 1, 1) := dko_43 dwX5_read_120
theorem dX5_read_121 : decode cX5_read 121 = .ok (.getfield 51, 3) := dko_180 (dk_t 1 121 [180, 0, 51, 17, 39, 15, 182, 0, 35, 181, 0, 54, 43] dwX5_read_120 rfl rfl)
theorem dX5_read_124 : decode cX5_read 124 = .ok (.sipush 9999, 3) := dko_17 (dk_t 4 124 [17, 39, 15, 182, 0, 35, 181, 0, 54, 43] dwX5_read_120 rfl rfl)
theorem dX5_read_127 : decode cX5_read 127 = .ok (.invokevirtual 35, 3) := dko_182 (dk_t 7 127 [182, 0, 35, 181, 0, 54, 43] dwX5_read_120 rfl rfl)
theorem dX5_read_130 : decode cX5_read 130 = .ok (.putfield 54, 3) := dko_181 (dk_t 10 130 [181, 0, 54, 43] dwX5_read_120 rfl rfl)
theorem dX5_read_133 : decode cX5_read 133 = .ok (.aload_n 1, 1) := dko_43 (dk_t 13 133 [43] dwX5_read_120 rfl rfl)
theorem dwX5_read_134 : dkW cX5_read 134 [180, 0, 45, 4, 160, 0, 11, 43, 42, 182, 0, 57] = true := by decide +kernel
theorem dX5_read_134 : decode cX5_read 134 = .ok (.getfield 45, 3) := dko_180 dwX5_read_134
theorem dX5_read_137 : decode cX5_read 137 = .ok (.iconst 1, 1) := dko_4 (dk_t 3 137 [4, 160, 0, 11, 43, 42, 182, 0, 57] dwX5_read_134 rfl rfl)
theorem dX5_read_138 : decode cX5_read 138 = .ok (.if_icmp .ne 11, 3) := dko_160 (dk_t 4 138 [160, 0, 11, 43, 42, 182, 0, 57] dwX5_read_134 rfl rfl)
theorem dX5_read_141 : decode cX5_read 141 = .ok (.aload_n 1, 1) := dko_43 (dk_t 7 141 [43, 42, 182, 0, 57] dwX5_read_134 rfl rfl)
theorem dX5_read_142 : decode cX5_read 142 = .ok (.aload_n 0, 1) := dko_42 (dk_t 8 142 [42, 182, 0, 57] dwX5_read_134 rfl rfl)
theorem dX5_read_143 : decode cX5_read 143 = .ok (.invokevirtual 57, 3) := dko_182 (dk_t 9 143 [182, 0, 57] dwX5_read_134 rfl rfl)
theorem dwX5_read_146 : dkW cX5_read 146 [181, 0, 60, 43, 42, 18, 63, 182, 0, 65, 181, 0, 69, 43] = true := by decide +kernel
theorem dX5_read_146 : decode cX5_read 146 = .ok (.putfield 60, 3) := dko_181 dwX5_read_146
theorem dX5_read_149 : decode cX5_read 149 = .ok (.aload_n 1, 1) := dko_43 (dk_t 3 149 [43, 42, 18, 63, 182, 0, 65, 181, 0, 69, 43] dwX5_read_146 rfl rfl)
theorem dX5_read_150 : decode cX5_read 150 = .ok (.aload_n 0, 1) := dko_42 (dk_t 4 150 [42, 18, 63, 182, 0, 65, 181, 0, 69, 43] dwX5_read_146 rfl rfl)
theorem dX5_read_151 : decode cX5_read 151 = .ok (.ldc 63, 2) := dko_18 (dk_t 5 151 [18, 63, 182, 0, 65, 181, 0, 69, 43] dwX5_read_146 rfl rfl)
theorem dX5_read_153 : decode cX5_read 153 = .ok (.invokevirtual 65, 3) := dko_182 (dk_t 7 153 [182, 0, 65, 181, 0, 69, 43] dwX5_read_146 rfl rfl)
theorem dX5_read_156 : decode cX5_read 156 = .ok (.putfield 69, 3) := dko_181 (dk_t 10 156 [181, 0, 69, 43] dwX5_read_146 rfl rfl)
theorem dX5_read_159 : decode cX5_read 159 = .ok (.aload_n 1, 1) := dko_43 (dk_t 13 159 [43] dwX5_read_146 rfl rfl)
theorem dwX5_read_160 : dkW cX5_read 160 [42, 18, 71, 182, 0, 65, 153, 0, 13, 42, 3, 16, 99] = true := by decide +kernel
theorem dX5_read_160 : decode cX5_read 160 = .ok (.aload_n 0, 1) := dko_42 dwX5_read_160
theorem dX5_read_161 : decode cX5_read 161 = .ok (.ldc 71, 2) := dko_18 (dk_t 1 161 [18, 71, 182, 0, 65, 153, 0, 13, 42, 3, 16, 99] dwX5_read_160 rfl rfl)
theorem dX5_read_163 : decode cX5_read 163 = .ok (.invokevirtual 65, 3) := dko_182 (dk_t 3 163 [182, 0, 65, 153, 0, 13, 42, 3, 16, 99] dwX5_read_160 rfl rfl)
theorem dX5_read_166 : decode cX5_read 166 = .ok (.ifCond .eq 13, 3) := dko_153 (dk_t 6 166 [153, 0, 13, 42, 3, 16, 99] dwX5_read_160 rfl rfl)
theorem dX5_read_169 : decode cX5_read 169 = .ok (.aload_n 0, 1) := dko_42 (dk_t 9 169 [42, 3, 16, 99] dwX5_read_160 rfl rfl)
theorem dX5_read_170 : decode cX5_read 170 = .ok (.iconst 0, 1) := dko_3 (dk_t 10 170 [3, 16, 99] dwX5_read_160 rfl rfl)
theorem dX5_read_171 : decode cX5_read 171 = .ok (.bipush 99, 2) := dko_16 (dk_t 11 171 [16, 99] dwX5_read_160 rfl rfl)
theorem dwX5_read_173 : dkW cX5_read 173 [182, 0, 35, 167, 0, 5, 16, 50, 181, 0, 73, 42] = true := by decide +kernel
theorem dX5_read_173 : decode cX5_read 173 = .ok (.invokevirtual 35, 3) := dko_182 dwX5_read_173
theorem dX5_read_176 : decode cX5_read 176 = .ok (.goto 5, 3) := dko_167 (dk_t 3 176 [167, 0, 5, 16, 50, 181, 0, 73, 42] dwX5_read_173 rfl rfl)
theorem dX5_read_179 : decode cX5_read 179 = .ok (.bipush 50, 2) := dko_16 (dk_t 6 179 [16, 50, 181, 0, 73, 42] dwX5_read_173 rfl rfl)
theorem dX5_read_181 : decode cX5_read 181 = .ok (.putfield 73, 3) := dko_181 (dk_t 8 181 [181, 0, 73, 42] dwX5_read_173 rfl rfl)
theorem dX5_read_184 : decode cX5_read 184 = .ok (.aload_n 0, 1) := dko_42 (dk_t 11 184 [42] dwX5_read_173 rfl rfl)
theorem dwX5_read_185 : dkW cX5_read 185 [180, 0, 75, 153, 0, 8, 42, 4, 181, 0, 15, 42] = true := by decide +kernel
theorem dX5_read_185 : decode cX5_read 185 = .ok (.getfield 75, 3) := dko_180 dwX5_read_185
theorem dX5_read_188 : decode cX5_read 188 = .ok (.ifCond .eq 8, 3) := dko_153 (dk_t 3 188 [153, 0, 8, 42, 4, 181, 0, 15, 42] dwX5_read_185 rfl rfl)
theorem dX5_read_191 : decode cX5_read 191 = .ok (.aload_n 0, 1) := dko_42 (dk_t 6 191 [42, 4, 181, 0, 15, 42] dwX5_read_185 rfl rfl)
theorem dX5_read_192 : decode cX5_read 192 = .ok (.iconst 1, 1) := dko_4 (dk_t 7 192 [4, 181, 0, 15, 42] dwX5_read_185 rfl rfl)
theorem dX5_read_193 : decode cX5_read 193 = .ok (.putfield 15, 3) := dko_181 (dk_t 8 193 [181, 0, 15, 42] dwX5_read_185 rfl rfl)
theorem dX5_read_196 : decode cX5_read 196 = .ok (.aload_n 0, 1) := dko_42 (dk_t 11 196 [42] dwX5_read_185 rfl rfl)
theorem dwX5_read_197 : dkW cX5_read 197 [180, 0, 15, 153, 0, 7, 1, 167, 0, 4, 43, 176] = true := by decide +kernel
theorem dX5_read_197 : decode cX5_read 197 = .ok (.getfield 15, 3) := dko_180 dwX5_read_197
theorem dX5_read_200 : decode cX5_read 200 = .ok (.ifCond .eq 7, 3) := dko_153 (dk_t 3 200 [153, 0, 7, 1, 167, 0, 4, 43, 176] dwX5_read_197 rfl rfl)
theorem dX5_read_203 : decode cX5_read 203 = .ok (.aconst_null, 1) := dko_1 (dk_t 6 203 [1, 167, 0, 4, 43, 176] dwX5_read_197 rfl rfl)
theorem dX5_read_204 : decode cX5_read 204 = .ok (.goto 4, 3) := dko_167 (dk_t 7 204 [167, 0, 4, 43, 176] dwX5_read_197 rfl rfl)
theorem dX5_read_207 : decode cX5_read 207 = .ok (.aload_n 1, 1) := dko_43 (dk_t 10 207 [43, 176] dwX5_read_197 rfl rfl)
theorem dX5_read_208 : decode cX5_read 208 = .ok (.areturn, 1) := dko_176 (dk_t 11 208 [176] dwX5_read_197 rfl rfl)
theorem dwX5_faultPlace_0 : dkW cX5_faultPlace 0 [42, 180, 0, 78, 172] = true := by decide +kernel
theorem dX5_faultPlace_0 : decode cX5_faultPlace 0 = .ok (.aload_n 0, 1) := dko_42 dwX5_faultPlace_0
theorem dX5_faultPlace_1 : decode cX5_faultPlace 1 = .ok (.getfield 78, 3) := dko_180 (dk_t 1 1 [180, 0, 78, 172] dwX5_faultPlace_0 rfl rfl)
theorem dX5_faultPlace_4 : decode cX5_faultPlace 4 = .ok (.ireturn, 1) := dko_172 (dk_t 4 4 [172] dwX5_faultPlace_0 rfl rfl)
theorem dwX5_takeKind_0 : dkW cX5_takeKind 0 [3, 60, 27, 16, 6, 162, 0, 22, 42, 27, 184, 0, 81] = true := by decide +kernel
theorem dX5_takeKind_0 : decode cX5_takeKind 0 = .ok (.iconst 0, 1) := dko_3 dwX5_takeKind_0
theorem dX5_takeKind_1 : decode cX5_takeKind 1 = .ok (.istore_n 1, 1) := dko_60 (dk_t 1 1 [60, 27, 16, 6, 162, 0, 22, 42, 27, 184, 0, 81] dwX5_takeKind_0 rfl rfl)
theorem dX5_takeKind_2 : decode cX5_takeKind 2 = .ok (.iload_n 1, 1) := dko_27 (dk_t 2 2 [27, 16, 6, 162, 0, 22, 42, 27, 184, 0, 81] dwX5_takeKind_0 rfl rfl)
theorem dX5_takeKind_3 : decode cX5_takeKind 3 = .ok (.bipush 6, 2) := dko_16 (dk_t 3 3 [16, 6, 162, 0, 22, 42, 27, 184, 0, 81] dwX5_takeKind_0 rfl rfl)
theorem dX5_takeKind_5 : decode cX5_takeKind 5 = .ok (.if_icmp .ge 22, 3) := dko_162 (dk_t 5 5 [162, 0, 22, 42, 27, 184, 0, 81] dwX5_takeKind_0 rfl rfl)
theorem dX5_takeKind_8 : decode cX5_takeKind 8 = .ok (.aload_n 0, 1) := dko_42 (dk_t 8 8 [42, 27, 184, 0, 81] dwX5_takeKind_0 rfl rfl)
theorem dX5_takeKind_9 : decode cX5_takeKind 9 = .ok (.iload_n 1, 1) := dko_27 (dk_t 9 9 [27, 184, 0, 81] dwX5_takeKind_0 rfl rfl)
theorem dX5_takeKind_10 : decode cX5_takeKind 10 = .ok (.invokestatic 81, 3) := dko_184 (dk_t 10 10 [184, 0, 81] dwX5_takeKind_0 rfl rfl)
theorem dwX5_takeKind_13 : dkW cX5_takeKind 13 [182, 0, 65, 153, 0, 5, 27, 172, 132, 1, 1, 167, 255, 234] = true := by decide +kernel
theorem dX5_takeKind_13 : decode cX5_takeKind 13 = .ok (.invokevirtual 65, 3) := dko_182 dwX5_takeKind_13
theorem dX5_takeKind_16 : decode cX5_takeKind 16 = .ok (.ifCond .eq 5, 3) := dko_153 (dk_t 3 16 [153, 0, 5, 27, 172, 132, 1, 1, 167, 255, 234] dwX5_takeKind_13 rfl rfl)
theorem dX5_takeKind_19 : decode cX5_takeKind 19 = .ok (.iload_n 1, 1) := dko_27 (dk_t 6 19 [27, 172, 132, 1, 1, 167, 255, 234] dwX5_takeKind_13 rfl rfl)
theorem dX5_takeKind_20 : decode cX5_takeKind 20 = .ok (.ireturn, 1) := dko_172 (dk_t 7 20 [172, 132, 1, 1, 167, 255, 234] dwX5_takeKind_13 rfl rfl)
theorem dX5_takeKind_21 : decode cX5_takeKind 21 = .ok (.iinc 1 1, 3) := dko_132 (dk_t 8 21 [132, 1, 1, 167, 255, 234] dwX5_takeKind_13 rfl rfl)
theorem dX5_takeKind_24 : decode cX5_takeKind 24 = .ok (.goto (-22), 3) := dko_167 (dk_t 11 24 [167, 255, 234] dwX5_takeKind_13 rfl rfl)
theorem dwX5_takeKind_27 : dkW cX5_takeKind 27 [42, 4, 181, 0, 15, 3, 172] = true := by decide +kernel
theorem dX5_takeKind_27 : decode cX5_takeKind 27 = .ok (.aload_n 0, 1) := dko_42 dwX5_takeKind_27
theorem dX5_takeKind_28 : decode cX5_takeKind 28 = .ok (.iconst 1, 1) := dko_4 (dk_t 1 28 [4, 181, 0, 15, 3, 172] dwX5_takeKind_27 rfl rfl)
theorem dX5_takeKind_29 : decode cX5_takeKind 29 = .ok (.putfield 15, 3) := dko_181 (dk_t 2 29 [181, 0, 15, 3, 172] dwX5_takeKind_27 rfl rfl)
theorem dX5_takeKind_32 : decode cX5_takeKind 32 = .ok (.iconst 0, 1) := dko_3 (dk_t 5 32 [3, 172] dwX5_takeKind_27 rfl rfl)
theorem dX5_takeKind_33 : decode cX5_takeKind 33 = .ok (.ireturn, 1) := dko_172 (dk_t 6 33 [172] dwX5_takeKind_27 rfl rfl)
theorem dwX5_takeAction_0 : dkW cX5_takeAction 0 [42, 18, 85, 182, 0, 65, 153, 0, 5, 4, 172, 42, 18, 87] = true := by decide +kernel
theorem dX5_takeAction_0 : decode cX5_takeAction 0 = .ok (.aload_n 0, 1) := dko_42 dwX5_takeAction_0
theorem dX5_takeAction_1 : decode cX5_takeAction 1 = .ok (.ldc 85, 2) := dko_18 (dk_t 1 1 [18, 85, 182, 0, 65, 153, 0, 5, 4, 172, 42, 18, 87] dwX5_takeAction_0 rfl rfl)
theorem dX5_takeAction_3 : decode cX5_takeAction 3 = .ok (.invokevirtual 65, 3) := dko_182 (dk_t 3 3 [182, 0, 65, 153, 0, 5, 4, 172, 42, 18, 87] dwX5_takeAction_0 rfl rfl)
theorem dX5_takeAction_6 : decode cX5_takeAction 6 = .ok (.ifCond .eq 5, 3) := dko_153 (dk_t 6 6 [153, 0, 5, 4, 172, 42, 18, 87] dwX5_takeAction_0 rfl rfl)
theorem dX5_takeAction_9 : decode cX5_takeAction 9 = .ok (.iconst 1, 1) := dko_4 (dk_t 9 9 [4, 172, 42, 18, 87] dwX5_takeAction_0 rfl rfl)
theorem dX5_takeAction_10 : decode cX5_takeAction 10 = .ok (.ireturn, 1) := dko_172 (dk_t 10 10 [172, 42, 18, 87] dwX5_takeAction_0 rfl rfl)
theorem dX5_takeAction_11 : decode cX5_takeAction 11 = .ok (.aload_n 0, 1) := dko_42 (dk_t 11 11 [42, 18, 87] dwX5_takeAction_0 rfl rfl)
theorem dX5_takeAction_12 : decode cX5_takeAction 12 = .ok (.ldc 87, 2) := dko_18 (dk_t 12 12 [18, 87] dwX5_takeAction_0 rfl rfl)
theorem dwX5_takeAction_14 : dkW cX5_takeAction 14 [182, 0, 65, 153, 0, 7, 5, 167, 0, 4, 3, 172] = true := by decide +kernel
theorem dX5_takeAction_14 : decode cX5_takeAction 14 = .ok (.invokevirtual 65, 3) := dko_182 dwX5_takeAction_14
theorem dX5_takeAction_17 : decode cX5_takeAction 17 = .ok (.ifCond .eq 7, 3) := dko_153 (dk_t 3 17 [153, 0, 7, 5, 167, 0, 4, 3, 172] dwX5_takeAction_14 rfl rfl)
theorem dX5_takeAction_20 : decode cX5_takeAction 20 = .ok (.iconst 2, 1) := dko_5 (dk_t 6 20 [5, 167, 0, 4, 3, 172] dwX5_takeAction_14 rfl rfl)
theorem dX5_takeAction_21 : decode cX5_takeAction 21 = .ok (.goto 4, 3) := dko_167 (dk_t 7 21 [167, 0, 4, 3, 172] dwX5_takeAction_14 rfl rfl)
theorem dX5_takeAction_24 : decode cX5_takeAction 24 = .ok (.iconst 0, 1) := dko_3 (dk_t 10 24 [3, 172] dwX5_takeAction_14 rfl rfl)
theorem dX5_takeAction_25 : decode cX5_takeAction 25 = .ok (.ireturn, 1) := dko_172 (dk_t 11 25 [172] dwX5_takeAction_14 rfl rfl)
theorem dwX5_takeNumber_0 : dkW cX5_takeNumber 0 [42, 180, 0, 15, 154, 0, 27, 42, 180, 0, 75, 5] = true := by decide +kernel
theorem dX5_takeNumber_0 : decode cX5_takeNumber 0 = .ok (.aload_n 0, 1) := dko_42 dwX5_takeNumber_0
theorem dX5_takeNumber_1 : decode cX5_takeNumber 1 = .ok (.getfield 15, 3) := dko_180 (dk_t 1 1 [180, 0, 15, 154, 0, 27, 42, 180, 0, 75, 5] dwX5_takeNumber_0 rfl rfl)
theorem dX5_takeNumber_4 : decode cX5_takeNumber 4 = .ok (.ifCond .ne 27, 3) := dko_154 (dk_t 4 4 [154, 0, 27, 42, 180, 0, 75, 5] dwX5_takeNumber_0 rfl rfl)
theorem dX5_takeNumber_7 : decode cX5_takeNumber 7 = .ok (.aload_n 0, 1) := dko_42 (dk_t 7 7 [42, 180, 0, 75, 5] dwX5_takeNumber_0 rfl rfl)
theorem dX5_takeNumber_8 : decode cX5_takeNumber 8 = .ok (.getfield 75, 3) := dko_180 (dk_t 8 8 [180, 0, 75, 5] dwX5_takeNumber_0 rfl rfl)
theorem dX5_takeNumber_11 : decode cX5_takeNumber 11 = .ok (.iconst 2, 1) := dko_5 (dk_t 11 11 [5] dwX5_takeNumber_0 rfl rfl)
theorem dwX5_takeNumber_12 : dkW cX5_takeNumber 12 [160, 0, 19, 42, 180, 0, 89, 27, 161, 0, 11, 42] = true := by decide +kernel
theorem dX5_takeNumber_12 : decode cX5_takeNumber 12 = .ok (.if_icmp .ne 19, 3) := dko_160 dwX5_takeNumber_12
theorem dX5_takeNumber_15 : decode cX5_takeNumber 15 = .ok (.aload_n 0, 1) := dko_42 (dk_t 3 15 [42, 180, 0, 89, 27, 161, 0, 11, 42] dwX5_takeNumber_12 rfl rfl)
theorem dX5_takeNumber_16 : decode cX5_takeNumber 16 = .ok (.getfield 89, 3) := dko_180 (dk_t 4 16 [180, 0, 89, 27, 161, 0, 11, 42] dwX5_takeNumber_12 rfl rfl)
theorem dX5_takeNumber_19 : decode cX5_takeNumber 19 = .ok (.iload_n 1, 1) := dko_27 (dk_t 7 19 [27, 161, 0, 11, 42] dwX5_takeNumber_12 rfl rfl)
theorem dX5_takeNumber_20 : decode cX5_takeNumber 20 = .ok (.if_icmp .lt 11, 3) := dko_161 (dk_t 8 20 [161, 0, 11, 42] dwX5_takeNumber_12 rfl rfl)
theorem dX5_takeNumber_23 : decode cX5_takeNumber 23 = .ok (.aload_n 0, 1) := dko_42 (dk_t 11 23 [42] dwX5_takeNumber_12 rfl rfl)
theorem dwX5_takeNumber_24 : dkW cX5_takeNumber 24 [180, 0, 89, 28, 164, 0, 10, 42, 4, 181, 0, 15, 3, 172] = true := by decide +kernel
theorem dX5_takeNumber_24 : decode cX5_takeNumber 24 = .ok (.getfield 89, 3) := dko_180 dwX5_takeNumber_24
theorem dX5_takeNumber_27 : decode cX5_takeNumber 27 = .ok (.iload_n 2, 1) := dko_28 (dk_t 3 27 [28, 164, 0, 10, 42, 4, 181, 0, 15, 3, 172] dwX5_takeNumber_24 rfl rfl)
theorem dX5_takeNumber_28 : decode cX5_takeNumber 28 = .ok (.if_icmp .le 10, 3) := dko_164 (dk_t 4 28 [164, 0, 10, 42, 4, 181, 0, 15, 3, 172] dwX5_takeNumber_24 rfl rfl)
theorem dX5_takeNumber_31 : decode cX5_takeNumber 31 = .ok (.aload_n 0, 1) := dko_42 (dk_t 7 31 [42, 4, 181, 0, 15, 3, 172] dwX5_takeNumber_24 rfl rfl)
theorem dX5_takeNumber_32 : decode cX5_takeNumber 32 = .ok (.iconst 1, 1) := dko_4 (dk_t 8 32 [4, 181, 0, 15, 3, 172] dwX5_takeNumber_24 rfl rfl)
theorem dX5_takeNumber_33 : decode cX5_takeNumber 33 = .ok (.putfield 15, 3) := dko_181 (dk_t 9 33 [181, 0, 15, 3, 172] dwX5_takeNumber_24 rfl rfl)
theorem dX5_takeNumber_36 : decode cX5_takeNumber 36 = .ok (.iconst 0, 1) := dko_3 (dk_t 12 36 [3, 172] dwX5_takeNumber_24 rfl rfl)
theorem dX5_takeNumber_37 : decode cX5_takeNumber 37 = .ok (.ireturn, 1) := dko_172 (dk_t 13 37 [172] dwX5_takeNumber_24 rfl rfl)
theorem dwX5_takeNumber_38 : dkW cX5_takeNumber 38 [42, 180, 0, 89, 62, 42, 182, 0, 23, 29, 172] = true := by decide +kernel
theorem dX5_takeNumber_38 : decode cX5_takeNumber 38 = .ok (.aload_n 0, 1) := dko_42 dwX5_takeNumber_38
theorem dX5_takeNumber_39 : decode cX5_takeNumber 39 = .ok (.getfield 89, 3) := dko_180 (dk_t 1 39 [180, 0, 89, 62, 42, 182, 0, 23, 29, 172] dwX5_takeNumber_38 rfl rfl)
theorem dX5_takeNumber_42 : decode cX5_takeNumber 42 = .ok (.istore_n 3, 1) := dko_62 (dk_t 4 42 [62, 42, 182, 0, 23, 29, 172] dwX5_takeNumber_38 rfl rfl)
theorem dX5_takeNumber_43 : decode cX5_takeNumber 43 = .ok (.aload_n 0, 1) := dko_42 (dk_t 5 43 [42, 182, 0, 23, 29, 172] dwX5_takeNumber_38 rfl rfl)
theorem dX5_takeNumber_44 : decode cX5_takeNumber 44 = .ok (.invokevirtual 23, 3) := dko_182 (dk_t 6 44 [182, 0, 23, 29, 172] dwX5_takeNumber_38 rfl rfl)
theorem dX5_takeNumber_47 : decode cX5_takeNumber 47 = .ok (.iload_n 3, 1) := dko_29 (dk_t 9 47 [29, 172] dwX5_takeNumber_38 rfl rfl)
theorem dX5_takeNumber_48 : decode cX5_takeNumber 48 = .ok (.ireturn, 1) := dko_172 (dk_t 10 48 [172] dwX5_takeNumber_38 rfl rfl)
theorem dwX5_takeWord_0 : dkW cX5_takeWord 0 [42, 180, 0, 15, 154, 0, 27, 42, 180, 0, 75, 4] = true := by decide +kernel
theorem dX5_takeWord_0 : decode cX5_takeWord 0 = .ok (.aload_n 0, 1) := dko_42 dwX5_takeWord_0
theorem dX5_takeWord_1 : decode cX5_takeWord 1 = .ok (.getfield 15, 3) := dko_180 (dk_t 1 1 [180, 0, 15, 154, 0, 27, 42, 180, 0, 75, 4] dwX5_takeWord_0 rfl rfl)
theorem dX5_takeWord_4 : decode cX5_takeWord 4 = .ok (.ifCond .ne 27, 3) := dko_154 (dk_t 4 4 [154, 0, 27, 42, 180, 0, 75, 4] dwX5_takeWord_0 rfl rfl)
theorem dX5_takeWord_7 : decode cX5_takeWord 7 = .ok (.aload_n 0, 1) := dko_42 (dk_t 7 7 [42, 180, 0, 75, 4] dwX5_takeWord_0 rfl rfl)
theorem dX5_takeWord_8 : decode cX5_takeWord 8 = .ok (.getfield 75, 3) := dko_180 (dk_t 8 8 [180, 0, 75, 4] dwX5_takeWord_0 rfl rfl)
theorem dX5_takeWord_11 : decode cX5_takeWord 11 = .ok (.iconst 1, 1) := dko_4 (dk_t 11 11 [4] dwX5_takeWord_0 rfl rfl)
theorem dwX5_takeWord_12 : dkW cX5_takeWord 12 [160, 0, 19, 42, 180, 0, 19, 42, 180, 0, 78, 100, 43] = true := by decide +kernel
theorem dX5_takeWord_12 : decode cX5_takeWord 12 = .ok (.if_icmp .ne 19, 3) := dko_160 dwX5_takeWord_12
theorem dX5_takeWord_15 : decode cX5_takeWord 15 = .ok (.aload_n 0, 1) := dko_42 (dk_t 3 15 [42, 180, 0, 19, 42, 180, 0, 78, 100, 43] dwX5_takeWord_12 rfl rfl)
theorem dX5_takeWord_16 : decode cX5_takeWord 16 = .ok (.getfield 19, 3) := dko_180 (dk_t 4 16 [180, 0, 19, 42, 180, 0, 78, 100, 43] dwX5_takeWord_12 rfl rfl)
theorem dX5_takeWord_19 : decode cX5_takeWord 19 = .ok (.aload_n 0, 1) := dko_42 (dk_t 7 19 [42, 180, 0, 78, 100, 43] dwX5_takeWord_12 rfl rfl)
theorem dX5_takeWord_20 : decode cX5_takeWord 20 = .ok (.getfield 78, 3) := dko_180 (dk_t 8 20 [180, 0, 78, 100, 43] dwX5_takeWord_12 rfl rfl)
theorem dX5_takeWord_23 : decode cX5_takeWord 23 = .ok (.isub, 1) := dko_100 (dk_t 11 23 [100, 43] dwX5_takeWord_12 rfl rfl)
theorem dX5_takeWord_24 : decode cX5_takeWord 24 = .ok (.aload_n 1, 1) := dko_43 (dk_t 12 24 [43] dwX5_takeWord_12 rfl rfl)
theorem dwX5_takeWord_25 : dkW cX5_takeWord 25 [182, 0, 92, 159, 0, 5, 3, 172, 3, 61, 28, 43] = true := by decide +kernel
theorem dX5_takeWord_25 : decode cX5_takeWord 25 = .ok (.invokevirtual 92, 3) := dko_182 dwX5_takeWord_25
theorem dX5_takeWord_28 : decode cX5_takeWord 28 = .ok (.if_icmp .eq 5, 3) := dko_159 (dk_t 3 28 [159, 0, 5, 3, 172, 3, 61, 28, 43] dwX5_takeWord_25 rfl rfl)
theorem dX5_takeWord_31 : decode cX5_takeWord 31 = .ok (.iconst 0, 1) := dko_3 (dk_t 6 31 [3, 172, 3, 61, 28, 43] dwX5_takeWord_25 rfl rfl)
theorem dX5_takeWord_32 : decode cX5_takeWord 32 = .ok (.ireturn, 1) := dko_172 (dk_t 7 32 [172, 3, 61, 28, 43] dwX5_takeWord_25 rfl rfl)
theorem dX5_takeWord_33 : decode cX5_takeWord 33 = .ok (.iconst 0, 1) := dko_3 (dk_t 8 33 [3, 61, 28, 43] dwX5_takeWord_25 rfl rfl)
theorem dX5_takeWord_34 : decode cX5_takeWord 34 = .ok (.istore_n 2, 1) := dko_61 (dk_t 9 34 [61, 28, 43] dwX5_takeWord_25 rfl rfl)
theorem dX5_takeWord_35 : decode cX5_takeWord 35 = .ok (.iload_n 2, 1) := dko_28 (dk_t 10 35 [28, 43] dwX5_takeWord_25 rfl rfl)
theorem dX5_takeWord_36 : decode cX5_takeWord 36 = .ok (.aload_n 1, 1) := dko_43 (dk_t 11 36 [43] dwX5_takeWord_25 rfl rfl)
theorem dwX5_takeWord_37 : dkW cX5_takeWord 37 [182, 0, 92, 162, 0, 32, 42, 180, 0, 9, 42, 180, 0, 78] = true := by decide +kernel
theorem dX5_takeWord_37 : decode cX5_takeWord 37 = .ok (.invokevirtual 92, 3) := dko_182 dwX5_takeWord_37
theorem dX5_takeWord_40 : decode cX5_takeWord 40 = .ok (.if_icmp .ge 32, 3) := dko_162 (dk_t 3 40 [162, 0, 32, 42, 180, 0, 9, 42, 180, 0, 78] dwX5_takeWord_37 rfl rfl)
theorem dX5_takeWord_43 : decode cX5_takeWord 43 = .ok (.aload_n 0, 1) := dko_42 (dk_t 6 43 [42, 180, 0, 9, 42, 180, 0, 78] dwX5_takeWord_37 rfl rfl)
theorem dX5_takeWord_44 : decode cX5_takeWord 44 = .ok (.getfield 9, 3) := dko_180 (dk_t 7 44 [180, 0, 9, 42, 180, 0, 78] dwX5_takeWord_37 rfl rfl)
theorem dX5_takeWord_47 : decode cX5_takeWord 47 = .ok (.aload_n 0, 1) := dko_42 (dk_t 10 47 [42, 180, 0, 78] dwX5_takeWord_37 rfl rfl)
theorem dX5_takeWord_48 : decode cX5_takeWord 48 = .ok (.getfield 78, 3) := dko_180 (dk_t 11 48 [180, 0, 78] dwX5_takeWord_37 rfl rfl)
theorem dwX5_takeWord_51 : dkW cX5_takeWord 51 [28, 96, 182, 0, 97, 43, 28, 182, 0, 103, 159, 0, 5, 3] = true := by decide +kernel
theorem dX5_takeWord_51 : decode cX5_takeWord 51 = .ok (.iload_n 2, 1) := dko_28 dwX5_takeWord_51
theorem dX5_takeWord_52 : decode cX5_takeWord 52 = .ok (.iadd, 1) := dko_96 (dk_t 1 52 [96, 182, 0, 97, 43, 28, 182, 0, 103, 159, 0, 5, 3] dwX5_takeWord_51 rfl rfl)
theorem dX5_takeWord_53 : decode cX5_takeWord 53 = .ok (.invokevirtual 97, 3) := dko_182 (dk_t 2 53 [182, 0, 97, 43, 28, 182, 0, 103, 159, 0, 5, 3] dwX5_takeWord_51 rfl rfl)
theorem dX5_takeWord_56 : decode cX5_takeWord 56 = .ok (.aload_n 1, 1) := dko_43 (dk_t 5 56 [43, 28, 182, 0, 103, 159, 0, 5, 3] dwX5_takeWord_51 rfl rfl)
theorem dX5_takeWord_57 : decode cX5_takeWord 57 = .ok (.iload_n 2, 1) := dko_28 (dk_t 6 57 [28, 182, 0, 103, 159, 0, 5, 3] dwX5_takeWord_51 rfl rfl)
theorem dX5_takeWord_58 : decode cX5_takeWord 58 = .ok (.invokevirtual 103, 3) := dko_182 (dk_t 7 58 [182, 0, 103, 159, 0, 5, 3] dwX5_takeWord_51 rfl rfl)
theorem dX5_takeWord_61 : decode cX5_takeWord 61 = .ok (.if_icmp .eq 5, 3) := dko_159 (dk_t 10 61 [159, 0, 5, 3] dwX5_takeWord_51 rfl rfl)
theorem dX5_takeWord_64 : decode cX5_takeWord 64 = .ok (.iconst 0, 1) := dko_3 (dk_t 13 64 [3] dwX5_takeWord_51 rfl rfl)
theorem dwX5_takeWord_65 : dkW cX5_takeWord 65 [172, 132, 2, 1, 167, 255, 222, 42, 182, 0, 23, 4, 172] = true := by decide +kernel
theorem dX5_takeWord_65 : decode cX5_takeWord 65 = .ok (.ireturn, 1) := dko_172 dwX5_takeWord_65
theorem dX5_takeWord_66 : decode cX5_takeWord 66 = .ok (.iinc 2 1, 3) := dko_132 (dk_t 1 66 [132, 2, 1, 167, 255, 222, 42, 182, 0, 23, 4, 172] dwX5_takeWord_65 rfl rfl)
theorem dX5_takeWord_69 : decode cX5_takeWord 69 = .ok (.goto (-34), 3) := dko_167 (dk_t 4 69 [167, 255, 222, 42, 182, 0, 23, 4, 172] dwX5_takeWord_65 rfl rfl)
theorem dX5_takeWord_72 : decode cX5_takeWord 72 = .ok (.aload_n 0, 1) := dko_42 (dk_t 7 72 [42, 182, 0, 23, 4, 172] dwX5_takeWord_65 rfl rfl)
theorem dX5_takeWord_73 : decode cX5_takeWord 73 = .ok (.invokevirtual 23, 3) := dko_182 (dk_t 8 73 [182, 0, 23, 4, 172] dwX5_takeWord_65 rfl rfl)
theorem dX5_takeWord_76 : decode cX5_takeWord 76 = .ok (.iconst 1, 1) := dko_4 (dk_t 11 76 [4, 172] dwX5_takeWord_65 rfl rfl)
theorem dX5_takeWord_77 : decode cX5_takeWord 77 = .ok (.ireturn, 1) := dko_172 (dk_t 12 77 [172] dwX5_takeWord_65 rfl rfl)
theorem dwX5_advance_0 : dkW cX5_advance 0 [42, 42, 180, 0, 19, 181, 0, 78, 42, 180, 0, 78, 42] = true := by decide +kernel
theorem dX5_advance_0 : decode cX5_advance 0 = .ok (.aload_n 0, 1) := dko_42 dwX5_advance_0
theorem dX5_advance_1 : decode cX5_advance 1 = .ok (.aload_n 0, 1) := dko_42 (dk_t 1 1 [42, 180, 0, 19, 181, 0, 78, 42, 180, 0, 78, 42] dwX5_advance_0 rfl rfl)
theorem dX5_advance_2 : decode cX5_advance 2 = .ok (.getfield 19, 3) := dko_180 (dk_t 2 2 [180, 0, 19, 181, 0, 78, 42, 180, 0, 78, 42] dwX5_advance_0 rfl rfl)
theorem dX5_advance_5 : decode cX5_advance 5 = .ok (.putfield 78, 3) := dko_181 (dk_t 5 5 [181, 0, 78, 42, 180, 0, 78, 42] dwX5_advance_0 rfl rfl)
theorem dX5_advance_8 : decode cX5_advance 8 = .ok (.aload_n 0, 1) := dko_42 (dk_t 8 8 [42, 180, 0, 78, 42] dwX5_advance_0 rfl rfl)
theorem dX5_advance_9 : decode cX5_advance 9 = .ok (.getfield 78, 3) := dko_180 (dk_t 9 9 [180, 0, 78, 42] dwX5_advance_0 rfl rfl)
theorem dX5_advance_12 : decode cX5_advance 12 = .ok (.aload_n 0, 1) := dko_42 (dk_t 12 12 [42] dwX5_advance_0 rfl rfl)
theorem dwX5_advance_13 : dkW cX5_advance 13 [180, 0, 9, 182, 0, 106, 162, 0, 32, 42, 180, 0, 9, 42] = true := by decide +kernel
theorem dX5_advance_13 : decode cX5_advance 13 = .ok (.getfield 9, 3) := dko_180 dwX5_advance_13
theorem dX5_advance_16 : decode cX5_advance 16 = .ok (.invokevirtual 106, 3) := dko_182 (dk_t 3 16 [182, 0, 106, 162, 0, 32, 42, 180, 0, 9, 42] dwX5_advance_13 rfl rfl)
theorem dX5_advance_19 : decode cX5_advance 19 = .ok (.if_icmp .ge 32, 3) := dko_162 (dk_t 6 19 [162, 0, 32, 42, 180, 0, 9, 42] dwX5_advance_13 rfl rfl)
theorem dX5_advance_22 : decode cX5_advance 22 = .ok (.aload_n 0, 1) := dko_42 (dk_t 9 22 [42, 180, 0, 9, 42] dwX5_advance_13 rfl rfl)
theorem dX5_advance_23 : decode cX5_advance 23 = .ok (.getfield 9, 3) := dko_180 (dk_t 10 23 [180, 0, 9, 42] dwX5_advance_13 rfl rfl)
theorem dX5_advance_26 : decode cX5_advance 26 = .ok (.aload_n 0, 1) := dko_42 (dk_t 13 26 [42] dwX5_advance_13 rfl rfl)
theorem dwX5_advance_27 : dkW cX5_advance 27 [180, 0, 78, 182, 0, 97, 16, 32, 160, 0, 16, 42, 89] = true := by decide +kernel
theorem dX5_advance_27 : decode cX5_advance 27 = .ok (.getfield 78, 3) := dko_180 dwX5_advance_27
theorem dX5_advance_30 : decode cX5_advance 30 = .ok (.invokevirtual 97, 3) := dko_182 (dk_t 3 30 [182, 0, 97, 16, 32, 160, 0, 16, 42, 89] dwX5_advance_27 rfl rfl)
theorem dX5_advance_33 : decode cX5_advance 33 = .ok (.bipush 32, 2) := dko_16 (dk_t 6 33 [16, 32, 160, 0, 16, 42, 89] dwX5_advance_27 rfl rfl)
theorem dX5_advance_35 : decode cX5_advance 35 = .ok (.if_icmp .ne 16, 3) := dko_160 (dk_t 8 35 [160, 0, 16, 42, 89] dwX5_advance_27 rfl rfl)
theorem dX5_advance_38 : decode cX5_advance 38 = .ok (.aload_n 0, 1) := dko_42 (dk_t 11 38 [42, 89] dwX5_advance_27 rfl rfl)
theorem dX5_advance_39 : decode cX5_advance 39 = .ok (.dup, 1) := dko_89 (dk_t 12 39 [89] dwX5_advance_27 rfl rfl)
theorem dwX5_advance_40 : dkW cX5_advance 40 [180, 0, 78, 4, 96, 181, 0, 78, 167, 255, 216, 42, 42] = true := by decide +kernel
theorem dX5_advance_40 : decode cX5_advance 40 = .ok (.getfield 78, 3) := dko_180 dwX5_advance_40
theorem dX5_advance_43 : decode cX5_advance 43 = .ok (.iconst 1, 1) := dko_4 (dk_t 3 43 [4, 96, 181, 0, 78, 167, 255, 216, 42, 42] dwX5_advance_40 rfl rfl)
theorem dX5_advance_44 : decode cX5_advance 44 = .ok (.iadd, 1) := dko_96 (dk_t 4 44 [96, 181, 0, 78, 167, 255, 216, 42, 42] dwX5_advance_40 rfl rfl)
theorem dX5_advance_45 : decode cX5_advance 45 = .ok (.putfield 78, 3) := dko_181 (dk_t 5 45 [181, 0, 78, 167, 255, 216, 42, 42] dwX5_advance_40 rfl rfl)
theorem dX5_advance_48 : decode cX5_advance 48 = .ok (.goto (-40), 3) := dko_167 (dk_t 8 48 [167, 255, 216, 42, 42] dwX5_advance_40 rfl rfl)
theorem dX5_advance_51 : decode cX5_advance 51 = .ok (.aload_n 0, 1) := dko_42 (dk_t 11 51 [42, 42] dwX5_advance_40 rfl rfl)
theorem dX5_advance_52 : decode cX5_advance 52 = .ok (.aload_n 0, 1) := dko_42 (dk_t 12 52 [42] dwX5_advance_40 rfl rfl)
theorem dwX5_advance_53 : dkW cX5_advance 53 [180, 0, 78, 181, 0, 19, 42, 180, 0, 78, 42, 180, 0, 9] = true := by decide +kernel
theorem dX5_advance_53 : decode cX5_advance 53 = .ok (.getfield 78, 3) := dko_180 dwX5_advance_53
theorem dX5_advance_56 : decode cX5_advance 56 = .ok (.putfield 19, 3) := dko_181 (dk_t 3 56 [181, 0, 19, 42, 180, 0, 78, 42, 180, 0, 9] dwX5_advance_53 rfl rfl)
theorem dX5_advance_59 : decode cX5_advance 59 = .ok (.aload_n 0, 1) := dko_42 (dk_t 6 59 [42, 180, 0, 78, 42, 180, 0, 9] dwX5_advance_53 rfl rfl)
theorem dX5_advance_60 : decode cX5_advance 60 = .ok (.getfield 78, 3) := dko_180 (dk_t 7 60 [180, 0, 78, 42, 180, 0, 9] dwX5_advance_53 rfl rfl)
theorem dX5_advance_63 : decode cX5_advance 63 = .ok (.aload_n 0, 1) := dko_42 (dk_t 10 63 [42, 180, 0, 9] dwX5_advance_53 rfl rfl)
theorem dX5_advance_64 : decode cX5_advance 64 = .ok (.getfield 9, 3) := dko_180 (dk_t 11 64 [180, 0, 9] dwX5_advance_53 rfl rfl)
theorem dwX5_advance_67 : dkW cX5_advance 67 [182, 0, 106, 161, 0, 11, 42, 3, 181, 0, 75, 167, 0, 31] = true := by decide +kernel
theorem dX5_advance_67 : decode cX5_advance 67 = .ok (.invokevirtual 106, 3) := dko_182 dwX5_advance_67
theorem dX5_advance_70 : decode cX5_advance 70 = .ok (.if_icmp .lt 11, 3) := dko_161 (dk_t 3 70 [161, 0, 11, 42, 3, 181, 0, 75, 167, 0, 31] dwX5_advance_67 rfl rfl)
theorem dX5_advance_73 : decode cX5_advance 73 = .ok (.aload_n 0, 1) := dko_42 (dk_t 6 73 [42, 3, 181, 0, 75, 167, 0, 31] dwX5_advance_67 rfl rfl)
theorem dX5_advance_74 : decode cX5_advance 74 = .ok (.iconst 0, 1) := dko_3 (dk_t 7 74 [3, 181, 0, 75, 167, 0, 31] dwX5_advance_67 rfl rfl)
theorem dX5_advance_75 : decode cX5_advance 75 = .ok (.putfield 75, 3) := dko_181 (dk_t 8 75 [181, 0, 75, 167, 0, 31] dwX5_advance_67 rfl rfl)
theorem dX5_advance_78 : decode cX5_advance 78 = .ok (.goto 31, 3) := dko_167 (dk_t 11 78 [167, 0, 31] dwX5_advance_67 rfl rfl)
theorem dwX5_advance_81 : dkW cX5_advance 81 [42, 180, 0, 9, 42, 180, 0, 78, 182, 0, 97, 184, 0, 107] = true := by decide +kernel
theorem dX5_advance_81 : decode cX5_advance 81 = .ok (.aload_n 0, 1) := dko_42 dwX5_advance_81
theorem dX5_advance_82 : decode cX5_advance 82 = .ok (.getfield 9, 3) := dko_180 (dk_t 1 82 [180, 0, 9, 42, 180, 0, 78, 182, 0, 97, 184, 0, 107] dwX5_advance_81 rfl rfl)
theorem dX5_advance_85 : decode cX5_advance 85 = .ok (.aload_n 0, 1) := dko_42 (dk_t 4 85 [42, 180, 0, 78, 182, 0, 97, 184, 0, 107] dwX5_advance_81 rfl rfl)
theorem dX5_advance_86 : decode cX5_advance 86 = .ok (.getfield 78, 3) := dko_180 (dk_t 5 86 [180, 0, 78, 182, 0, 97, 184, 0, 107] dwX5_advance_81 rfl rfl)
theorem dX5_advance_89 : decode cX5_advance 89 = .ok (.invokevirtual 97, 3) := dko_182 (dk_t 8 89 [182, 0, 97, 184, 0, 107] dwX5_advance_81 rfl rfl)
theorem dX5_advance_92 : decode cX5_advance 92 = .ok (.invokestatic 107, 3) := dko_184 (dk_t 11 92 [184, 0, 107] dwX5_advance_81 rfl rfl)
theorem dwX5_advance_95 : dkW cX5_advance 95 [153, 0, 10, 42, 182, 0, 111, 167, 0, 7, 42, 182, 0, 114] = true := by decide +kernel
theorem dX5_advance_95 : decode cX5_advance 95 = .ok (.ifCond .eq 10, 3) := dko_153 dwX5_advance_95
theorem dX5_advance_98 : decode cX5_advance 98 = .ok (.aload_n 0, 1) := dko_42 (dk_t 3 98 [42, 182, 0, 111, 167, 0, 7, 42, 182, 0, 114] dwX5_advance_95 rfl rfl)
theorem dX5_advance_99 : decode cX5_advance 99 = .ok (.invokevirtual 111, 3) := dko_182 (dk_t 4 99 [182, 0, 111, 167, 0, 7, 42, 182, 0, 114] dwX5_advance_95 rfl rfl)
theorem dX5_advance_102 : decode cX5_advance 102 = .ok (.goto 7, 3) := dko_167 (dk_t 7 102 [167, 0, 7, 42, 182, 0, 114] dwX5_advance_95 rfl rfl)
theorem dX5_advance_105 : decode cX5_advance 105 = .ok (.aload_n 0, 1) := dko_42 (dk_t 10 105 [42, 182, 0, 114] dwX5_advance_95 rfl rfl)
theorem dX5_advance_106 : decode cX5_advance 106 = .ok (.invokevirtual 114, 3) := dko_182 (dk_t 11 106 [182, 0, 114] dwX5_advance_95 rfl rfl)
theorem dwX5_advance_109 : dkW cX5_advance 109 [177] = true := by decide +kernel
theorem dX5_advance_109 : decode cX5_advance 109 = .ok (.return_, 1) := dko_177 dwX5_advance_109
theorem dwX5_advanceWord_0 : dkW cX5_advanceWord 0 [42, 4, 181, 0, 75, 42, 180, 0, 19, 42, 180, 0, 9] = true := by decide +kernel
theorem dX5_advanceWord_0 : decode cX5_advanceWord 0 = .ok (.aload_n 0, 1) := dko_42 dwX5_advanceWord_0
theorem dX5_advanceWord_1 : decode cX5_advanceWord 1 = .ok (.iconst 1, 1) := dko_4 (dk_t 1 1 [4, 181, 0, 75, 42, 180, 0, 19, 42, 180, 0, 9] dwX5_advanceWord_0 rfl rfl)
theorem dX5_advanceWord_2 : decode cX5_advanceWord 2 = .ok (.putfield 75, 3) := dko_181 (dk_t 2 2 [181, 0, 75, 42, 180, 0, 19, 42, 180, 0, 9] dwX5_advanceWord_0 rfl rfl)
theorem dX5_advanceWord_5 : decode cX5_advanceWord 5 = .ok (.aload_n 0, 1) := dko_42 (dk_t 5 5 [42, 180, 0, 19, 42, 180, 0, 9] dwX5_advanceWord_0 rfl rfl)
theorem dX5_advanceWord_6 : decode cX5_advanceWord 6 = .ok (.getfield 19, 3) := dko_180 (dk_t 6 6 [180, 0, 19, 42, 180, 0, 9] dwX5_advanceWord_0 rfl rfl)
theorem dX5_advanceWord_9 : decode cX5_advanceWord 9 = .ok (.aload_n 0, 1) := dko_42 (dk_t 9 9 [42, 180, 0, 9] dwX5_advanceWord_0 rfl rfl)
theorem dX5_advanceWord_10 : decode cX5_advanceWord 10 = .ok (.getfield 9, 3) := dko_180 (dk_t 10 10 [180, 0, 9] dwX5_advanceWord_0 rfl rfl)
theorem dwX5_advanceWord_13 : dkW cX5_advanceWord 13 [182, 0, 106, 162, 0, 33, 42, 180, 0, 9, 42, 180, 0, 19] = true := by decide +kernel
theorem dX5_advanceWord_13 : decode cX5_advanceWord 13 = .ok (.invokevirtual 106, 3) := dko_182 dwX5_advanceWord_13
theorem dX5_advanceWord_16 : decode cX5_advanceWord 16 = .ok (.if_icmp .ge 33, 3) := dko_162 (dk_t 3 16 [162, 0, 33, 42, 180, 0, 9, 42, 180, 0, 19] dwX5_advanceWord_13 rfl rfl)
theorem dX5_advanceWord_19 : decode cX5_advanceWord 19 = .ok (.aload_n 0, 1) := dko_42 (dk_t 6 19 [42, 180, 0, 9, 42, 180, 0, 19] dwX5_advanceWord_13 rfl rfl)
theorem dX5_advanceWord_20 : decode cX5_advanceWord 20 = .ok (.getfield 9, 3) := dko_180 (dk_t 7 20 [180, 0, 9, 42, 180, 0, 19] dwX5_advanceWord_13 rfl rfl)
theorem dX5_advanceWord_23 : decode cX5_advanceWord 23 = .ok (.aload_n 0, 1) := dko_42 (dk_t 10 23 [42, 180, 0, 19] dwX5_advanceWord_13 rfl rfl)
theorem dX5_advanceWord_24 : decode cX5_advanceWord 24 = .ok (.getfield 19, 3) := dko_180 (dk_t 11 24 [180, 0, 19] dwX5_advanceWord_13 rfl rfl)
theorem dwX5_advanceWord_27 : dkW cX5_advanceWord 27 [182, 0, 97, 184, 0, 107, 153, 0, 16, 42, 89, 180, 0, 19] = true := by decide +kernel
theorem dX5_advanceWord_27 : decode cX5_advanceWord 27 = .ok (.invokevirtual 97, 3) := dko_182 dwX5_advanceWord_27
theorem dX5_advanceWord_30 : decode cX5_advanceWord 30 = .ok (.invokestatic 107, 3) := dko_184 (dk_t 3 30 [184, 0, 107, 153, 0, 16, 42, 89, 180, 0, 19] dwX5_advanceWord_27 rfl rfl)
theorem dX5_advanceWord_33 : decode cX5_advanceWord 33 = .ok (.ifCond .eq 16, 3) := dko_153 (dk_t 6 33 [153, 0, 16, 42, 89, 180, 0, 19] dwX5_advanceWord_27 rfl rfl)
theorem dX5_advanceWord_36 : decode cX5_advanceWord 36 = .ok (.aload_n 0, 1) := dko_42 (dk_t 9 36 [42, 89, 180, 0, 19] dwX5_advanceWord_27 rfl rfl)
theorem dX5_advanceWord_37 : decode cX5_advanceWord 37 = .ok (.dup, 1) := dko_89 (dk_t 10 37 [89, 180, 0, 19] dwX5_advanceWord_27 rfl rfl)
theorem dX5_advanceWord_38 : decode cX5_advanceWord 38 = .ok (.getfield 19, 3) := dko_180 (dk_t 11 38 [180, 0, 19] dwX5_advanceWord_27 rfl rfl)
theorem dwX5_advanceWord_41 : dkW cX5_advanceWord 41 [4, 96, 181, 0, 19, 167, 255, 215, 177] = true := by decide +kernel
theorem dX5_advanceWord_41 : decode cX5_advanceWord 41 = .ok (.iconst 1, 1) := dko_4 dwX5_advanceWord_41
theorem dX5_advanceWord_42 : decode cX5_advanceWord 42 = .ok (.iadd, 1) := dko_96 (dk_t 1 42 [96, 181, 0, 19, 167, 255, 215, 177] dwX5_advanceWord_41 rfl rfl)
theorem dX5_advanceWord_43 : decode cX5_advanceWord 43 = .ok (.putfield 19, 3) := dko_181 (dk_t 2 43 [181, 0, 19, 167, 255, 215, 177] dwX5_advanceWord_41 rfl rfl)
theorem dX5_advanceWord_46 : decode cX5_advanceWord 46 = .ok (.goto (-41), 3) := dko_167 (dk_t 5 46 [167, 255, 215, 177] dwX5_advanceWord_41 rfl rfl)
theorem dX5_advanceWord_49 : decode cX5_advanceWord 49 = .ok (.return_, 1) := dko_177 (dk_t 8 49 [177] dwX5_advanceWord_41 rfl rfl)
theorem dwX5_advanceNumber_0 : dkW cX5_advanceNumber 0 [42, 180, 0, 9, 42, 180, 0, 78, 182, 0, 97, 16, 45] = true := by decide +kernel
theorem dX5_advanceNumber_0 : decode cX5_advanceNumber 0 = .ok (.aload_n 0, 1) := dko_42 dwX5_advanceNumber_0
theorem dX5_advanceNumber_1 : decode cX5_advanceNumber 1 = .ok (.getfield 9, 3) := dko_180 (dk_t 1 1 [180, 0, 9, 42, 180, 0, 78, 182, 0, 97, 16, 45] dwX5_advanceNumber_0 rfl rfl)
theorem dX5_advanceNumber_4 : decode cX5_advanceNumber 4 = .ok (.aload_n 0, 1) := dko_42 (dk_t 4 4 [42, 180, 0, 78, 182, 0, 97, 16, 45] dwX5_advanceNumber_0 rfl rfl)
theorem dX5_advanceNumber_5 : decode cX5_advanceNumber 5 = .ok (.getfield 78, 3) := dko_180 (dk_t 5 5 [180, 0, 78, 182, 0, 97, 16, 45] dwX5_advanceNumber_0 rfl rfl)
theorem dX5_advanceNumber_8 : decode cX5_advanceNumber 8 = .ok (.invokevirtual 97, 3) := dko_182 (dk_t 8 8 [182, 0, 97, 16, 45] dwX5_advanceNumber_0 rfl rfl)
theorem dX5_advanceNumber_11 : decode cX5_advanceNumber 11 = .ok (.bipush 45, 2) := dko_16 (dk_t 11 11 [16, 45] dwX5_advanceNumber_0 rfl rfl)
theorem dwX5_advanceNumber_13 : dkW cX5_advanceNumber 13 [160, 0, 7, 4, 167, 0, 4, 3, 60, 3, 61, 3, 62, 42] = true := by decide +kernel
theorem dX5_advanceNumber_13 : decode cX5_advanceNumber 13 = .ok (.if_icmp .ne 7, 3) := dko_160 dwX5_advanceNumber_13
theorem dX5_advanceNumber_16 : decode cX5_advanceNumber 16 = .ok (.iconst 1, 1) := dko_4 (dk_t 3 16 [4, 167, 0, 4, 3, 60, 3, 61, 3, 62, 42] dwX5_advanceNumber_13 rfl rfl)
theorem dX5_advanceNumber_17 : decode cX5_advanceNumber 17 = .ok (.goto 4, 3) := dko_167 (dk_t 4 17 [167, 0, 4, 3, 60, 3, 61, 3, 62, 42] dwX5_advanceNumber_13 rfl rfl)
theorem dX5_advanceNumber_20 : decode cX5_advanceNumber 20 = .ok (.iconst 0, 1) := dko_3 (dk_t 7 20 [3, 60, 3, 61, 3, 62, 42] dwX5_advanceNumber_13 rfl rfl)
theorem dX5_advanceNumber_21 : decode cX5_advanceNumber 21 = .ok (.istore_n 1, 1) := dko_60 (dk_t 8 21 [60, 3, 61, 3, 62, 42] dwX5_advanceNumber_13 rfl rfl)
theorem dX5_advanceNumber_22 : decode cX5_advanceNumber 22 = .ok (.iconst 0, 1) := dko_3 (dk_t 9 22 [3, 61, 3, 62, 42] dwX5_advanceNumber_13 rfl rfl)
theorem dX5_advanceNumber_23 : decode cX5_advanceNumber 23 = .ok (.istore_n 2, 1) := dko_61 (dk_t 10 23 [61, 3, 62, 42] dwX5_advanceNumber_13 rfl rfl)
theorem dX5_advanceNumber_24 : decode cX5_advanceNumber 24 = .ok (.iconst 0, 1) := dko_3 (dk_t 11 24 [3, 62, 42] dwX5_advanceNumber_13 rfl rfl)
theorem dX5_advanceNumber_25 : decode cX5_advanceNumber 25 = .ok (.istore_n 3, 1) := dko_62 (dk_t 12 25 [62, 42] dwX5_advanceNumber_13 rfl rfl)
theorem dX5_advanceNumber_26 : decode cX5_advanceNumber 26 = .ok (.aload_n 0, 1) := dko_42 (dk_t 13 26 [42] dwX5_advanceNumber_13 rfl rfl)
theorem dwX5_advanceNumber_27 : dkW cX5_advanceNumber 27 [27, 153, 0, 12, 42, 180, 0, 78, 4, 96, 167, 0, 7, 42] = true := by decide +kernel
theorem dX5_advanceNumber_27 : decode cX5_advanceNumber 27 = .ok (.iload_n 1, 1) := dko_27 dwX5_advanceNumber_27
theorem dX5_advanceNumber_28 : decode cX5_advanceNumber 28 = .ok (.ifCond .eq 12, 3) := dko_153 (dk_t 1 28 [153, 0, 12, 42, 180, 0, 78, 4, 96, 167, 0, 7, 42] dwX5_advanceNumber_27 rfl rfl)
theorem dX5_advanceNumber_31 : decode cX5_advanceNumber 31 = .ok (.aload_n 0, 1) := dko_42 (dk_t 4 31 [42, 180, 0, 78, 4, 96, 167, 0, 7, 42] dwX5_advanceNumber_27 rfl rfl)
theorem dX5_advanceNumber_32 : decode cX5_advanceNumber 32 = .ok (.getfield 78, 3) := dko_180 (dk_t 5 32 [180, 0, 78, 4, 96, 167, 0, 7, 42] dwX5_advanceNumber_27 rfl rfl)
theorem dX5_advanceNumber_35 : decode cX5_advanceNumber 35 = .ok (.iconst 1, 1) := dko_4 (dk_t 8 35 [4, 96, 167, 0, 7, 42] dwX5_advanceNumber_27 rfl rfl)
theorem dX5_advanceNumber_36 : decode cX5_advanceNumber 36 = .ok (.iadd, 1) := dko_96 (dk_t 9 36 [96, 167, 0, 7, 42] dwX5_advanceNumber_27 rfl rfl)
theorem dX5_advanceNumber_37 : decode cX5_advanceNumber 37 = .ok (.goto 7, 3) := dko_167 (dk_t 10 37 [167, 0, 7, 42] dwX5_advanceNumber_27 rfl rfl)
theorem dX5_advanceNumber_40 : decode cX5_advanceNumber 40 = .ok (.aload_n 0, 1) := dko_42 (dk_t 13 40 [42] dwX5_advanceNumber_27 rfl rfl)
theorem dwX5_advanceNumber_41 : dkW cX5_advanceNumber 41 [180, 0, 78, 181, 0, 19, 42, 180, 0, 19, 42, 180, 0, 9] = true := by decide +kernel
theorem dX5_advanceNumber_41 : decode cX5_advanceNumber 41 = .ok (.getfield 78, 3) := dko_180 dwX5_advanceNumber_41
theorem dX5_advanceNumber_44 : decode cX5_advanceNumber 44 = .ok (.putfield 19, 3) := dko_181 (dk_t 3 44 [181, 0, 19, 42, 180, 0, 19, 42, 180, 0, 9] dwX5_advanceNumber_41 rfl rfl)
theorem dX5_advanceNumber_47 : decode cX5_advanceNumber 47 = .ok (.aload_n 0, 1) := dko_42 (dk_t 6 47 [42, 180, 0, 19, 42, 180, 0, 9] dwX5_advanceNumber_41 rfl rfl)
theorem dX5_advanceNumber_48 : decode cX5_advanceNumber 48 = .ok (.getfield 19, 3) := dko_180 (dk_t 7 48 [180, 0, 19, 42, 180, 0, 9] dwX5_advanceNumber_41 rfl rfl)
theorem dX5_advanceNumber_51 : decode cX5_advanceNumber 51 = .ok (.aload_n 0, 1) := dko_42 (dk_t 10 51 [42, 180, 0, 9] dwX5_advanceNumber_41 rfl rfl)
theorem dX5_advanceNumber_52 : decode cX5_advanceNumber 52 = .ok (.getfield 9, 3) := dko_180 (dk_t 11 52 [180, 0, 9] dwX5_advanceNumber_41 rfl rfl)
theorem dwX5_advanceNumber_55 : dkW cX5_advanceNumber 55 [182, 0, 106, 162, 0, 61, 42, 180, 0, 9, 42, 180, 0, 19] = true := by decide +kernel
theorem dX5_advanceNumber_55 : decode cX5_advanceNumber 55 = .ok (.invokevirtual 106, 3) := dko_182 dwX5_advanceNumber_55
theorem dX5_advanceNumber_58 : decode cX5_advanceNumber 58 = .ok (.if_icmp .ge 61, 3) := dko_162 (dk_t 3 58 [162, 0, 61, 42, 180, 0, 9, 42, 180, 0, 19] dwX5_advanceNumber_55 rfl rfl)
theorem dX5_advanceNumber_61 : decode cX5_advanceNumber 61 = .ok (.aload_n 0, 1) := dko_42 (dk_t 6 61 [42, 180, 0, 9, 42, 180, 0, 19] dwX5_advanceNumber_55 rfl rfl)
theorem dX5_advanceNumber_62 : decode cX5_advanceNumber 62 = .ok (.getfield 9, 3) := dko_180 (dk_t 7 62 [180, 0, 9, 42, 180, 0, 19] dwX5_advanceNumber_55 rfl rfl)
theorem dX5_advanceNumber_65 : decode cX5_advanceNumber 65 = .ok (.aload_n 0, 1) := dko_42 (dk_t 10 65 [42, 180, 0, 19] dwX5_advanceNumber_55 rfl rfl)
theorem dX5_advanceNumber_66 : decode cX5_advanceNumber 66 = .ok (.getfield 19, 3) := dko_180 (dk_t 11 66 [180, 0, 19] dwX5_advanceNumber_55 rfl rfl)
theorem dwX5_advanceNumber_69 : dkW cX5_advanceNumber 69 [182, 0, 97, 184, 0, 117, 153, 0, 44, 29, 7, 162, 0, 23] = true := by decide +kernel
theorem dX5_advanceNumber_69 : decode cX5_advanceNumber 69 = .ok (.invokevirtual 97, 3) := dko_182 dwX5_advanceNumber_69
theorem dX5_advanceNumber_72 : decode cX5_advanceNumber 72 = .ok (.invokestatic 117, 3) := dko_184 (dk_t 3 72 [184, 0, 117, 153, 0, 44, 29, 7, 162, 0, 23] dwX5_advanceNumber_69 rfl rfl)
theorem dX5_advanceNumber_75 : decode cX5_advanceNumber 75 = .ok (.ifCond .eq 44, 3) := dko_153 (dk_t 6 75 [153, 0, 44, 29, 7, 162, 0, 23] dwX5_advanceNumber_69 rfl rfl)
theorem dX5_advanceNumber_78 : decode cX5_advanceNumber 78 = .ok (.iload_n 3, 1) := dko_29 (dk_t 9 78 [29, 7, 162, 0, 23] dwX5_advanceNumber_69 rfl rfl)
theorem dX5_advanceNumber_79 : decode cX5_advanceNumber 79 = .ok (.iconst 4, 1) := dko_7 (dk_t 10 79 [7, 162, 0, 23] dwX5_advanceNumber_69 rfl rfl)
theorem dX5_advanceNumber_80 : decode cX5_advanceNumber 80 = .ok (.if_icmp .ge 23, 3) := dko_162 (dk_t 11 80 [162, 0, 23] dwX5_advanceNumber_69 rfl rfl)
theorem dwX5_advanceNumber_83 : dkW cX5_advanceNumber 83 [28, 16, 10, 104, 42, 180, 0, 9, 42, 180, 0, 19] = true := by decide +kernel
theorem dX5_advanceNumber_83 : decode cX5_advanceNumber 83 = .ok (.iload_n 2, 1) := dko_28 dwX5_advanceNumber_83
theorem dX5_advanceNumber_84 : decode cX5_advanceNumber 84 = .ok (.bipush 10, 2) := dko_16 (dk_t 1 84 [16, 10, 104, 42, 180, 0, 9, 42, 180, 0, 19] dwX5_advanceNumber_83 rfl rfl)
theorem dX5_advanceNumber_86 : decode cX5_advanceNumber 86 = .ok (.imul, 1) := dko_104 (dk_t 3 86 [104, 42, 180, 0, 9, 42, 180, 0, 19] dwX5_advanceNumber_83 rfl rfl)
theorem dX5_advanceNumber_87 : decode cX5_advanceNumber 87 = .ok (.aload_n 0, 1) := dko_42 (dk_t 4 87 [42, 180, 0, 9, 42, 180, 0, 19] dwX5_advanceNumber_83 rfl rfl)
theorem dX5_advanceNumber_88 : decode cX5_advanceNumber 88 = .ok (.getfield 9, 3) := dko_180 (dk_t 5 88 [180, 0, 9, 42, 180, 0, 19] dwX5_advanceNumber_83 rfl rfl)
theorem dX5_advanceNumber_91 : decode cX5_advanceNumber 91 = .ok (.aload_n 0, 1) := dko_42 (dk_t 8 91 [42, 180, 0, 19] dwX5_advanceNumber_83 rfl rfl)
theorem dX5_advanceNumber_92 : decode cX5_advanceNumber 92 = .ok (.getfield 19, 3) := dko_180 (dk_t 9 92 [180, 0, 19] dwX5_advanceNumber_83 rfl rfl)
theorem dwX5_advanceNumber_95 : dkW cX5_advanceNumber 95 [182, 0, 97, 16, 48, 100, 96, 61, 132, 3, 1, 42, 89] = true := by decide +kernel
theorem dX5_advanceNumber_95 : decode cX5_advanceNumber 95 = .ok (.invokevirtual 97, 3) := dko_182 dwX5_advanceNumber_95
theorem dX5_advanceNumber_98 : decode cX5_advanceNumber 98 = .ok (.bipush 48, 2) := dko_16 (dk_t 3 98 [16, 48, 100, 96, 61, 132, 3, 1, 42, 89] dwX5_advanceNumber_95 rfl rfl)
theorem dX5_advanceNumber_100 : decode cX5_advanceNumber 100 = .ok (.isub, 1) := dko_100 (dk_t 5 100 [100, 96, 61, 132, 3, 1, 42, 89] dwX5_advanceNumber_95 rfl rfl)
theorem dX5_advanceNumber_101 : decode cX5_advanceNumber 101 = .ok (.iadd, 1) := dko_96 (dk_t 6 101 [96, 61, 132, 3, 1, 42, 89] dwX5_advanceNumber_95 rfl rfl)
theorem dX5_advanceNumber_102 : decode cX5_advanceNumber 102 = .ok (.istore_n 2, 1) := dko_61 (dk_t 7 102 [61, 132, 3, 1, 42, 89] dwX5_advanceNumber_95 rfl rfl)
theorem dX5_advanceNumber_103 : decode cX5_advanceNumber 103 = .ok (.iinc 3 1, 3) := dko_132 (dk_t 8 103 [132, 3, 1, 42, 89] dwX5_advanceNumber_95 rfl rfl)
theorem dX5_advanceNumber_106 : decode cX5_advanceNumber 106 = .ok (.aload_n 0, 1) := dko_42 (dk_t 11 106 [42, 89] dwX5_advanceNumber_95 rfl rfl)
theorem dX5_advanceNumber_107 : decode cX5_advanceNumber 107 = .ok (.dup, 1) := dko_89 (dk_t 12 107 [89] dwX5_advanceNumber_95 rfl rfl)
theorem dwX5_advanceNumber_108 : dkW cX5_advanceNumber 108 [180, 0, 19, 4, 96, 181, 0, 19, 167, 255, 187, 42, 29, 4] = true := by decide +kernel
theorem dX5_advanceNumber_108 : decode cX5_advanceNumber 108 = .ok (.getfield 19, 3) := dko_180 dwX5_advanceNumber_108
theorem dX5_advanceNumber_111 : decode cX5_advanceNumber 111 = .ok (.iconst 1, 1) := dko_4 (dk_t 3 111 [4, 96, 181, 0, 19, 167, 255, 187, 42, 29, 4] dwX5_advanceNumber_108 rfl rfl)
theorem dX5_advanceNumber_112 : decode cX5_advanceNumber 112 = .ok (.iadd, 1) := dko_96 (dk_t 4 112 [96, 181, 0, 19, 167, 255, 187, 42, 29, 4] dwX5_advanceNumber_108 rfl rfl)
theorem dX5_advanceNumber_113 : decode cX5_advanceNumber 113 = .ok (.putfield 19, 3) := dko_181 (dk_t 5 113 [181, 0, 19, 167, 255, 187, 42, 29, 4] dwX5_advanceNumber_108 rfl rfl)
theorem dX5_advanceNumber_116 : decode cX5_advanceNumber 116 = .ok (.goto (-69), 3) := dko_167 (dk_t 8 116 [167, 255, 187, 42, 29, 4] dwX5_advanceNumber_108 rfl rfl)
theorem dX5_advanceNumber_119 : decode cX5_advanceNumber 119 = .ok (.aload_n 0, 1) := dko_42 (dk_t 11 119 [42, 29, 4] dwX5_advanceNumber_108 rfl rfl)
theorem dX5_advanceNumber_120 : decode cX5_advanceNumber 120 = .ok (.iload_n 3, 1) := dko_29 (dk_t 12 120 [29, 4] dwX5_advanceNumber_108 rfl rfl)
theorem dX5_advanceNumber_121 : decode cX5_advanceNumber 121 = .ok (.iconst 1, 1) := dko_4 (dk_t 13 121 [4] dwX5_advanceNumber_108 rfl rfl)
theorem dwX5_advanceNumber_122 : dkW cX5_advanceNumber 122 [161, 0, 12, 29, 7, 163, 0, 7, 5, 167, 0, 4, 6] = true := by decide +kernel
theorem dX5_advanceNumber_122 : decode cX5_advanceNumber 122 = .ok (.if_icmp .lt 12, 3) := dko_161 dwX5_advanceNumber_122
theorem dX5_advanceNumber_125 : decode cX5_advanceNumber 125 = .ok (.iload_n 3, 1) := dko_29 (dk_t 3 125 [29, 7, 163, 0, 7, 5, 167, 0, 4, 6] dwX5_advanceNumber_122 rfl rfl)
theorem dX5_advanceNumber_126 : decode cX5_advanceNumber 126 = .ok (.iconst 4, 1) := dko_7 (dk_t 4 126 [7, 163, 0, 7, 5, 167, 0, 4, 6] dwX5_advanceNumber_122 rfl rfl)
theorem dX5_advanceNumber_127 : decode cX5_advanceNumber 127 = .ok (.if_icmp .gt 7, 3) := dko_163 (dk_t 5 127 [163, 0, 7, 5, 167, 0, 4, 6] dwX5_advanceNumber_122 rfl rfl)
theorem dX5_advanceNumber_130 : decode cX5_advanceNumber 130 = .ok (.iconst 2, 1) := dko_5 (dk_t 8 130 [5, 167, 0, 4, 6] dwX5_advanceNumber_122 rfl rfl)
theorem dX5_advanceNumber_131 : decode cX5_advanceNumber 131 = .ok (.goto 4, 3) := dko_167 (dk_t 9 131 [167, 0, 4, 6] dwX5_advanceNumber_122 rfl rfl)
theorem dX5_advanceNumber_134 : decode cX5_advanceNumber 134 = .ok (.iconst 3, 1) := dko_6 (dk_t 12 134 [6] dwX5_advanceNumber_122 rfl rfl)
theorem dwX5_advanceNumber_135 : dkW cX5_advanceNumber 135 [181, 0, 75, 42, 27, 153, 0, 8, 28, 116, 167, 0, 4, 28] = true := by decide +kernel
theorem dX5_advanceNumber_135 : decode cX5_advanceNumber 135 = .ok (.putfield 75, 3) := dko_181 dwX5_advanceNumber_135
theorem dX5_advanceNumber_138 : decode cX5_advanceNumber 138 = .ok (.aload_n 0, 1) := dko_42 (dk_t 3 138 [42, 27, 153, 0, 8, 28, 116, 167, 0, 4, 28] dwX5_advanceNumber_135 rfl rfl)
theorem dX5_advanceNumber_139 : decode cX5_advanceNumber 139 = .ok (.iload_n 1, 1) := dko_27 (dk_t 4 139 [27, 153, 0, 8, 28, 116, 167, 0, 4, 28] dwX5_advanceNumber_135 rfl rfl)
theorem dX5_advanceNumber_140 : decode cX5_advanceNumber 140 = .ok (.ifCond .eq 8, 3) := dko_153 (dk_t 5 140 [153, 0, 8, 28, 116, 167, 0, 4, 28] dwX5_advanceNumber_135 rfl rfl)
theorem dX5_advanceNumber_143 : decode cX5_advanceNumber 143 = .ok (.iload_n 2, 1) := dko_28 (dk_t 8 143 [28, 116, 167, 0, 4, 28] dwX5_advanceNumber_135 rfl rfl)
theorem dX5_advanceNumber_144 : decode cX5_advanceNumber 144 = .ok (.ineg, 1) := dko_116 (dk_t 9 144 [116, 167, 0, 4, 28] dwX5_advanceNumber_135 rfl rfl)
theorem dX5_advanceNumber_145 : decode cX5_advanceNumber 145 = .ok (.goto 4, 3) := dko_167 (dk_t 10 145 [167, 0, 4, 28] dwX5_advanceNumber_135 rfl rfl)
theorem dX5_advanceNumber_148 : decode cX5_advanceNumber 148 = .ok (.iload_n 2, 1) := dko_28 (dk_t 13 148 [28] dwX5_advanceNumber_135 rfl rfl)
theorem dwX5_advanceNumber_149 : dkW cX5_advanceNumber 149 [181, 0, 89, 177] = true := by decide +kernel
theorem dX5_advanceNumber_149 : decode cX5_advanceNumber 149 = .ok (.putfield 89, 3) := dko_181 dwX5_advanceNumber_149
theorem dX5_advanceNumber_152 : decode cX5_advanceNumber 152 = .ok (.return_, 1) := dko_177 (dk_t 3 152 [177] dwX5_advanceNumber_149 rfl rfl)
theorem dwX5_isLetter_0 : dkW cX5_isLetter 0 [26, 16, 97, 161, 0, 13, 26, 16, 122, 163, 0, 7, 4] = true := by decide +kernel
theorem dX5_isLetter_0 : decode cX5_isLetter 0 = .ok (.iload_n 0, 1) := dko_26 dwX5_isLetter_0
theorem dX5_isLetter_1 : decode cX5_isLetter 1 = .ok (.bipush 97, 2) := dko_16 (dk_t 1 1 [16, 97, 161, 0, 13, 26, 16, 122, 163, 0, 7, 4] dwX5_isLetter_0 rfl rfl)
theorem dX5_isLetter_3 : decode cX5_isLetter 3 = .ok (.if_icmp .lt 13, 3) := dko_161 (dk_t 3 3 [161, 0, 13, 26, 16, 122, 163, 0, 7, 4] dwX5_isLetter_0 rfl rfl)
theorem dX5_isLetter_6 : decode cX5_isLetter 6 = .ok (.iload_n 0, 1) := dko_26 (dk_t 6 6 [26, 16, 122, 163, 0, 7, 4] dwX5_isLetter_0 rfl rfl)
theorem dX5_isLetter_7 : decode cX5_isLetter 7 = .ok (.bipush 122, 2) := dko_16 (dk_t 7 7 [16, 122, 163, 0, 7, 4] dwX5_isLetter_0 rfl rfl)
theorem dX5_isLetter_9 : decode cX5_isLetter 9 = .ok (.if_icmp .gt 7, 3) := dko_163 (dk_t 9 9 [163, 0, 7, 4] dwX5_isLetter_0 rfl rfl)
theorem dX5_isLetter_12 : decode cX5_isLetter 12 = .ok (.iconst 1, 1) := dko_4 (dk_t 12 12 [4] dwX5_isLetter_0 rfl rfl)
theorem dwX5_isLetter_13 : dkW cX5_isLetter 13 [167, 0, 4, 3, 172] = true := by decide +kernel
theorem dX5_isLetter_13 : decode cX5_isLetter 13 = .ok (.goto 4, 3) := dko_167 dwX5_isLetter_13
theorem dX5_isLetter_16 : decode cX5_isLetter 16 = .ok (.iconst 0, 1) := dko_3 (dk_t 3 16 [3, 172] dwX5_isLetter_13 rfl rfl)
theorem dX5_isLetter_17 : decode cX5_isLetter 17 = .ok (.ireturn, 1) := dko_172 (dk_t 4 17 [172] dwX5_isLetter_13 rfl rfl)
theorem dwX5_isDigit_0 : dkW cX5_isDigit 0 [26, 16, 48, 161, 0, 13, 26, 16, 57, 163, 0, 7, 4] = true := by decide +kernel
theorem dX5_isDigit_0 : decode cX5_isDigit 0 = .ok (.iload_n 0, 1) := dko_26 dwX5_isDigit_0
theorem dX5_isDigit_1 : decode cX5_isDigit 1 = .ok (.bipush 48, 2) := dko_16 (dk_t 1 1 [16, 48, 161, 0, 13, 26, 16, 57, 163, 0, 7, 4] dwX5_isDigit_0 rfl rfl)
theorem dX5_isDigit_3 : decode cX5_isDigit 3 = .ok (.if_icmp .lt 13, 3) := dko_161 (dk_t 3 3 [161, 0, 13, 26, 16, 57, 163, 0, 7, 4] dwX5_isDigit_0 rfl rfl)
theorem dX5_isDigit_6 : decode cX5_isDigit 6 = .ok (.iload_n 0, 1) := dko_26 (dk_t 6 6 [26, 16, 57, 163, 0, 7, 4] dwX5_isDigit_0 rfl rfl)
theorem dX5_isDigit_7 : decode cX5_isDigit 7 = .ok (.bipush 57, 2) := dko_16 (dk_t 7 7 [16, 57, 163, 0, 7, 4] dwX5_isDigit_0 rfl rfl)
theorem dX5_isDigit_9 : decode cX5_isDigit 9 = .ok (.if_icmp .gt 7, 3) := dko_163 (dk_t 9 9 [163, 0, 7, 4] dwX5_isDigit_0 rfl rfl)
theorem dX5_isDigit_12 : decode cX5_isDigit 12 = .ok (.iconst 1, 1) := dko_4 (dk_t 12 12 [4] dwX5_isDigit_0 rfl rfl)
theorem dwX5_isDigit_13 : dkW cX5_isDigit 13 [167, 0, 4, 3, 172] = true := by decide +kernel
theorem dX5_isDigit_13 : decode cX5_isDigit 13 = .ok (.goto 4, 3) := dko_167 dwX5_isDigit_13
theorem dX5_isDigit_16 : decode cX5_isDigit 16 = .ok (.iconst 0, 1) := dko_3 (dk_t 3 16 [3, 172] dwX5_isDigit_13 rfl rfl)
theorem dX5_isDigit_17 : decode cX5_isDigit 17 = .ok (.ireturn, 1) := dko_172 (dk_t 4 17 [172] dwX5_isDigit_13 rfl rfl)
theorem dwX6_init_0 : dkW cX6_init 0 [42, 183, 0, 3, 42, 17, 1, 14, 188, 10, 181, 0, 9, 42] = true := by decide +kernel
theorem dX6_init_0 : decode cX6_init 0 = .ok (.aload_n 0, 1) := dko_42 dwX6_init_0
theorem dX6_init_1 : decode cX6_init 1 = .ok (.invokespecial 3, 3) := dko_183 (dk_t 1 1 [183, 0, 3, 42, 17, 1, 14, 188, 10, 181, 0, 9, 42] dwX6_init_0 rfl rfl)
theorem dX6_init_4 : decode cX6_init 4 = .ok (.aload_n 0, 1) := dko_42 (dk_t 4 4 [42, 17, 1, 14, 188, 10, 181, 0, 9, 42] dwX6_init_0 rfl rfl)
theorem dX6_init_5 : decode cX6_init 5 = .ok (.sipush 270, 3) := dko_17 (dk_t 5 5 [17, 1, 14, 188, 10, 181, 0, 9, 42] dwX6_init_0 rfl rfl)
theorem dX6_init_8 : decode cX6_init 8 = .ok (.newarray .int, 2) := dko_188_10 (dk_t 8 8 [188, 10, 181, 0, 9, 42] dwX6_init_0 rfl rfl)
theorem dX6_init_10 : decode cX6_init 10 = .ok (.putfield 9, 3) := dko_181 (dk_t 10 10 [181, 0, 9, 42] dwX6_init_0 rfl rfl)
theorem dX6_init_13 : decode cX6_init 13 = .ok (.aload_n 0, 1) := dko_42 (dk_t 13 13 [42] dwX6_init_0 rfl rfl)
theorem dwX6_init_14 : dkW cX6_init 14 [6, 188, 10, 181, 0, 15, 3, 60, 27, 42, 180, 0, 9, 190] = true := by decide +kernel
theorem dX6_init_14 : decode cX6_init 14 = .ok (.iconst 3, 1) := dko_6 dwX6_init_14
theorem dX6_init_15 : decode cX6_init 15 = .ok (.newarray .int, 2) := dko_188_10 (dk_t 1 15 [188, 10, 181, 0, 15, 3, 60, 27, 42, 180, 0, 9, 190] dwX6_init_14 rfl rfl)
theorem dX6_init_17 : decode cX6_init 17 = .ok (.putfield 15, 3) := dko_181 (dk_t 3 17 [181, 0, 15, 3, 60, 27, 42, 180, 0, 9, 190] dwX6_init_14 rfl rfl)
theorem dX6_init_20 : decode cX6_init 20 = .ok (.iconst 0, 1) := dko_3 (dk_t 6 20 [3, 60, 27, 42, 180, 0, 9, 190] dwX6_init_14 rfl rfl)
theorem dX6_init_21 : decode cX6_init 21 = .ok (.istore_n 1, 1) := dko_60 (dk_t 7 21 [60, 27, 42, 180, 0, 9, 190] dwX6_init_14 rfl rfl)
theorem dX6_init_22 : decode cX6_init 22 = .ok (.iload_n 1, 1) := dko_27 (dk_t 8 22 [27, 42, 180, 0, 9, 190] dwX6_init_14 rfl rfl)
theorem dX6_init_23 : decode cX6_init 23 = .ok (.aload_n 0, 1) := dko_42 (dk_t 9 23 [42, 180, 0, 9, 190] dwX6_init_14 rfl rfl)
theorem dX6_init_24 : decode cX6_init 24 = .ok (.getfield 9, 3) := dko_180 (dk_t 10 24 [180, 0, 9, 190] dwX6_init_14 rfl rfl)
theorem dX6_init_27 : decode cX6_init 27 = .ok (.arraylength, 1) := dko_190 (dk_t 13 27 [190] dwX6_init_14 rfl rfl)
theorem dwX6_init_28 : dkW cX6_init 28 [162, 0, 18, 42, 180, 0, 9, 27, 17, 248, 48, 79] = true := by decide +kernel
theorem dX6_init_28 : decode cX6_init 28 = .ok (.if_icmp .ge 18, 3) := dko_162 dwX6_init_28
theorem dX6_init_31 : decode cX6_init 31 = .ok (.aload_n 0, 1) := dko_42 (dk_t 3 31 [42, 180, 0, 9, 27, 17, 248, 48, 79] dwX6_init_28 rfl rfl)
theorem dX6_init_32 : decode cX6_init 32 = .ok (.getfield 9, 3) := dko_180 (dk_t 4 32 [180, 0, 9, 27, 17, 248, 48, 79] dwX6_init_28 rfl rfl)
theorem dX6_init_35 : decode cX6_init 35 = .ok (.iload_n 1, 1) := dko_27 (dk_t 7 35 [27, 17, 248, 48, 79] dwX6_init_28 rfl rfl)
theorem dX6_init_36 : decode cX6_init 36 = .ok (.sipush (-2000), 3) := dko_17 (dk_t 8 36 [17, 248, 48, 79] dwX6_init_28 rfl rfl)
theorem dX6_init_39 : decode cX6_init 39 = .ok (.iastore, 1) := dko_79 (dk_t 11 39 [79] dwX6_init_28 rfl rfl)
theorem dwX6_init_40 : dkW cX6_init 40 [132, 1, 1, 167, 255, 235, 177] = true := by decide +kernel
theorem dX6_init_40 : decode cX6_init 40 = .ok (.iinc 1 1, 3) := dko_132 dwX6_init_40
theorem dX6_init_43 : decode cX6_init 43 = .ok (.goto (-21), 3) := dko_167 (dk_t 3 43 [167, 255, 235, 177] dwX6_init_40 rfl rfl)
theorem dX6_init_46 : decode cX6_init 46 = .ok (.return_, 1) := dko_177 (dk_t 6 46 [177] dwX6_init_40 rfl rfl)
theorem dwX6_copy_0 : dkW cX6_copy 0 [43, 180, 0, 9, 3, 42, 180, 0, 9, 3, 17, 1, 14] = true := by decide +kernel
theorem dX6_copy_0 : decode cX6_copy 0 = .ok (.aload_n 1, 1) := dko_43 dwX6_copy_0
theorem dX6_copy_1 : decode cX6_copy 1 = .ok (.getfield 9, 3) := dko_180 (dk_t 1 1 [180, 0, 9, 3, 42, 180, 0, 9, 3, 17, 1, 14] dwX6_copy_0 rfl rfl)
theorem dX6_copy_4 : decode cX6_copy 4 = .ok (.iconst 0, 1) := dko_3 (dk_t 4 4 [3, 42, 180, 0, 9, 3, 17, 1, 14] dwX6_copy_0 rfl rfl)
theorem dX6_copy_5 : decode cX6_copy 5 = .ok (.aload_n 0, 1) := dko_42 (dk_t 5 5 [42, 180, 0, 9, 3, 17, 1, 14] dwX6_copy_0 rfl rfl)
theorem dX6_copy_6 : decode cX6_copy 6 = .ok (.getfield 9, 3) := dko_180 (dk_t 6 6 [180, 0, 9, 3, 17, 1, 14] dwX6_copy_0 rfl rfl)
theorem dX6_copy_9 : decode cX6_copy 9 = .ok (.iconst 0, 1) := dko_3 (dk_t 9 9 [3, 17, 1, 14] dwX6_copy_0 rfl rfl)
theorem dX6_copy_10 : decode cX6_copy 10 = .ok (.sipush 270, 3) := dko_17 (dk_t 10 10 [17, 1, 14] dwX6_copy_0 rfl rfl)
theorem dwX6_copy_13 : dkW cX6_copy 13 [184, 0, 18, 43, 180, 0, 15, 3, 42, 180, 0, 15, 3, 6] = true := by decide +kernel
theorem dX6_copy_13 : decode cX6_copy 13 = .ok (.invokestatic 18, 3) := dko_184 dwX6_copy_13
theorem dX6_copy_16 : decode cX6_copy 16 = .ok (.aload_n 1, 1) := dko_43 (dk_t 3 16 [43, 180, 0, 15, 3, 42, 180, 0, 15, 3, 6] dwX6_copy_13 rfl rfl)
theorem dX6_copy_17 : decode cX6_copy 17 = .ok (.getfield 15, 3) := dko_180 (dk_t 4 17 [180, 0, 15, 3, 42, 180, 0, 15, 3, 6] dwX6_copy_13 rfl rfl)
theorem dX6_copy_20 : decode cX6_copy 20 = .ok (.iconst 0, 1) := dko_3 (dk_t 7 20 [3, 42, 180, 0, 15, 3, 6] dwX6_copy_13 rfl rfl)
theorem dX6_copy_21 : decode cX6_copy 21 = .ok (.aload_n 0, 1) := dko_42 (dk_t 8 21 [42, 180, 0, 15, 3, 6] dwX6_copy_13 rfl rfl)
theorem dX6_copy_22 : decode cX6_copy 22 = .ok (.getfield 15, 3) := dko_180 (dk_t 9 22 [180, 0, 15, 3, 6] dwX6_copy_13 rfl rfl)
theorem dX6_copy_25 : decode cX6_copy 25 = .ok (.iconst 0, 1) := dko_3 (dk_t 12 25 [3, 6] dwX6_copy_13 rfl rfl)
theorem dX6_copy_26 : decode cX6_copy 26 = .ok (.iconst 3, 1) := dko_6 (dk_t 13 26 [6] dwX6_copy_13 rfl rfl)
theorem dwX6_copy_27 : dkW cX6_copy 27 [184, 0, 18, 177] = true := by decide +kernel
theorem dX6_copy_27 : decode cX6_copy 27 = .ok (.invokestatic 18, 3) := dko_184 dwX6_copy_27
theorem dX6_copy_30 : decode cX6_copy 30 = .ok (.return_, 1) := dko_177 (dk_t 3 30 [177] dwX6_copy_27 rfl rfl)
theorem dwX6_has_0 : dkW cX6_has 0 [27, 184, 0, 24, 153, 0, 27, 28, 184, 0, 28, 153, 0, 20] = true := by decide +kernel
theorem dX6_has_0 : decode cX6_has 0 = .ok (.iload_n 1, 1) := dko_27 dwX6_has_0
theorem dX6_has_1 : decode cX6_has 1 = .ok (.invokestatic 24, 3) := dko_184 (dk_t 1 1 [184, 0, 24, 153, 0, 27, 28, 184, 0, 28, 153, 0, 20] dwX6_has_0 rfl rfl)
theorem dX6_has_4 : decode cX6_has 4 = .ok (.ifCond .eq 27, 3) := dko_153 (dk_t 4 4 [153, 0, 27, 28, 184, 0, 28, 153, 0, 20] dwX6_has_0 rfl rfl)
theorem dX6_has_7 : decode cX6_has 7 = .ok (.iload_n 2, 1) := dko_28 (dk_t 7 7 [28, 184, 0, 28, 153, 0, 20] dwX6_has_0 rfl rfl)
theorem dX6_has_8 : decode cX6_has 8 = .ok (.invokestatic 28, 3) := dko_184 (dk_t 8 8 [184, 0, 28, 153, 0, 20] dwX6_has_0 rfl rfl)
theorem dX6_has_11 : decode cX6_has 11 = .ok (.ifCond .eq 20, 3) := dko_153 (dk_t 11 11 [153, 0, 20] dwX6_has_0 rfl rfl)
theorem dwX6_has_14 : dkW cX6_has 14 [42, 180, 0, 15, 27, 46, 28, 122, 4, 126, 153, 0, 7, 4] = true := by decide +kernel
theorem dX6_has_14 : decode cX6_has 14 = .ok (.aload_n 0, 1) := dko_42 dwX6_has_14
theorem dX6_has_15 : decode cX6_has 15 = .ok (.getfield 15, 3) := dko_180 (dk_t 1 15 [180, 0, 15, 27, 46, 28, 122, 4, 126, 153, 0, 7, 4] dwX6_has_14 rfl rfl)
theorem dX6_has_18 : decode cX6_has 18 = .ok (.iload_n 1, 1) := dko_27 (dk_t 4 18 [27, 46, 28, 122, 4, 126, 153, 0, 7, 4] dwX6_has_14 rfl rfl)
theorem dX6_has_19 : decode cX6_has 19 = .ok (.iaload, 1) := dko_46 (dk_t 5 19 [46, 28, 122, 4, 126, 153, 0, 7, 4] dwX6_has_14 rfl rfl)
theorem dX6_has_20 : decode cX6_has 20 = .ok (.iload_n 2, 1) := dko_28 (dk_t 6 20 [28, 122, 4, 126, 153, 0, 7, 4] dwX6_has_14 rfl rfl)
theorem dX6_has_21 : decode cX6_has 21 = .ok (.ishr, 1) := dko_122 (dk_t 7 21 [122, 4, 126, 153, 0, 7, 4] dwX6_has_14 rfl rfl)
theorem dX6_has_22 : decode cX6_has 22 = .ok (.iconst 1, 1) := dko_4 (dk_t 8 22 [4, 126, 153, 0, 7, 4] dwX6_has_14 rfl rfl)
theorem dX6_has_23 : decode cX6_has 23 = .ok (.iand, 1) := dko_126 (dk_t 9 23 [126, 153, 0, 7, 4] dwX6_has_14 rfl rfl)
theorem dX6_has_24 : decode cX6_has 24 = .ok (.ifCond .eq 7, 3) := dko_153 (dk_t 10 24 [153, 0, 7, 4] dwX6_has_14 rfl rfl)
theorem dX6_has_27 : decode cX6_has 27 = .ok (.iconst 1, 1) := dko_4 (dk_t 13 27 [4] dwX6_has_14 rfl rfl)
theorem dwX6_has_28 : dkW cX6_has 28 [167, 0, 4, 3, 172] = true := by decide +kernel
theorem dX6_has_28 : decode cX6_has 28 = .ok (.goto 4, 3) := dko_167 dwX6_has_28
theorem dX6_has_31 : decode cX6_has 31 = .ok (.iconst 0, 1) := dko_3 (dk_t 3 31 [3, 172] dwX6_has_28 rfl rfl)
theorem dX6_has_32 : decode cX6_has 32 = .ok (.ireturn, 1) := dko_172 (dk_t 4 32 [172] dwX6_has_28 rfl rfl)
theorem dwX6_cell_0 : dkW cX6_cell 0 [27, 184, 0, 24, 153, 0, 32, 28, 184, 0, 28, 153, 0, 25] = true := by decide +kernel
theorem dX6_cell_0 : decode cX6_cell 0 = .ok (.iload_n 1, 1) := dko_27 dwX6_cell_0
theorem dX6_cell_1 : decode cX6_cell 1 = .ok (.invokestatic 24, 3) := dko_184 (dk_t 1 1 [184, 0, 24, 153, 0, 32, 28, 184, 0, 28, 153, 0, 25] dwX6_cell_0 rfl rfl)
theorem dX6_cell_4 : decode cX6_cell 4 = .ok (.ifCond .eq 32, 3) := dko_153 (dk_t 4 4 [153, 0, 32, 28, 184, 0, 28, 153, 0, 25] dwX6_cell_0 rfl rfl)
theorem dX6_cell_7 : decode cX6_cell 7 = .ok (.iload_n 2, 1) := dko_28 (dk_t 7 7 [28, 184, 0, 28, 153, 0, 25] dwX6_cell_0 rfl rfl)
theorem dX6_cell_8 : decode cX6_cell 8 = .ok (.invokestatic 28, 3) := dko_184 (dk_t 8 8 [184, 0, 28, 153, 0, 25] dwX6_cell_0 rfl rfl)
theorem dX6_cell_11 : decode cX6_cell 11 = .ok (.ifCond .eq 25, 3) := dko_153 (dk_t 11 11 [153, 0, 25] dwX6_cell_0 rfl rfl)
theorem dwX6_cell_14 : dkW cX6_cell 14 [29, 184, 0, 31, 153, 0, 18, 42, 180, 0, 9, 27, 29] = true := by decide +kernel
theorem dX6_cell_14 : decode cX6_cell 14 = .ok (.iload_n 3, 1) := dko_29 dwX6_cell_14
theorem dX6_cell_15 : decode cX6_cell 15 = .ok (.invokestatic 31, 3) := dko_184 (dk_t 1 15 [184, 0, 31, 153, 0, 18, 42, 180, 0, 9, 27, 29] dwX6_cell_14 rfl rfl)
theorem dX6_cell_18 : decode cX6_cell 18 = .ok (.ifCond .eq 18, 3) := dko_153 (dk_t 4 18 [153, 0, 18, 42, 180, 0, 9, 27, 29] dwX6_cell_14 rfl rfl)
theorem dX6_cell_21 : decode cX6_cell 21 = .ok (.aload_n 0, 1) := dko_42 (dk_t 7 21 [42, 180, 0, 9, 27, 29] dwX6_cell_14 rfl rfl)
theorem dX6_cell_22 : decode cX6_cell 22 = .ok (.getfield 9, 3) := dko_180 (dk_t 8 22 [180, 0, 9, 27, 29] dwX6_cell_14 rfl rfl)
theorem dX6_cell_25 : decode cX6_cell 25 = .ok (.iload_n 1, 1) := dko_27 (dk_t 11 25 [27, 29] dwX6_cell_14 rfl rfl)
theorem dX6_cell_26 : decode cX6_cell 26 = .ok (.iload_n 3, 1) := dko_29 (dk_t 12 26 [29] dwX6_cell_14 rfl rfl)
theorem dwX6_cell_27 : dkW cX6_cell 27 [184, 0, 34, 28, 96, 46, 167, 0, 6, 17, 248, 48, 172] = true := by decide +kernel
theorem dX6_cell_27 : decode cX6_cell 27 = .ok (.invokestatic 34, 3) := dko_184 dwX6_cell_27
theorem dX6_cell_30 : decode cX6_cell 30 = .ok (.iload_n 2, 1) := dko_28 (dk_t 3 30 [28, 96, 46, 167, 0, 6, 17, 248, 48, 172] dwX6_cell_27 rfl rfl)
theorem dX6_cell_31 : decode cX6_cell 31 = .ok (.iadd, 1) := dko_96 (dk_t 4 31 [96, 46, 167, 0, 6, 17, 248, 48, 172] dwX6_cell_27 rfl rfl)
theorem dX6_cell_32 : decode cX6_cell 32 = .ok (.iaload, 1) := dko_46 (dk_t 5 32 [46, 167, 0, 6, 17, 248, 48, 172] dwX6_cell_27 rfl rfl)
theorem dX6_cell_33 : decode cX6_cell 33 = .ok (.goto 6, 3) := dko_167 (dk_t 6 33 [167, 0, 6, 17, 248, 48, 172] dwX6_cell_27 rfl rfl)
theorem dX6_cell_36 : decode cX6_cell 36 = .ok (.sipush (-2000), 3) := dko_17 (dk_t 9 36 [17, 248, 48, 172] dwX6_cell_27 rfl rfl)
theorem dX6_cell_39 : decode cX6_cell 39 = .ok (.ireturn, 1) := dko_172 (dk_t 12 39 [172] dwX6_cell_27 rfl rfl)
theorem dwX6_keyBits_0 : dkW cX6_keyBits 0 [27, 184, 0, 24, 153, 0, 12, 42, 180, 0, 15, 27, 46] = true := by decide +kernel
theorem dX6_keyBits_0 : decode cX6_keyBits 0 = .ok (.iload_n 1, 1) := dko_27 dwX6_keyBits_0
theorem dX6_keyBits_1 : decode cX6_keyBits 1 = .ok (.invokestatic 24, 3) := dko_184 (dk_t 1 1 [184, 0, 24, 153, 0, 12, 42, 180, 0, 15, 27, 46] dwX6_keyBits_0 rfl rfl)
theorem dX6_keyBits_4 : decode cX6_keyBits 4 = .ok (.ifCond .eq 12, 3) := dko_153 (dk_t 4 4 [153, 0, 12, 42, 180, 0, 15, 27, 46] dwX6_keyBits_0 rfl rfl)
theorem dX6_keyBits_7 : decode cX6_keyBits 7 = .ok (.aload_n 0, 1) := dko_42 (dk_t 7 7 [42, 180, 0, 15, 27, 46] dwX6_keyBits_0 rfl rfl)
theorem dX6_keyBits_8 : decode cX6_keyBits 8 = .ok (.getfield 15, 3) := dko_180 (dk_t 8 8 [180, 0, 15, 27, 46] dwX6_keyBits_0 rfl rfl)
theorem dX6_keyBits_11 : decode cX6_keyBits 11 = .ok (.iload_n 1, 1) := dko_27 (dk_t 11 11 [27, 46] dwX6_keyBits_0 rfl rfl)
theorem dX6_keyBits_12 : decode cX6_keyBits 12 = .ok (.iaload, 1) := dko_46 (dk_t 12 12 [46] dwX6_keyBits_0 rfl rfl)
theorem dwX6_keyBits_13 : dkW cX6_keyBits 13 [167, 0, 4, 3, 172] = true := by decide +kernel
theorem dX6_keyBits_13 : decode cX6_keyBits 13 = .ok (.goto 4, 3) := dko_167 dwX6_keyBits_13
theorem dX6_keyBits_16 : decode cX6_keyBits 16 = .ok (.iconst 0, 1) := dko_3 (dk_t 3 16 [3, 172] dwX6_keyBits_13 rfl rfl)
theorem dX6_keyBits_17 : decode cX6_keyBits 17 = .ok (.ireturn, 1) := dko_172 (dk_t 4 17 [172] dwX6_keyBits_13 rfl rfl)
theorem dwX6_size_0 : dkW cX6_size 0 [42, 27, 182, 0, 38, 184, 0, 42, 172] = true := by decide +kernel
theorem dX6_size_0 : decode cX6_size 0 = .ok (.aload_n 0, 1) := dko_42 dwX6_size_0
theorem dX6_size_1 : decode cX6_size 1 = .ok (.iload_n 1, 1) := dko_27 (dk_t 1 1 [27, 182, 0, 38, 184, 0, 42, 172] dwX6_size_0 rfl rfl)
theorem dX6_size_2 : decode cX6_size 2 = .ok (.invokevirtual 38, 3) := dko_182 (dk_t 2 2 [182, 0, 38, 184, 0, 42, 172] dwX6_size_0 rfl rfl)
theorem dX6_size_5 : decode cX6_size 5 = .ok (.invokestatic 42, 3) := dko_184 (dk_t 5 5 [184, 0, 42, 172] dwX6_size_0 rfl rfl)
theorem dX6_size_8 : decode cX6_size 8 = .ok (.ireturn, 1) := dko_172 (dk_t 8 8 [172] dwX6_size_0 rfl rfl)
theorem dwX6_total_0 : dkW cX6_total 0 [3, 60, 3, 61, 28, 6, 162, 0, 17, 27, 42, 28] = true := by decide +kernel
theorem dX6_total_0 : decode cX6_total 0 = .ok (.iconst 0, 1) := dko_3 dwX6_total_0
theorem dX6_total_1 : decode cX6_total 1 = .ok (.istore_n 1, 1) := dko_60 (dk_t 1 1 [60, 3, 61, 28, 6, 162, 0, 17, 27, 42, 28] dwX6_total_0 rfl rfl)
theorem dX6_total_2 : decode cX6_total 2 = .ok (.iconst 0, 1) := dko_3 (dk_t 2 2 [3, 61, 28, 6, 162, 0, 17, 27, 42, 28] dwX6_total_0 rfl rfl)
theorem dX6_total_3 : decode cX6_total 3 = .ok (.istore_n 2, 1) := dko_61 (dk_t 3 3 [61, 28, 6, 162, 0, 17, 27, 42, 28] dwX6_total_0 rfl rfl)
theorem dX6_total_4 : decode cX6_total 4 = .ok (.iload_n 2, 1) := dko_28 (dk_t 4 4 [28, 6, 162, 0, 17, 27, 42, 28] dwX6_total_0 rfl rfl)
theorem dX6_total_5 : decode cX6_total 5 = .ok (.iconst 3, 1) := dko_6 (dk_t 5 5 [6, 162, 0, 17, 27, 42, 28] dwX6_total_0 rfl rfl)
theorem dX6_total_6 : decode cX6_total 6 = .ok (.if_icmp .ge 17, 3) := dko_162 (dk_t 6 6 [162, 0, 17, 27, 42, 28] dwX6_total_0 rfl rfl)
theorem dX6_total_9 : decode cX6_total 9 = .ok (.iload_n 1, 1) := dko_27 (dk_t 9 9 [27, 42, 28] dwX6_total_0 rfl rfl)
theorem dX6_total_10 : decode cX6_total 10 = .ok (.aload_n 0, 1) := dko_42 (dk_t 10 10 [42, 28] dwX6_total_0 rfl rfl)
theorem dX6_total_11 : decode cX6_total 11 = .ok (.iload_n 2, 1) := dko_28 (dk_t 11 11 [28] dwX6_total_0 rfl rfl)
theorem dwX6_total_12 : dkW cX6_total 12 [182, 0, 47, 96, 60, 132, 2, 1, 167, 255, 240, 27, 172] = true := by decide +kernel
theorem dX6_total_12 : decode cX6_total 12 = .ok (.invokevirtual 47, 3) := dko_182 dwX6_total_12
theorem dX6_total_15 : decode cX6_total 15 = .ok (.iadd, 1) := dko_96 (dk_t 3 15 [96, 60, 132, 2, 1, 167, 255, 240, 27, 172] dwX6_total_12 rfl rfl)
theorem dX6_total_16 : decode cX6_total 16 = .ok (.istore_n 1, 1) := dko_60 (dk_t 4 16 [60, 132, 2, 1, 167, 255, 240, 27, 172] dwX6_total_12 rfl rfl)
theorem dX6_total_17 : decode cX6_total 17 = .ok (.iinc 2 1, 3) := dko_132 (dk_t 5 17 [132, 2, 1, 167, 255, 240, 27, 172] dwX6_total_12 rfl rfl)
theorem dX6_total_20 : decode cX6_total 20 = .ok (.goto (-16), 3) := dko_167 (dk_t 8 20 [167, 255, 240, 27, 172] dwX6_total_12 rfl rfl)
theorem dX6_total_23 : decode cX6_total 23 = .ok (.iload_n 1, 1) := dko_27 (dk_t 11 23 [27, 172] dwX6_total_12 rfl rfl)
theorem dX6_total_24 : decode cX6_total 24 = .ok (.ireturn, 1) := dko_172 (dk_t 12 24 [172] dwX6_total_12 rfl rfl)
theorem dwX6_add_0 : dkW cX6_add 0 [27, 184, 0, 24, 153, 0, 31, 28, 184, 0, 28, 153, 0, 24] = true := by decide +kernel
theorem dX6_add_0 : decode cX6_add 0 = .ok (.iload_n 1, 1) := dko_27 dwX6_add_0
theorem dX6_add_1 : decode cX6_add 1 = .ok (.invokestatic 24, 3) := dko_184 (dk_t 1 1 [184, 0, 24, 153, 0, 31, 28, 184, 0, 28, 153, 0, 24] dwX6_add_0 rfl rfl)
theorem dX6_add_4 : decode cX6_add 4 = .ok (.ifCond .eq 31, 3) := dko_153 (dk_t 4 4 [153, 0, 31, 28, 184, 0, 28, 153, 0, 24] dwX6_add_0 rfl rfl)
theorem dX6_add_7 : decode cX6_add 7 = .ok (.iload_n 2, 1) := dko_28 (dk_t 7 7 [28, 184, 0, 28, 153, 0, 24] dwX6_add_0 rfl rfl)
theorem dX6_add_8 : decode cX6_add 8 = .ok (.invokestatic 28, 3) := dko_184 (dk_t 8 8 [184, 0, 28, 153, 0, 24] dwX6_add_0 rfl rfl)
theorem dX6_add_11 : decode cX6_add 11 = .ok (.ifCond .eq 24, 3) := dko_153 (dk_t 11 11 [153, 0, 24] dwX6_add_0 rfl rfl)
theorem dwX6_add_14 : dkW cX6_add 14 [42, 180, 0, 15, 27, 92, 46, 4, 28, 120, 128, 79, 42, 27] = true := by decide +kernel
theorem dX6_add_14 : decode cX6_add 14 = .ok (.aload_n 0, 1) := dko_42 dwX6_add_14
theorem dX6_add_15 : decode cX6_add 15 = .ok (.getfield 15, 3) := dko_180 (dk_t 1 15 [180, 0, 15, 27, 92, 46, 4, 28, 120, 128, 79, 42, 27] dwX6_add_14 rfl rfl)
theorem dX6_add_18 : decode cX6_add 18 = .ok (.iload_n 1, 1) := dko_27 (dk_t 4 18 [27, 92, 46, 4, 28, 120, 128, 79, 42, 27] dwX6_add_14 rfl rfl)
theorem dX6_add_19 : decode cX6_add 19 = .ok (.dup2, 1) := dko_92 (dk_t 5 19 [92, 46, 4, 28, 120, 128, 79, 42, 27] dwX6_add_14 rfl rfl)
theorem dX6_add_20 : decode cX6_add 20 = .ok (.iaload, 1) := dko_46 (dk_t 6 20 [46, 4, 28, 120, 128, 79, 42, 27] dwX6_add_14 rfl rfl)
theorem dX6_add_21 : decode cX6_add 21 = .ok (.iconst 1, 1) := dko_4 (dk_t 7 21 [4, 28, 120, 128, 79, 42, 27] dwX6_add_14 rfl rfl)
theorem dX6_add_22 : decode cX6_add 22 = .ok (.iload_n 2, 1) := dko_28 (dk_t 8 22 [28, 120, 128, 79, 42, 27] dwX6_add_14 rfl rfl)
theorem dX6_add_23 : decode cX6_add 23 = .ok (.ishl, 1) := dko_120 (dk_t 9 23 [120, 128, 79, 42, 27] dwX6_add_14 rfl rfl)
theorem dX6_add_24 : decode cX6_add 24 = .ok (.ior, 1) := dko_128 (dk_t 10 24 [128, 79, 42, 27] dwX6_add_14 rfl rfl)
theorem dX6_add_25 : decode cX6_add 25 = .ok (.iastore, 1) := dko_79 (dk_t 11 25 [79, 42, 27] dwX6_add_14 rfl rfl)
theorem dX6_add_26 : decode cX6_add 26 = .ok (.aload_n 0, 1) := dko_42 (dk_t 12 26 [42, 27] dwX6_add_14 rfl rfl)
theorem dX6_add_27 : decode cX6_add 27 = .ok (.iload_n 1, 1) := dko_27 (dk_t 13 27 [27] dwX6_add_14 rfl rfl)
theorem dwX6_add_28 : dkW cX6_add 28 [28, 17, 252, 24, 182, 0, 50, 177] = true := by decide +kernel
theorem dX6_add_28 : decode cX6_add 28 = .ok (.iload_n 2, 1) := dko_28 dwX6_add_28
theorem dX6_add_29 : decode cX6_add 29 = .ok (.sipush (-1000), 3) := dko_17 (dk_t 1 29 [17, 252, 24, 182, 0, 50, 177] dwX6_add_28 rfl rfl)
theorem dX6_add_32 : decode cX6_add 32 = .ok (.invokevirtual 50, 3) := dko_182 (dk_t 4 32 [182, 0, 50, 177] dwX6_add_28 rfl rfl)
theorem dX6_add_35 : decode cX6_add 35 = .ok (.return_, 1) := dko_177 (dk_t 7 35 [177] dwX6_add_28 rfl rfl)
theorem dwX6_remove_0 : dkW cX6_remove 0 [27, 184, 0, 24, 153, 0, 33, 28, 184, 0, 28, 153, 0, 26] = true := by decide +kernel
theorem dX6_remove_0 : decode cX6_remove 0 = .ok (.iload_n 1, 1) := dko_27 dwX6_remove_0
theorem dX6_remove_1 : decode cX6_remove 1 = .ok (.invokestatic 24, 3) := dko_184 (dk_t 1 1 [184, 0, 24, 153, 0, 33, 28, 184, 0, 28, 153, 0, 26] dwX6_remove_0 rfl rfl)
theorem dX6_remove_4 : decode cX6_remove 4 = .ok (.ifCond .eq 33, 3) := dko_153 (dk_t 4 4 [153, 0, 33, 28, 184, 0, 28, 153, 0, 26] dwX6_remove_0 rfl rfl)
theorem dX6_remove_7 : decode cX6_remove 7 = .ok (.iload_n 2, 1) := dko_28 (dk_t 7 7 [28, 184, 0, 28, 153, 0, 26] dwX6_remove_0 rfl rfl)
theorem dX6_remove_8 : decode cX6_remove 8 = .ok (.invokestatic 28, 3) := dko_184 (dk_t 8 8 [184, 0, 28, 153, 0, 26] dwX6_remove_0 rfl rfl)
theorem dX6_remove_11 : decode cX6_remove 11 = .ok (.ifCond .eq 26, 3) := dko_153 (dk_t 11 11 [153, 0, 26] dwX6_remove_0 rfl rfl)
theorem dwX6_remove_14 : dkW cX6_remove 14 [42, 180, 0, 15, 27, 92, 46, 4, 28, 120, 2, 130, 126, 79] = true := by decide +kernel
theorem dX6_remove_14 : decode cX6_remove 14 = .ok (.aload_n 0, 1) := dko_42 dwX6_remove_14
theorem dX6_remove_15 : decode cX6_remove 15 = .ok (.getfield 15, 3) := dko_180 (dk_t 1 15 [180, 0, 15, 27, 92, 46, 4, 28, 120, 2, 130, 126, 79] dwX6_remove_14 rfl rfl)
theorem dX6_remove_18 : decode cX6_remove 18 = .ok (.iload_n 1, 1) := dko_27 (dk_t 4 18 [27, 92, 46, 4, 28, 120, 2, 130, 126, 79] dwX6_remove_14 rfl rfl)
theorem dX6_remove_19 : decode cX6_remove 19 = .ok (.dup2, 1) := dko_92 (dk_t 5 19 [92, 46, 4, 28, 120, 2, 130, 126, 79] dwX6_remove_14 rfl rfl)
theorem dX6_remove_20 : decode cX6_remove 20 = .ok (.iaload, 1) := dko_46 (dk_t 6 20 [46, 4, 28, 120, 2, 130, 126, 79] dwX6_remove_14 rfl rfl)
theorem dX6_remove_21 : decode cX6_remove 21 = .ok (.iconst 1, 1) := dko_4 (dk_t 7 21 [4, 28, 120, 2, 130, 126, 79] dwX6_remove_14 rfl rfl)
theorem dX6_remove_22 : decode cX6_remove 22 = .ok (.iload_n 2, 1) := dko_28 (dk_t 8 22 [28, 120, 2, 130, 126, 79] dwX6_remove_14 rfl rfl)
theorem dX6_remove_23 : decode cX6_remove 23 = .ok (.ishl, 1) := dko_120 (dk_t 9 23 [120, 2, 130, 126, 79] dwX6_remove_14 rfl rfl)
theorem dX6_remove_24 : decode cX6_remove 24 = .ok (.iconst (-1), 1) := dko_2 (dk_t 10 24 [2, 130, 126, 79] dwX6_remove_14 rfl rfl)
theorem dX6_remove_25 : decode cX6_remove 25 = .ok (.ixor, 1) := dko_130 (dk_t 11 25 [130, 126, 79] dwX6_remove_14 rfl rfl)
theorem dX6_remove_26 : decode cX6_remove 26 = .ok (.iand, 1) := dko_126 (dk_t 12 26 [126, 79] dwX6_remove_14 rfl rfl)
theorem dX6_remove_27 : decode cX6_remove 27 = .ok (.iastore, 1) := dko_79 (dk_t 13 27 [79] dwX6_remove_14 rfl rfl)
theorem dwX6_remove_28 : dkW cX6_remove 28 [42, 27, 28, 17, 248, 48, 182, 0, 50, 177] = true := by decide +kernel
theorem dX6_remove_28 : decode cX6_remove 28 = .ok (.aload_n 0, 1) := dko_42 dwX6_remove_28
theorem dX6_remove_29 : decode cX6_remove 29 = .ok (.iload_n 1, 1) := dko_27 (dk_t 1 29 [27, 28, 17, 248, 48, 182, 0, 50, 177] dwX6_remove_28 rfl rfl)
theorem dX6_remove_30 : decode cX6_remove 30 = .ok (.iload_n 2, 1) := dko_28 (dk_t 2 30 [28, 17, 248, 48, 182, 0, 50, 177] dwX6_remove_28 rfl rfl)
theorem dX6_remove_31 : decode cX6_remove 31 = .ok (.sipush (-2000), 3) := dko_17 (dk_t 3 31 [17, 248, 48, 182, 0, 50, 177] dwX6_remove_28 rfl rfl)
theorem dX6_remove_34 : decode cX6_remove 34 = .ok (.invokevirtual 50, 3) := dko_182 (dk_t 6 34 [182, 0, 50, 177] dwX6_remove_28 rfl rfl)
theorem dX6_remove_37 : decode cX6_remove 37 = .ok (.return_, 1) := dko_177 (dk_t 9 37 [177] dwX6_remove_28 rfl rfl)
theorem dwX6_change_0 : dkW cX6_change 0 [42, 27, 28, 182, 0, 54, 153, 0, 24, 29, 184, 0, 31] = true := by decide +kernel
theorem dX6_change_0 : decode cX6_change 0 = .ok (.aload_n 0, 1) := dko_42 dwX6_change_0
theorem dX6_change_1 : decode cX6_change 1 = .ok (.iload_n 1, 1) := dko_27 (dk_t 1 1 [27, 28, 182, 0, 54, 153, 0, 24, 29, 184, 0, 31] dwX6_change_0 rfl rfl)
theorem dX6_change_2 : decode cX6_change 2 = .ok (.iload_n 2, 1) := dko_28 (dk_t 2 2 [28, 182, 0, 54, 153, 0, 24, 29, 184, 0, 31] dwX6_change_0 rfl rfl)
theorem dX6_change_3 : decode cX6_change 3 = .ok (.invokevirtual 54, 3) := dko_182 (dk_t 3 3 [182, 0, 54, 153, 0, 24, 29, 184, 0, 31] dwX6_change_0 rfl rfl)
theorem dX6_change_6 : decode cX6_change 6 = .ok (.ifCond .eq 24, 3) := dko_153 (dk_t 6 6 [153, 0, 24, 29, 184, 0, 31] dwX6_change_0 rfl rfl)
theorem dX6_change_9 : decode cX6_change 9 = .ok (.iload_n 3, 1) := dko_29 (dk_t 9 9 [29, 184, 0, 31] dwX6_change_0 rfl rfl)
theorem dX6_change_10 : decode cX6_change 10 = .ok (.invokestatic 31, 3) := dko_184 (dk_t 10 10 [184, 0, 31] dwX6_change_0 rfl rfl)
theorem dwX6_change_13 : dkW cX6_change 13 [153, 0, 17, 42, 180, 0, 9, 27, 29, 184, 0, 34, 28, 96] = true := by decide +kernel
theorem dX6_change_13 : decode cX6_change 13 = .ok (.ifCond .eq 17, 3) := dko_153 dwX6_change_13
theorem dX6_change_16 : decode cX6_change 16 = .ok (.aload_n 0, 1) := dko_42 (dk_t 3 16 [42, 180, 0, 9, 27, 29, 184, 0, 34, 28, 96] dwX6_change_13 rfl rfl)
theorem dX6_change_17 : decode cX6_change 17 = .ok (.getfield 9, 3) := dko_180 (dk_t 4 17 [180, 0, 9, 27, 29, 184, 0, 34, 28, 96] dwX6_change_13 rfl rfl)
theorem dX6_change_20 : decode cX6_change 20 = .ok (.iload_n 1, 1) := dko_27 (dk_t 7 20 [27, 29, 184, 0, 34, 28, 96] dwX6_change_13 rfl rfl)
theorem dX6_change_21 : decode cX6_change 21 = .ok (.iload_n 3, 1) := dko_29 (dk_t 8 21 [29, 184, 0, 34, 28, 96] dwX6_change_13 rfl rfl)
theorem dX6_change_22 : decode cX6_change 22 = .ok (.invokestatic 34, 3) := dko_184 (dk_t 9 22 [184, 0, 34, 28, 96] dwX6_change_13 rfl rfl)
theorem dX6_change_25 : decode cX6_change 25 = .ok (.iload_n 2, 1) := dko_28 (dk_t 12 25 [28, 96] dwX6_change_13 rfl rfl)
theorem dX6_change_26 : decode cX6_change 26 = .ok (.iadd, 1) := dko_96 (dk_t 13 26 [96] dwX6_change_13 rfl rfl)
theorem dwX6_change_27 : dkW cX6_change 27 [21, 4, 79, 177] = true := by decide +kernel
theorem dX6_change_27 : decode cX6_change 27 = .ok (.iload 4, 2) := dko_21 dwX6_change_27
theorem dX6_change_29 : decode cX6_change 29 = .ok (.iastore, 1) := dko_79 (dk_t 2 29 [79, 177] dwX6_change_27 rfl rfl)
theorem dX6_change_30 : decode cX6_change 30 = .ok (.return_, 1) := dko_177 (dk_t 3 30 [177] dwX6_change_27 rfl rfl)
theorem dwX6_move_0 : dkW cX6_move 0 [42, 27, 28, 182, 0, 54, 153, 0, 15, 29, 184, 0, 28] = true := by decide +kernel
theorem dX6_move_0 : decode cX6_move 0 = .ok (.aload_n 0, 1) := dko_42 dwX6_move_0
theorem dX6_move_1 : decode cX6_move 1 = .ok (.iload_n 1, 1) := dko_27 (dk_t 1 1 [27, 28, 182, 0, 54, 153, 0, 15, 29, 184, 0, 28] dwX6_move_0 rfl rfl)
theorem dX6_move_2 : decode cX6_move 2 = .ok (.iload_n 2, 1) := dko_28 (dk_t 2 2 [28, 182, 0, 54, 153, 0, 15, 29, 184, 0, 28] dwX6_move_0 rfl rfl)
theorem dX6_move_3 : decode cX6_move 3 = .ok (.invokevirtual 54, 3) := dko_182 (dk_t 3 3 [182, 0, 54, 153, 0, 15, 29, 184, 0, 28] dwX6_move_0 rfl rfl)
theorem dX6_move_6 : decode cX6_move 6 = .ok (.ifCond .eq 15, 3) := dko_153 (dk_t 6 6 [153, 0, 15, 29, 184, 0, 28] dwX6_move_0 rfl rfl)
theorem dX6_move_9 : decode cX6_move 9 = .ok (.iload_n 3, 1) := dko_29 (dk_t 9 9 [29, 184, 0, 28] dwX6_move_0 rfl rfl)
theorem dX6_move_10 : decode cX6_move 10 = .ok (.invokestatic 28, 3) := dko_184 (dk_t 10 10 [184, 0, 28] dwX6_move_0 rfl rfl)
theorem dwX6_move_13 : dkW cX6_move 13 [153, 0, 8, 29, 28, 160, 0, 4, 177, 42, 27, 29] = true := by decide +kernel
theorem dX6_move_13 : decode cX6_move 13 = .ok (.ifCond .eq 8, 3) := dko_153 dwX6_move_13
theorem dX6_move_16 : decode cX6_move 16 = .ok (.iload_n 3, 1) := dko_29 (dk_t 3 16 [29, 28, 160, 0, 4, 177, 42, 27, 29] dwX6_move_13 rfl rfl)
theorem dX6_move_17 : decode cX6_move 17 = .ok (.iload_n 2, 1) := dko_28 (dk_t 4 17 [28, 160, 0, 4, 177, 42, 27, 29] dwX6_move_13 rfl rfl)
theorem dX6_move_18 : decode cX6_move 18 = .ok (.if_icmp .ne 4, 3) := dko_160 (dk_t 5 18 [160, 0, 4, 177, 42, 27, 29] dwX6_move_13 rfl rfl)
theorem dX6_move_21 : decode cX6_move 21 = .ok (.return_, 1) := dko_177 (dk_t 8 21 [177, 42, 27, 29] dwX6_move_13 rfl rfl)
theorem dX6_move_22 : decode cX6_move 22 = .ok (.aload_n 0, 1) := dko_42 (dk_t 9 22 [42, 27, 29] dwX6_move_13 rfl rfl)
theorem dX6_move_23 : decode cX6_move 23 = .ok (.iload_n 1, 1) := dko_27 (dk_t 10 23 [27, 29] dwX6_move_13 rfl rfl)
theorem dX6_move_24 : decode cX6_move 24 = .ok (.iload_n 3, 1) := dko_29 (dk_t 11 24 [29] dwX6_move_13 rfl rfl)
theorem dwX6_move_25 : dkW cX6_move 25 [182, 0, 58, 3, 54, 4, 21, 4, 6, 162, 0, 25, 42, 27] = true := by decide +kernel
theorem dX6_move_25 : decode cX6_move 25 = .ok (.invokevirtual 58, 3) := dko_182 dwX6_move_25
theorem dX6_move_28 : decode cX6_move 28 = .ok (.iconst 0, 1) := dko_3 (dk_t 3 28 [3, 54, 4, 21, 4, 6, 162, 0, 25, 42, 27] dwX6_move_25 rfl rfl)
theorem dX6_move_29 : decode cX6_move 29 = .ok (.istore 4, 2) := dko_54 (dk_t 4 29 [54, 4, 21, 4, 6, 162, 0, 25, 42, 27] dwX6_move_25 rfl rfl)
theorem dX6_move_31 : decode cX6_move 31 = .ok (.iload 4, 2) := dko_21 (dk_t 6 31 [21, 4, 6, 162, 0, 25, 42, 27] dwX6_move_25 rfl rfl)
theorem dX6_move_33 : decode cX6_move 33 = .ok (.iconst 3, 1) := dko_6 (dk_t 8 33 [6, 162, 0, 25, 42, 27] dwX6_move_25 rfl rfl)
theorem dX6_move_34 : decode cX6_move 34 = .ok (.if_icmp .ge 25, 3) := dko_162 (dk_t 9 34 [162, 0, 25, 42, 27] dwX6_move_25 rfl rfl)
theorem dX6_move_37 : decode cX6_move 37 = .ok (.aload_n 0, 1) := dko_42 (dk_t 12 37 [42, 27] dwX6_move_25 rfl rfl)
theorem dX6_move_38 : decode cX6_move 38 = .ok (.iload_n 1, 1) := dko_27 (dk_t 13 38 [27] dwX6_move_25 rfl rfl)
theorem dwX6_move_39 : dkW cX6_move 39 [29, 21, 4, 42, 27, 28, 21, 4, 182, 0, 62, 182, 0, 66] = true := by decide +kernel
theorem dX6_move_39 : decode cX6_move 39 = .ok (.iload_n 3, 1) := dko_29 dwX6_move_39
theorem dX6_move_40 : decode cX6_move 40 = .ok (.iload 4, 2) := dko_21 (dk_t 1 40 [21, 4, 42, 27, 28, 21, 4, 182, 0, 62, 182, 0, 66] dwX6_move_39 rfl rfl)
theorem dX6_move_42 : decode cX6_move 42 = .ok (.aload_n 0, 1) := dko_42 (dk_t 3 42 [42, 27, 28, 21, 4, 182, 0, 62, 182, 0, 66] dwX6_move_39 rfl rfl)
theorem dX6_move_43 : decode cX6_move 43 = .ok (.iload_n 1, 1) := dko_27 (dk_t 4 43 [27, 28, 21, 4, 182, 0, 62, 182, 0, 66] dwX6_move_39 rfl rfl)
theorem dX6_move_44 : decode cX6_move 44 = .ok (.iload_n 2, 1) := dko_28 (dk_t 5 44 [28, 21, 4, 182, 0, 62, 182, 0, 66] dwX6_move_39 rfl rfl)
theorem dX6_move_45 : decode cX6_move 45 = .ok (.iload 4, 2) := dko_21 (dk_t 6 45 [21, 4, 182, 0, 62, 182, 0, 66] dwX6_move_39 rfl rfl)
theorem dX6_move_47 : decode cX6_move 47 = .ok (.invokevirtual 62, 3) := dko_182 (dk_t 8 47 [182, 0, 62, 182, 0, 66] dwX6_move_39 rfl rfl)
theorem dX6_move_50 : decode cX6_move 50 = .ok (.invokevirtual 66, 3) := dko_182 (dk_t 11 50 [182, 0, 66] dwX6_move_39 rfl rfl)
theorem dwX6_move_53 : dkW cX6_move 53 [132, 4, 1, 167, 255, 231, 42, 27, 28, 182, 0, 70, 177] = true := by decide +kernel
theorem dX6_move_53 : decode cX6_move 53 = .ok (.iinc 4 1, 3) := dko_132 dwX6_move_53
theorem dX6_move_56 : decode cX6_move 56 = .ok (.goto (-25), 3) := dko_167 (dk_t 3 56 [167, 255, 231, 42, 27, 28, 182, 0, 70, 177] dwX6_move_53 rfl rfl)
theorem dX6_move_59 : decode cX6_move 59 = .ok (.aload_n 0, 1) := dko_42 (dk_t 6 59 [42, 27, 28, 182, 0, 70, 177] dwX6_move_53 rfl rfl)
theorem dX6_move_60 : decode cX6_move 60 = .ok (.iload_n 1, 1) := dko_27 (dk_t 7 60 [27, 28, 182, 0, 70, 177] dwX6_move_53 rfl rfl)
theorem dX6_move_61 : decode cX6_move 61 = .ok (.iload_n 2, 1) := dko_28 (dk_t 8 61 [28, 182, 0, 70, 177] dwX6_move_53 rfl rfl)
theorem dX6_move_62 : decode cX6_move 62 = .ok (.invokevirtual 70, 3) := dko_182 (dk_t 9 62 [182, 0, 70, 177] dwX6_move_53 rfl rfl)
theorem dX6_move_65 : decode cX6_move 65 = .ok (.return_, 1) := dko_177 (dk_t 12 65 [177] dwX6_move_53 rfl rfl)
theorem dwX6_having_0 : dkW cX6_having 0 [27, 184, 0, 24, 153, 0, 10, 28, 184, 0, 31, 154, 0, 5] = true := by decide +kernel
theorem dX6_having_0 : decode cX6_having 0 = .ok (.iload_n 1, 1) := dko_27 dwX6_having_0
theorem dX6_having_1 : decode cX6_having 1 = .ok (.invokestatic 24, 3) := dko_184 (dk_t 1 1 [184, 0, 24, 153, 0, 10, 28, 184, 0, 31, 154, 0, 5] dwX6_having_0 rfl rfl)
theorem dX6_having_4 : decode cX6_having 4 = .ok (.ifCond .eq 10, 3) := dko_153 (dk_t 4 4 [153, 0, 10, 28, 184, 0, 31, 154, 0, 5] dwX6_having_0 rfl rfl)
theorem dX6_having_7 : decode cX6_having 7 = .ok (.iload_n 2, 1) := dko_28 (dk_t 7 7 [28, 184, 0, 31, 154, 0, 5] dwX6_having_0 rfl rfl)
theorem dX6_having_8 : decode cX6_having 8 = .ok (.invokestatic 31, 3) := dko_184 (dk_t 8 8 [184, 0, 31, 154, 0, 5] dwX6_having_0 rfl rfl)
theorem dX6_having_11 : decode cX6_having 11 = .ok (.ifCond .ne 5, 3) := dko_154 (dk_t 11 11 [154, 0, 5] dwX6_having_0 rfl rfl)
theorem dwX6_having_14 : dkW cX6_having 14 [3, 172, 27, 28, 184, 0, 34, 54, 4, 3, 54, 5, 3] = true := by decide +kernel
theorem dX6_having_14 : decode cX6_having 14 = .ok (.iconst 0, 1) := dko_3 dwX6_having_14
theorem dX6_having_15 : decode cX6_having 15 = .ok (.ireturn, 1) := dko_172 (dk_t 1 15 [172, 27, 28, 184, 0, 34, 54, 4, 3, 54, 5, 3] dwX6_having_14 rfl rfl)
theorem dX6_having_16 : decode cX6_having 16 = .ok (.iload_n 1, 1) := dko_27 (dk_t 2 16 [27, 28, 184, 0, 34, 54, 4, 3, 54, 5, 3] dwX6_having_14 rfl rfl)
theorem dX6_having_17 : decode cX6_having 17 = .ok (.iload_n 2, 1) := dko_28 (dk_t 3 17 [28, 184, 0, 34, 54, 4, 3, 54, 5, 3] dwX6_having_14 rfl rfl)
theorem dX6_having_18 : decode cX6_having 18 = .ok (.invokestatic 34, 3) := dko_184 (dk_t 4 18 [184, 0, 34, 54, 4, 3, 54, 5, 3] dwX6_having_14 rfl rfl)
theorem dX6_having_21 : decode cX6_having 21 = .ok (.istore 4, 2) := dko_54 (dk_t 7 21 [54, 4, 3, 54, 5, 3] dwX6_having_14 rfl rfl)
theorem dX6_having_23 : decode cX6_having 23 = .ok (.iconst 0, 1) := dko_3 (dk_t 9 23 [3, 54, 5, 3] dwX6_having_14 rfl rfl)
theorem dX6_having_24 : decode cX6_having 24 = .ok (.istore 5, 2) := dko_54 (dk_t 10 24 [54, 5, 3] dwX6_having_14 rfl rfl)
theorem dX6_having_26 : decode cX6_having 26 = .ok (.iconst 0, 1) := dko_3 (dk_t 12 26 [3] dwX6_having_14 rfl rfl)
theorem dwX6_having_27 : dkW cX6_having 27 [54, 6, 21, 6, 16, 30, 162, 0, 26, 42, 180, 0, 9] = true := by decide +kernel
theorem dX6_having_27 : decode cX6_having 27 = .ok (.istore 6, 2) := dko_54 dwX6_having_27
theorem dX6_having_29 : decode cX6_having 29 = .ok (.iload 6, 2) := dko_21 (dk_t 2 29 [21, 6, 16, 30, 162, 0, 26, 42, 180, 0, 9] dwX6_having_27 rfl rfl)
theorem dX6_having_31 : decode cX6_having 31 = .ok (.bipush 30, 2) := dko_16 (dk_t 4 31 [16, 30, 162, 0, 26, 42, 180, 0, 9] dwX6_having_27 rfl rfl)
theorem dX6_having_33 : decode cX6_having 33 = .ok (.if_icmp .ge 26, 3) := dko_162 (dk_t 6 33 [162, 0, 26, 42, 180, 0, 9] dwX6_having_27 rfl rfl)
theorem dX6_having_36 : decode cX6_having 36 = .ok (.aload_n 0, 1) := dko_42 (dk_t 9 36 [42, 180, 0, 9] dwX6_having_27 rfl rfl)
theorem dX6_having_37 : decode cX6_having 37 = .ok (.getfield 9, 3) := dko_180 (dk_t 10 37 [180, 0, 9] dwX6_having_27 rfl rfl)
theorem dwX6_having_40 : dkW cX6_having 40 [21, 4, 21, 6, 96, 46, 29, 160, 0, 6, 132, 5, 1] = true := by decide +kernel
theorem dX6_having_40 : decode cX6_having 40 = .ok (.iload 4, 2) := dko_21 dwX6_having_40
theorem dX6_having_42 : decode cX6_having 42 = .ok (.iload 6, 2) := dko_21 (dk_t 2 42 [21, 6, 96, 46, 29, 160, 0, 6, 132, 5, 1] dwX6_having_40 rfl rfl)
theorem dX6_having_44 : decode cX6_having 44 = .ok (.iadd, 1) := dko_96 (dk_t 4 44 [96, 46, 29, 160, 0, 6, 132, 5, 1] dwX6_having_40 rfl rfl)
theorem dX6_having_45 : decode cX6_having 45 = .ok (.iaload, 1) := dko_46 (dk_t 5 45 [46, 29, 160, 0, 6, 132, 5, 1] dwX6_having_40 rfl rfl)
theorem dX6_having_46 : decode cX6_having 46 = .ok (.iload_n 3, 1) := dko_29 (dk_t 6 46 [29, 160, 0, 6, 132, 5, 1] dwX6_having_40 rfl rfl)
theorem dX6_having_47 : decode cX6_having 47 = .ok (.if_icmp .ne 6, 3) := dko_160 (dk_t 7 47 [160, 0, 6, 132, 5, 1] dwX6_having_40 rfl rfl)
theorem dX6_having_50 : decode cX6_having 50 = .ok (.iinc 5 1, 3) := dko_132 (dk_t 10 50 [132, 5, 1] dwX6_having_40 rfl rfl)
theorem dwX6_having_53 : dkW cX6_having 53 [132, 6, 1, 167, 255, 229, 21, 5, 172] = true := by decide +kernel
theorem dX6_having_53 : decode cX6_having 53 = .ok (.iinc 6 1, 3) := dko_132 dwX6_having_53
theorem dX6_having_56 : decode cX6_having 56 = .ok (.goto (-27), 3) := dko_167 (dk_t 3 56 [167, 255, 229, 21, 5, 172] dwX6_having_53 rfl rfl)
theorem dX6_having_59 : decode cX6_having 59 = .ok (.iload 5, 2) := dko_21 (dk_t 6 59 [21, 5, 172] dwX6_having_53 rfl rfl)
theorem dX6_having_61 : decode cX6_having 61 = .ok (.ireturn, 1) := dko_172 (dk_t 8 61 [172] dwX6_having_53 rfl rfl)
theorem dwX6_sumOf_0 : dkW cX6_sumOf 0 [27, 184, 0, 24, 153, 0, 18, 28, 184, 0, 31, 153, 0, 11] = true := by decide +kernel
theorem dX6_sumOf_0 : decode cX6_sumOf 0 = .ok (.iload_n 1, 1) := dko_27 dwX6_sumOf_0
theorem dX6_sumOf_1 : decode cX6_sumOf 1 = .ok (.invokestatic 24, 3) := dko_184 (dk_t 1 1 [184, 0, 24, 153, 0, 18, 28, 184, 0, 31, 153, 0, 11] dwX6_sumOf_0 rfl rfl)
theorem dX6_sumOf_4 : decode cX6_sumOf 4 = .ok (.ifCond .eq 18, 3) := dko_153 (dk_t 4 4 [153, 0, 18, 28, 184, 0, 31, 153, 0, 11] dwX6_sumOf_0 rfl rfl)
theorem dX6_sumOf_7 : decode cX6_sumOf 7 = .ok (.iload_n 2, 1) := dko_28 (dk_t 7 7 [28, 184, 0, 31, 153, 0, 11] dwX6_sumOf_0 rfl rfl)
theorem dX6_sumOf_8 : decode cX6_sumOf 8 = .ok (.invokestatic 31, 3) := dko_184 (dk_t 8 8 [184, 0, 31, 153, 0, 11] dwX6_sumOf_0 rfl rfl)
theorem dX6_sumOf_11 : decode cX6_sumOf 11 = .ok (.ifCond .eq 11, 3) := dko_153 (dk_t 11 11 [153, 0, 11] dwX6_sumOf_0 rfl rfl)
theorem dwX6_sumOf_14 : dkW cX6_sumOf 14 [21, 4, 184, 0, 31, 154, 0, 6, 18, 73, 172, 27, 28] = true := by decide +kernel
theorem dX6_sumOf_14 : decode cX6_sumOf 14 = .ok (.iload 4, 2) := dko_21 dwX6_sumOf_14
theorem dX6_sumOf_16 : decode cX6_sumOf 16 = .ok (.invokestatic 31, 3) := dko_184 (dk_t 2 16 [184, 0, 31, 154, 0, 6, 18, 73, 172, 27, 28] dwX6_sumOf_14 rfl rfl)
theorem dX6_sumOf_19 : decode cX6_sumOf 19 = .ok (.ifCond .ne 6, 3) := dko_154 (dk_t 5 19 [154, 0, 6, 18, 73, 172, 27, 28] dwX6_sumOf_14 rfl rfl)
theorem dX6_sumOf_22 : decode cX6_sumOf 22 = .ok (.ldc 73, 2) := dko_18 (dk_t 8 22 [18, 73, 172, 27, 28] dwX6_sumOf_14 rfl rfl)
theorem dX6_sumOf_24 : decode cX6_sumOf 24 = .ok (.ireturn, 1) := dko_172 (dk_t 10 24 [172, 27, 28] dwX6_sumOf_14 rfl rfl)
theorem dX6_sumOf_25 : decode cX6_sumOf 25 = .ok (.iload_n 1, 1) := dko_27 (dk_t 11 25 [27, 28] dwX6_sumOf_14 rfl rfl)
theorem dX6_sumOf_26 : decode cX6_sumOf 26 = .ok (.iload_n 2, 1) := dko_28 (dk_t 12 26 [28] dwX6_sumOf_14 rfl rfl)
theorem dwX6_sumOf_27 : dkW cX6_sumOf 27 [184, 0, 34, 54, 5, 27, 21, 4, 184, 0, 34, 54, 6, 3] = true := by decide +kernel
theorem dX6_sumOf_27 : decode cX6_sumOf 27 = .ok (.invokestatic 34, 3) := dko_184 dwX6_sumOf_27
theorem dX6_sumOf_30 : decode cX6_sumOf 30 = .ok (.istore 5, 2) := dko_54 (dk_t 3 30 [54, 5, 27, 21, 4, 184, 0, 34, 54, 6, 3] dwX6_sumOf_27 rfl rfl)
theorem dX6_sumOf_32 : decode cX6_sumOf 32 = .ok (.iload_n 1, 1) := dko_27 (dk_t 5 32 [27, 21, 4, 184, 0, 34, 54, 6, 3] dwX6_sumOf_27 rfl rfl)
theorem dX6_sumOf_33 : decode cX6_sumOf 33 = .ok (.iload 4, 2) := dko_21 (dk_t 6 33 [21, 4, 184, 0, 34, 54, 6, 3] dwX6_sumOf_27 rfl rfl)
theorem dX6_sumOf_35 : decode cX6_sumOf 35 = .ok (.invokestatic 34, 3) := dko_184 (dk_t 8 35 [184, 0, 34, 54, 6, 3] dwX6_sumOf_27 rfl rfl)
theorem dX6_sumOf_38 : decode cX6_sumOf 38 = .ok (.istore 6, 2) := dko_54 (dk_t 11 38 [54, 6, 3] dwX6_sumOf_27 rfl rfl)
theorem dX6_sumOf_40 : decode cX6_sumOf 40 = .ok (.iconst 0, 1) := dko_3 (dk_t 13 40 [3] dwX6_sumOf_27 rfl rfl)
theorem dwX6_sumOf_41 : dkW cX6_sumOf 41 [54, 7, 3, 54, 8, 3, 54, 9, 21, 9, 16, 30] = true := by decide +kernel
theorem dX6_sumOf_41 : decode cX6_sumOf 41 = .ok (.istore 7, 2) := dko_54 dwX6_sumOf_41
theorem dX6_sumOf_43 : decode cX6_sumOf 43 = .ok (.iconst 0, 1) := dko_3 (dk_t 2 43 [3, 54, 8, 3, 54, 9, 21, 9, 16, 30] dwX6_sumOf_41 rfl rfl)
theorem dX6_sumOf_44 : decode cX6_sumOf 44 = .ok (.istore 8, 2) := dko_54 (dk_t 3 44 [54, 8, 3, 54, 9, 21, 9, 16, 30] dwX6_sumOf_41 rfl rfl)
theorem dX6_sumOf_46 : decode cX6_sumOf 46 = .ok (.iconst 0, 1) := dko_3 (dk_t 5 46 [3, 54, 9, 21, 9, 16, 30] dwX6_sumOf_41 rfl rfl)
theorem dX6_sumOf_47 : decode cX6_sumOf 47 = .ok (.istore 9, 2) := dko_54 (dk_t 6 47 [54, 9, 21, 9, 16, 30] dwX6_sumOf_41 rfl rfl)
theorem dX6_sumOf_49 : decode cX6_sumOf 49 = .ok (.iload 9, 2) := dko_21 (dk_t 8 49 [21, 9, 16, 30] dwX6_sumOf_41 rfl rfl)
theorem dX6_sumOf_51 : decode cX6_sumOf 51 = .ok (.bipush 30, 2) := dko_16 (dk_t 10 51 [16, 30] dwX6_sumOf_41 rfl rfl)
theorem dwX6_sumOf_53 : dkW cX6_sumOf 53 [162, 0, 61, 42, 180, 0, 9, 21, 5, 21, 9, 96, 46, 29] = true := by decide +kernel
theorem dX6_sumOf_53 : decode cX6_sumOf 53 = .ok (.if_icmp .ge 61, 3) := dko_162 dwX6_sumOf_53
theorem dX6_sumOf_56 : decode cX6_sumOf 56 = .ok (.aload_n 0, 1) := dko_42 (dk_t 3 56 [42, 180, 0, 9, 21, 5, 21, 9, 96, 46, 29] dwX6_sumOf_53 rfl rfl)
theorem dX6_sumOf_57 : decode cX6_sumOf 57 = .ok (.getfield 9, 3) := dko_180 (dk_t 4 57 [180, 0, 9, 21, 5, 21, 9, 96, 46, 29] dwX6_sumOf_53 rfl rfl)
theorem dX6_sumOf_60 : decode cX6_sumOf 60 = .ok (.iload 5, 2) := dko_21 (dk_t 7 60 [21, 5, 21, 9, 96, 46, 29] dwX6_sumOf_53 rfl rfl)
theorem dX6_sumOf_62 : decode cX6_sumOf 62 = .ok (.iload 9, 2) := dko_21 (dk_t 9 62 [21, 9, 96, 46, 29] dwX6_sumOf_53 rfl rfl)
theorem dX6_sumOf_64 : decode cX6_sumOf 64 = .ok (.iadd, 1) := dko_96 (dk_t 11 64 [96, 46, 29] dwX6_sumOf_53 rfl rfl)
theorem dX6_sumOf_65 : decode cX6_sumOf 65 = .ok (.iaload, 1) := dko_46 (dk_t 12 65 [46, 29] dwX6_sumOf_53 rfl rfl)
theorem dX6_sumOf_66 : decode cX6_sumOf 66 = .ok (.iload_n 3, 1) := dko_29 (dk_t 13 66 [29] dwX6_sumOf_53 rfl rfl)
theorem dwX6_sumOf_67 : dkW cX6_sumOf 67 [160, 0, 41, 4, 54, 8, 21, 7, 42, 180, 0, 9, 21, 6] = true := by decide +kernel
theorem dX6_sumOf_67 : decode cX6_sumOf 67 = .ok (.if_icmp .ne 41, 3) := dko_160 dwX6_sumOf_67
theorem dX6_sumOf_70 : decode cX6_sumOf 70 = .ok (.iconst 1, 1) := dko_4 (dk_t 3 70 [4, 54, 8, 21, 7, 42, 180, 0, 9, 21, 6] dwX6_sumOf_67 rfl rfl)
theorem dX6_sumOf_71 : decode cX6_sumOf 71 = .ok (.istore 8, 2) := dko_54 (dk_t 4 71 [54, 8, 21, 7, 42, 180, 0, 9, 21, 6] dwX6_sumOf_67 rfl rfl)
theorem dX6_sumOf_73 : decode cX6_sumOf 73 = .ok (.iload 7, 2) := dko_21 (dk_t 6 73 [21, 7, 42, 180, 0, 9, 21, 6] dwX6_sumOf_67 rfl rfl)
theorem dX6_sumOf_75 : decode cX6_sumOf 75 = .ok (.aload_n 0, 1) := dko_42 (dk_t 8 75 [42, 180, 0, 9, 21, 6] dwX6_sumOf_67 rfl rfl)
theorem dX6_sumOf_76 : decode cX6_sumOf 76 = .ok (.getfield 9, 3) := dko_180 (dk_t 9 76 [180, 0, 9, 21, 6] dwX6_sumOf_67 rfl rfl)
theorem dX6_sumOf_79 : decode cX6_sumOf 79 = .ok (.iload 6, 2) := dko_21 (dk_t 12 79 [21, 6] dwX6_sumOf_67 rfl rfl)
theorem dwX6_sumOf_81 : dkW cX6_sumOf 81 [21, 9, 96, 46, 17, 252, 24, 160, 0, 7, 3, 167, 0, 13] = true := by decide +kernel
theorem dX6_sumOf_81 : decode cX6_sumOf 81 = .ok (.iload 9, 2) := dko_21 dwX6_sumOf_81
theorem dX6_sumOf_83 : decode cX6_sumOf 83 = .ok (.iadd, 1) := dko_96 (dk_t 2 83 [96, 46, 17, 252, 24, 160, 0, 7, 3, 167, 0, 13] dwX6_sumOf_81 rfl rfl)
theorem dX6_sumOf_84 : decode cX6_sumOf 84 = .ok (.iaload, 1) := dko_46 (dk_t 3 84 [46, 17, 252, 24, 160, 0, 7, 3, 167, 0, 13] dwX6_sumOf_81 rfl rfl)
theorem dX6_sumOf_85 : decode cX6_sumOf 85 = .ok (.sipush (-1000), 3) := dko_17 (dk_t 4 85 [17, 252, 24, 160, 0, 7, 3, 167, 0, 13] dwX6_sumOf_81 rfl rfl)
theorem dX6_sumOf_88 : decode cX6_sumOf 88 = .ok (.if_icmp .ne 7, 3) := dko_160 (dk_t 7 88 [160, 0, 7, 3, 167, 0, 13] dwX6_sumOf_81 rfl rfl)
theorem dX6_sumOf_91 : decode cX6_sumOf 91 = .ok (.iconst 0, 1) := dko_3 (dk_t 10 91 [3, 167, 0, 13] dwX6_sumOf_81 rfl rfl)
theorem dX6_sumOf_92 : decode cX6_sumOf 92 = .ok (.goto 13, 3) := dko_167 (dk_t 11 92 [167, 0, 13] dwX6_sumOf_81 rfl rfl)
theorem dwX6_sumOf_95 : dkW cX6_sumOf 95 [42, 180, 0, 9, 21, 6, 21, 9, 96, 46, 96, 54, 7] = true := by decide +kernel
theorem dX6_sumOf_95 : decode cX6_sumOf 95 = .ok (.aload_n 0, 1) := dko_42 dwX6_sumOf_95
theorem dX6_sumOf_96 : decode cX6_sumOf 96 = .ok (.getfield 9, 3) := dko_180 (dk_t 1 96 [180, 0, 9, 21, 6, 21, 9, 96, 46, 96, 54, 7] dwX6_sumOf_95 rfl rfl)
theorem dX6_sumOf_99 : decode cX6_sumOf 99 = .ok (.iload 6, 2) := dko_21 (dk_t 4 99 [21, 6, 21, 9, 96, 46, 96, 54, 7] dwX6_sumOf_95 rfl rfl)
theorem dX6_sumOf_101 : decode cX6_sumOf 101 = .ok (.iload 9, 2) := dko_21 (dk_t 6 101 [21, 9, 96, 46, 96, 54, 7] dwX6_sumOf_95 rfl rfl)
theorem dX6_sumOf_103 : decode cX6_sumOf 103 = .ok (.iadd, 1) := dko_96 (dk_t 8 103 [96, 46, 96, 54, 7] dwX6_sumOf_95 rfl rfl)
theorem dX6_sumOf_104 : decode cX6_sumOf 104 = .ok (.iaload, 1) := dko_46 (dk_t 9 104 [46, 96, 54, 7] dwX6_sumOf_95 rfl rfl)
theorem dX6_sumOf_105 : decode cX6_sumOf 105 = .ok (.iadd, 1) := dko_96 (dk_t 10 105 [96, 54, 7] dwX6_sumOf_95 rfl rfl)
theorem dX6_sumOf_106 : decode cX6_sumOf 106 = .ok (.istore 7, 2) := dko_54 (dk_t 11 106 [54, 7] dwX6_sumOf_95 rfl rfl)
theorem dwX6_sumOf_108 : dkW cX6_sumOf 108 [132, 9, 1, 167, 255, 194, 21, 8, 153, 0, 8, 21, 7] = true := by decide +kernel
theorem dX6_sumOf_108 : decode cX6_sumOf 108 = .ok (.iinc 9 1, 3) := dko_132 dwX6_sumOf_108
theorem dX6_sumOf_111 : decode cX6_sumOf 111 = .ok (.goto (-62), 3) := dko_167 (dk_t 3 111 [167, 255, 194, 21, 8, 153, 0, 8, 21, 7] dwX6_sumOf_108 rfl rfl)
theorem dX6_sumOf_114 : decode cX6_sumOf 114 = .ok (.iload 8, 2) := dko_21 (dk_t 6 114 [21, 8, 153, 0, 8, 21, 7] dwX6_sumOf_108 rfl rfl)
theorem dX6_sumOf_116 : decode cX6_sumOf 116 = .ok (.ifCond .eq 8, 3) := dko_153 (dk_t 8 116 [153, 0, 8, 21, 7] dwX6_sumOf_108 rfl rfl)
theorem dX6_sumOf_119 : decode cX6_sumOf 119 = .ok (.iload 7, 2) := dko_21 (dk_t 11 119 [21, 7] dwX6_sumOf_108 rfl rfl)
theorem dwX6_sumOf_121 : dkW cX6_sumOf 121 [167, 0, 5, 18, 73, 172] = true := by decide +kernel
theorem dX6_sumOf_121 : decode cX6_sumOf 121 = .ok (.goto 5, 3) := dko_167 dwX6_sumOf_121
theorem dX6_sumOf_124 : decode cX6_sumOf 124 = .ok (.ldc 73, 2) := dko_18 (dk_t 3 124 [18, 73, 172] dwX6_sumOf_121 rfl rfl)
theorem dX6_sumOf_126 : decode cX6_sumOf 126 = .ok (.ireturn, 1) := dko_172 (dk_t 5 126 [172] dwX6_sumOf_121 rfl rfl)
theorem dwX6_newNulls_0 : dkW cX6_newNulls 0 [3, 61, 3, 62, 29, 17, 1, 14, 162, 0, 36, 42] = true := by decide +kernel
theorem dX6_newNulls_0 : decode cX6_newNulls 0 = .ok (.iconst 0, 1) := dko_3 dwX6_newNulls_0
theorem dX6_newNulls_1 : decode cX6_newNulls 1 = .ok (.istore_n 2, 1) := dko_61 (dk_t 1 1 [61, 3, 62, 29, 17, 1, 14, 162, 0, 36, 42] dwX6_newNulls_0 rfl rfl)
theorem dX6_newNulls_2 : decode cX6_newNulls 2 = .ok (.iconst 0, 1) := dko_3 (dk_t 2 2 [3, 62, 29, 17, 1, 14, 162, 0, 36, 42] dwX6_newNulls_0 rfl rfl)
theorem dX6_newNulls_3 : decode cX6_newNulls 3 = .ok (.istore_n 3, 1) := dko_62 (dk_t 3 3 [62, 29, 17, 1, 14, 162, 0, 36, 42] dwX6_newNulls_0 rfl rfl)
theorem dX6_newNulls_4 : decode cX6_newNulls 4 = .ok (.iload_n 3, 1) := dko_29 (dk_t 4 4 [29, 17, 1, 14, 162, 0, 36, 42] dwX6_newNulls_0 rfl rfl)
theorem dX6_newNulls_5 : decode cX6_newNulls 5 = .ok (.sipush 270, 3) := dko_17 (dk_t 5 5 [17, 1, 14, 162, 0, 36, 42] dwX6_newNulls_0 rfl rfl)
theorem dX6_newNulls_8 : decode cX6_newNulls 8 = .ok (.if_icmp .ge 36, 3) := dko_162 (dk_t 8 8 [162, 0, 36, 42] dwX6_newNulls_0 rfl rfl)
theorem dX6_newNulls_11 : decode cX6_newNulls 11 = .ok (.aload_n 0, 1) := dko_42 (dk_t 11 11 [42] dwX6_newNulls_0 rfl rfl)
theorem dwX6_newNulls_12 : dkW cX6_newNulls 12 [180, 0, 9, 29, 46, 17, 252, 24, 160, 0, 18, 43] = true := by decide +kernel
theorem dX6_newNulls_12 : decode cX6_newNulls 12 = .ok (.getfield 9, 3) := dko_180 dwX6_newNulls_12
theorem dX6_newNulls_15 : decode cX6_newNulls 15 = .ok (.iload_n 3, 1) := dko_29 (dk_t 3 15 [29, 46, 17, 252, 24, 160, 0, 18, 43] dwX6_newNulls_12 rfl rfl)
theorem dX6_newNulls_16 : decode cX6_newNulls 16 = .ok (.iaload, 1) := dko_46 (dk_t 4 16 [46, 17, 252, 24, 160, 0, 18, 43] dwX6_newNulls_12 rfl rfl)
theorem dX6_newNulls_17 : decode cX6_newNulls 17 = .ok (.sipush (-1000), 3) := dko_17 (dk_t 5 17 [17, 252, 24, 160, 0, 18, 43] dwX6_newNulls_12 rfl rfl)
theorem dX6_newNulls_20 : decode cX6_newNulls 20 = .ok (.if_icmp .ne 18, 3) := dko_160 (dk_t 8 20 [160, 0, 18, 43] dwX6_newNulls_12 rfl rfl)
theorem dX6_newNulls_23 : decode cX6_newNulls 23 = .ok (.aload_n 1, 1) := dko_43 (dk_t 11 23 [43] dwX6_newNulls_12 rfl rfl)
theorem dwX6_newNulls_24 : dkW cX6_newNulls 24 [180, 0, 9, 29, 46, 17, 252, 24, 159, 0, 6, 132, 2, 1] = true := by decide +kernel
theorem dX6_newNulls_24 : decode cX6_newNulls 24 = .ok (.getfield 9, 3) := dko_180 dwX6_newNulls_24
theorem dX6_newNulls_27 : decode cX6_newNulls 27 = .ok (.iload_n 3, 1) := dko_29 (dk_t 3 27 [29, 46, 17, 252, 24, 159, 0, 6, 132, 2, 1] dwX6_newNulls_24 rfl rfl)
theorem dX6_newNulls_28 : decode cX6_newNulls 28 = .ok (.iaload, 1) := dko_46 (dk_t 4 28 [46, 17, 252, 24, 159, 0, 6, 132, 2, 1] dwX6_newNulls_24 rfl rfl)
theorem dX6_newNulls_29 : decode cX6_newNulls 29 = .ok (.sipush (-1000), 3) := dko_17 (dk_t 5 29 [17, 252, 24, 159, 0, 6, 132, 2, 1] dwX6_newNulls_24 rfl rfl)
theorem dX6_newNulls_32 : decode cX6_newNulls 32 = .ok (.if_icmp .eq 6, 3) := dko_159 (dk_t 8 32 [159, 0, 6, 132, 2, 1] dwX6_newNulls_24 rfl rfl)
theorem dX6_newNulls_35 : decode cX6_newNulls 35 = .ok (.iinc 2 1, 3) := dko_132 (dk_t 11 35 [132, 2, 1] dwX6_newNulls_24 rfl rfl)
theorem dwX6_newNulls_38 : dkW cX6_newNulls 38 [132, 3, 1, 167, 255, 219, 28, 172] = true := by decide +kernel
theorem dX6_newNulls_38 : decode cX6_newNulls 38 = .ok (.iinc 3 1, 3) := dko_132 dwX6_newNulls_38
theorem dX6_newNulls_41 : decode cX6_newNulls 41 = .ok (.goto (-37), 3) := dko_167 (dk_t 3 41 [167, 255, 219, 28, 172] dwX6_newNulls_38 rfl rfl)
theorem dX6_newNulls_44 : decode cX6_newNulls 44 = .ok (.iload_n 2, 1) := dko_28 (dk_t 6 44 [28, 172] dwX6_newNulls_38 rfl rfl)
theorem dX6_newNulls_45 : decode cX6_newNulls 45 = .ok (.ireturn, 1) := dko_172 (dk_t 7 45 [172] dwX6_newNulls_38 rfl rfl)
theorem dwX6_fill_0 : dkW cX6_fill 0 [3, 54, 4, 21, 4, 6, 162, 0, 23, 42, 180, 0, 9, 27] = true := by decide +kernel
theorem dX6_fill_0 : decode cX6_fill 0 = .ok (.iconst 0, 1) := dko_3 dwX6_fill_0
theorem dX6_fill_1 : decode cX6_fill 1 = .ok (.istore 4, 2) := dko_54 (dk_t 1 1 [54, 4, 21, 4, 6, 162, 0, 23, 42, 180, 0, 9, 27] dwX6_fill_0 rfl rfl)
theorem dX6_fill_3 : decode cX6_fill 3 = .ok (.iload 4, 2) := dko_21 (dk_t 3 3 [21, 4, 6, 162, 0, 23, 42, 180, 0, 9, 27] dwX6_fill_0 rfl rfl)
theorem dX6_fill_5 : decode cX6_fill 5 = .ok (.iconst 3, 1) := dko_6 (dk_t 5 5 [6, 162, 0, 23, 42, 180, 0, 9, 27] dwX6_fill_0 rfl rfl)
theorem dX6_fill_6 : decode cX6_fill 6 = .ok (.if_icmp .ge 23, 3) := dko_162 (dk_t 6 6 [162, 0, 23, 42, 180, 0, 9, 27] dwX6_fill_0 rfl rfl)
theorem dX6_fill_9 : decode cX6_fill 9 = .ok (.aload_n 0, 1) := dko_42 (dk_t 9 9 [42, 180, 0, 9, 27] dwX6_fill_0 rfl rfl)
theorem dX6_fill_10 : decode cX6_fill 10 = .ok (.getfield 9, 3) := dko_180 (dk_t 10 10 [180, 0, 9, 27] dwX6_fill_0 rfl rfl)
theorem dX6_fill_13 : decode cX6_fill 13 = .ok (.iload_n 1, 1) := dko_27 (dk_t 13 13 [27] dwX6_fill_0 rfl rfl)
theorem dwX6_fill_14 : dkW cX6_fill 14 [21, 4, 184, 0, 34, 28, 96, 29, 79, 132, 4, 1] = true := by decide +kernel
theorem dX6_fill_14 : decode cX6_fill 14 = .ok (.iload 4, 2) := dko_21 dwX6_fill_14
theorem dX6_fill_16 : decode cX6_fill 16 = .ok (.invokestatic 34, 3) := dko_184 (dk_t 2 16 [184, 0, 34, 28, 96, 29, 79, 132, 4, 1] dwX6_fill_14 rfl rfl)
theorem dX6_fill_19 : decode cX6_fill 19 = .ok (.iload_n 2, 1) := dko_28 (dk_t 5 19 [28, 96, 29, 79, 132, 4, 1] dwX6_fill_14 rfl rfl)
theorem dX6_fill_20 : decode cX6_fill 20 = .ok (.iadd, 1) := dko_96 (dk_t 6 20 [96, 29, 79, 132, 4, 1] dwX6_fill_14 rfl rfl)
theorem dX6_fill_21 : decode cX6_fill 21 = .ok (.iload_n 3, 1) := dko_29 (dk_t 7 21 [29, 79, 132, 4, 1] dwX6_fill_14 rfl rfl)
theorem dX6_fill_22 : decode cX6_fill 22 = .ok (.iastore, 1) := dko_79 (dk_t 8 22 [79, 132, 4, 1] dwX6_fill_14 rfl rfl)
theorem dX6_fill_23 : decode cX6_fill 23 = .ok (.iinc 4 1, 3) := dko_132 (dk_t 9 23 [132, 4, 1] dwX6_fill_14 rfl rfl)
theorem dwX6_fill_26 : dkW cX6_fill 26 [167, 255, 233, 177] = true := by decide +kernel
theorem dX6_fill_26 : decode cX6_fill 26 = .ok (.goto (-23), 3) := dko_167 dwX6_fill_26
theorem dX6_fill_29 : decode cX6_fill 29 = .ok (.return_, 1) := dko_177 (dk_t 3 29 [177] dwX6_fill_26 rfl rfl)
theorem dwX6_place_0 : dkW cX6_place 0 [26, 6, 104, 27, 96, 16, 30, 104, 172] = true := by decide +kernel
theorem dX6_place_0 : decode cX6_place 0 = .ok (.iload_n 0, 1) := dko_26 dwX6_place_0
theorem dX6_place_1 : decode cX6_place 1 = .ok (.iconst 3, 1) := dko_6 (dk_t 1 1 [6, 104, 27, 96, 16, 30, 104, 172] dwX6_place_0 rfl rfl)
theorem dX6_place_2 : decode cX6_place 2 = .ok (.imul, 1) := dko_104 (dk_t 2 2 [104, 27, 96, 16, 30, 104, 172] dwX6_place_0 rfl rfl)
theorem dX6_place_3 : decode cX6_place 3 = .ok (.iload_n 1, 1) := dko_27 (dk_t 3 3 [27, 96, 16, 30, 104, 172] dwX6_place_0 rfl rfl)
theorem dX6_place_4 : decode cX6_place 4 = .ok (.iadd, 1) := dko_96 (dk_t 4 4 [96, 16, 30, 104, 172] dwX6_place_0 rfl rfl)
theorem dX6_place_5 : decode cX6_place 5 = .ok (.bipush 30, 2) := dko_16 (dk_t 5 5 [16, 30, 104, 172] dwX6_place_0 rfl rfl)
theorem dX6_place_7 : decode cX6_place 7 = .ok (.imul, 1) := dko_104 (dk_t 7 7 [104, 172] dwX6_place_0 rfl rfl)
theorem dX6_place_8 : decode cX6_place 8 = .ok (.ireturn, 1) := dko_172 (dk_t 8 8 [172] dwX6_place_0 rfl rfl)
theorem dwX7_init_0 : dkW cX7_init 0 [42, 183, 0, 3, 42, 2, 181, 0, 9, 42, 2, 181, 0, 15] = true := by decide +kernel
theorem dX7_init_0 : decode cX7_init 0 = .ok (.aload_n 0, 1) := dko_42 dwX7_init_0
theorem dX7_init_1 : decode cX7_init 1 = .ok (.invokespecial 3, 3) := dko_183 (dk_t 1 1 [183, 0, 3, 42, 2, 181, 0, 9, 42, 2, 181, 0, 15] dwX7_init_0 rfl rfl)
theorem dX7_init_4 : decode cX7_init 4 = .ok (.aload_n 0, 1) := dko_42 (dk_t 4 4 [42, 2, 181, 0, 9, 42, 2, 181, 0, 15] dwX7_init_0 rfl rfl)
theorem dX7_init_5 : decode cX7_init 5 = .ok (.iconst (-1), 1) := dko_2 (dk_t 5 5 [2, 181, 0, 9, 42, 2, 181, 0, 15] dwX7_init_0 rfl rfl)
theorem dX7_init_6 : decode cX7_init 6 = .ok (.putfield 9, 3) := dko_181 (dk_t 6 6 [181, 0, 9, 42, 2, 181, 0, 15] dwX7_init_0 rfl rfl)
theorem dX7_init_9 : decode cX7_init 9 = .ok (.aload_n 0, 1) := dko_42 (dk_t 9 9 [42, 2, 181, 0, 15] dwX7_init_0 rfl rfl)
theorem dX7_init_10 : decode cX7_init 10 = .ok (.iconst (-1), 1) := dko_2 (dk_t 10 10 [2, 181, 0, 15] dwX7_init_0 rfl rfl)
theorem dX7_init_11 : decode cX7_init 11 = .ok (.putfield 15, 3) := dko_181 (dk_t 11 11 [181, 0, 15] dwX7_init_0 rfl rfl)
theorem dwX7_init_14 : dkW cX7_init 14 [42, 3, 181, 0, 18, 42, 27, 181, 0, 21, 177] = true := by decide +kernel
theorem dX7_init_14 : decode cX7_init 14 = .ok (.aload_n 0, 1) := dko_42 dwX7_init_14
theorem dX7_init_15 : decode cX7_init 15 = .ok (.iconst 0, 1) := dko_3 (dk_t 1 15 [3, 181, 0, 18, 42, 27, 181, 0, 21, 177] dwX7_init_14 rfl rfl)
theorem dX7_init_16 : decode cX7_init 16 = .ok (.putfield 18, 3) := dko_181 (dk_t 2 16 [181, 0, 18, 42, 27, 181, 0, 21, 177] dwX7_init_14 rfl rfl)
theorem dX7_init_19 : decode cX7_init 19 = .ok (.aload_n 0, 1) := dko_42 (dk_t 5 19 [42, 27, 181, 0, 21, 177] dwX7_init_14 rfl rfl)
theorem dX7_init_20 : decode cX7_init 20 = .ok (.iload_n 1, 1) := dko_27 (dk_t 6 20 [27, 181, 0, 21, 177] dwX7_init_14 rfl rfl)
theorem dX7_init_21 : decode cX7_init 21 = .ok (.putfield 21, 3) := dko_181 (dk_t 7 21 [181, 0, 21, 177] dwX7_init_14 rfl rfl)
theorem dX7_init_24 : decode cX7_init 24 = .ok (.return_, 1) := dko_177 (dk_t 10 24 [177] dwX7_init_14 rfl rfl)
theorem dwX7_isAmong_0 : dkW cX7_isAmong 0 [27, 153, 0, 20, 42, 180, 0, 24, 27, 4, 160, 0, 7, 4] = true := by decide +kernel
theorem dX7_isAmong_0 : decode cX7_isAmong 0 = .ok (.iload_n 1, 1) := dko_27 dwX7_isAmong_0
theorem dX7_isAmong_1 : decode cX7_isAmong 1 = .ok (.ifCond .eq 20, 3) := dko_153 (dk_t 1 1 [153, 0, 20, 42, 180, 0, 24, 27, 4, 160, 0, 7, 4] dwX7_isAmong_0 rfl rfl)
theorem dX7_isAmong_4 : decode cX7_isAmong 4 = .ok (.aload_n 0, 1) := dko_42 (dk_t 4 4 [42, 180, 0, 24, 27, 4, 160, 0, 7, 4] dwX7_isAmong_0 rfl rfl)
theorem dX7_isAmong_5 : decode cX7_isAmong 5 = .ok (.getfield 24, 3) := dko_180 (dk_t 5 5 [180, 0, 24, 27, 4, 160, 0, 7, 4] dwX7_isAmong_0 rfl rfl)
theorem dX7_isAmong_8 : decode cX7_isAmong 8 = .ok (.iload_n 1, 1) := dko_27 (dk_t 8 8 [27, 4, 160, 0, 7, 4] dwX7_isAmong_0 rfl rfl)
theorem dX7_isAmong_9 : decode cX7_isAmong 9 = .ok (.iconst 1, 1) := dko_4 (dk_t 9 9 [4, 160, 0, 7, 4] dwX7_isAmong_0 rfl rfl)
theorem dX7_isAmong_10 : decode cX7_isAmong 10 = .ok (.if_icmp .ne 7, 3) := dko_160 (dk_t 10 10 [160, 0, 7, 4] dwX7_isAmong_0 rfl rfl)
theorem dX7_isAmong_13 : decode cX7_isAmong 13 = .ok (.iconst 1, 1) := dko_4 (dk_t 13 13 [4] dwX7_isAmong_0 rfl rfl)
theorem dwX7_isAmong_14 : dkW cX7_isAmong 14 [167, 0, 4, 3, 160, 0, 7, 4, 167, 0, 4, 3, 172] = true := by decide +kernel
theorem dX7_isAmong_14 : decode cX7_isAmong 14 = .ok (.goto 4, 3) := dko_167 dwX7_isAmong_14
theorem dX7_isAmong_17 : decode cX7_isAmong 17 = .ok (.iconst 0, 1) := dko_3 (dk_t 3 17 [3, 160, 0, 7, 4, 167, 0, 4, 3, 172] dwX7_isAmong_14 rfl rfl)
theorem dX7_isAmong_18 : decode cX7_isAmong 18 = .ok (.if_icmp .ne 7, 3) := dko_160 (dk_t 4 18 [160, 0, 7, 4, 167, 0, 4, 3, 172] dwX7_isAmong_14 rfl rfl)
theorem dX7_isAmong_21 : decode cX7_isAmong 21 = .ok (.iconst 1, 1) := dko_4 (dk_t 7 21 [4, 167, 0, 4, 3, 172] dwX7_isAmong_14 rfl rfl)
theorem dX7_isAmong_22 : decode cX7_isAmong 22 = .ok (.goto 4, 3) := dko_167 (dk_t 8 22 [167, 0, 4, 3, 172] dwX7_isAmong_14 rfl rfl)
theorem dX7_isAmong_25 : decode cX7_isAmong 25 = .ok (.iconst 0, 1) := dko_3 (dk_t 11 25 [3, 172] dwX7_isAmong_14 rfl rfl)
theorem dX7_isAmong_26 : decode cX7_isAmong 26 = .ok (.ireturn, 1) := dko_172 (dk_t 12 26 [172] dwX7_isAmong_14 rfl rfl)
theorem dwX7_isAboutKeys_0 : dkW cX7_isAboutKeys 0 [42, 180, 0, 21, 5, 159, 0, 19, 42, 180, 0, 21, 7] = true := by decide +kernel
theorem dX7_isAboutKeys_0 : decode cX7_isAboutKeys 0 = .ok (.aload_n 0, 1) := dko_42 dwX7_isAboutKeys_0
theorem dX7_isAboutKeys_1 : decode cX7_isAboutKeys 1 = .ok (.getfield 21, 3) := dko_180 (dk_t 1 1 [180, 0, 21, 5, 159, 0, 19, 42, 180, 0, 21, 7] dwX7_isAboutKeys_0 rfl rfl)
theorem dX7_isAboutKeys_4 : decode cX7_isAboutKeys 4 = .ok (.iconst 2, 1) := dko_5 (dk_t 4 4 [5, 159, 0, 19, 42, 180, 0, 21, 7] dwX7_isAboutKeys_0 rfl rfl)
theorem dX7_isAboutKeys_5 : decode cX7_isAboutKeys 5 = .ok (.if_icmp .eq 19, 3) := dko_159 (dk_t 5 5 [159, 0, 19, 42, 180, 0, 21, 7] dwX7_isAboutKeys_0 rfl rfl)
theorem dX7_isAboutKeys_8 : decode cX7_isAboutKeys 8 = .ok (.aload_n 0, 1) := dko_42 (dk_t 8 8 [42, 180, 0, 21, 7] dwX7_isAboutKeys_0 rfl rfl)
theorem dX7_isAboutKeys_9 : decode cX7_isAboutKeys 9 = .ok (.getfield 21, 3) := dko_180 (dk_t 9 9 [180, 0, 21, 7] dwX7_isAboutKeys_0 rfl rfl)
theorem dX7_isAboutKeys_12 : decode cX7_isAboutKeys 12 = .ok (.iconst 4, 1) := dko_7 (dk_t 12 12 [7] dwX7_isAboutKeys_0 rfl rfl)
theorem dwX7_isAboutKeys_13 : dkW cX7_isAboutKeys 13 [159, 0, 11, 42, 180, 0, 21, 8, 160, 0, 7, 4] = true := by decide +kernel
theorem dX7_isAboutKeys_13 : decode cX7_isAboutKeys 13 = .ok (.if_icmp .eq 11, 3) := dko_159 dwX7_isAboutKeys_13
theorem dX7_isAboutKeys_16 : decode cX7_isAboutKeys 16 = .ok (.aload_n 0, 1) := dko_42 (dk_t 3 16 [42, 180, 0, 21, 8, 160, 0, 7, 4] dwX7_isAboutKeys_13 rfl rfl)
theorem dX7_isAboutKeys_17 : decode cX7_isAboutKeys 17 = .ok (.getfield 21, 3) := dko_180 (dk_t 4 17 [180, 0, 21, 8, 160, 0, 7, 4] dwX7_isAboutKeys_13 rfl rfl)
theorem dX7_isAboutKeys_20 : decode cX7_isAboutKeys 20 = .ok (.iconst 5, 1) := dko_8 (dk_t 7 20 [8, 160, 0, 7, 4] dwX7_isAboutKeys_13 rfl rfl)
theorem dX7_isAboutKeys_21 : decode cX7_isAboutKeys 21 = .ok (.if_icmp .ne 7, 3) := dko_160 (dk_t 8 21 [160, 0, 7, 4] dwX7_isAboutKeys_13 rfl rfl)
theorem dX7_isAboutKeys_24 : decode cX7_isAboutKeys 24 = .ok (.iconst 1, 1) := dko_4 (dk_t 11 24 [4] dwX7_isAboutKeys_13 rfl rfl)
theorem dwX7_isAboutKeys_25 : dkW cX7_isAboutKeys 25 [167, 0, 4, 3, 172] = true := by decide +kernel
theorem dX7_isAboutKeys_25 : decode cX7_isAboutKeys 25 = .ok (.goto 4, 3) := dko_167 dwX7_isAboutKeys_25
theorem dX7_isAboutKeys_28 : decode cX7_isAboutKeys 28 = .ok (.iconst 0, 1) := dko_3 (dk_t 3 28 [3, 172] dwX7_isAboutKeys_25 rfl rfl)
theorem dX7_isAboutKeys_29 : decode cX7_isAboutKeys 29 = .ok (.ireturn, 1) := dko_172 (dk_t 4 29 [172] dwX7_isAboutKeys_25 rfl rfl)
theorem dwX7_looksAtKeys_0 : dkW cX7_looksAtKeys 0 [42, 180, 0, 21, 4, 159, 0, 11, 42, 180, 0, 21, 7] = true := by decide +kernel
theorem dX7_looksAtKeys_0 : decode cX7_looksAtKeys 0 = .ok (.aload_n 0, 1) := dko_42 dwX7_looksAtKeys_0
theorem dX7_looksAtKeys_1 : decode cX7_looksAtKeys 1 = .ok (.getfield 21, 3) := dko_180 (dk_t 1 1 [180, 0, 21, 4, 159, 0, 11, 42, 180, 0, 21, 7] dwX7_looksAtKeys_0 rfl rfl)
theorem dX7_looksAtKeys_4 : decode cX7_looksAtKeys 4 = .ok (.iconst 1, 1) := dko_4 (dk_t 4 4 [4, 159, 0, 11, 42, 180, 0, 21, 7] dwX7_looksAtKeys_0 rfl rfl)
theorem dX7_looksAtKeys_5 : decode cX7_looksAtKeys 5 = .ok (.if_icmp .eq 11, 3) := dko_159 (dk_t 5 5 [159, 0, 11, 42, 180, 0, 21, 7] dwX7_looksAtKeys_0 rfl rfl)
theorem dX7_looksAtKeys_8 : decode cX7_looksAtKeys 8 = .ok (.aload_n 0, 1) := dko_42 (dk_t 8 8 [42, 180, 0, 21, 7] dwX7_looksAtKeys_0 rfl rfl)
theorem dX7_looksAtKeys_9 : decode cX7_looksAtKeys 9 = .ok (.getfield 21, 3) := dko_180 (dk_t 9 9 [180, 0, 21, 7] dwX7_looksAtKeys_0 rfl rfl)
theorem dX7_looksAtKeys_12 : decode cX7_looksAtKeys 12 = .ok (.iconst 4, 1) := dko_7 (dk_t 12 12 [7] dwX7_looksAtKeys_0 rfl rfl)
theorem dwX7_looksAtKeys_13 : dkW cX7_looksAtKeys 13 [160, 0, 7, 4, 167, 0, 4, 3, 172] = true := by decide +kernel
theorem dX7_looksAtKeys_13 : decode cX7_looksAtKeys 13 = .ok (.if_icmp .ne 7, 3) := dko_160 dwX7_looksAtKeys_13
theorem dX7_looksAtKeys_16 : decode cX7_looksAtKeys 16 = .ok (.iconst 1, 1) := dko_4 (dk_t 3 16 [4, 167, 0, 4, 3, 172] dwX7_looksAtKeys_13 rfl rfl)
theorem dX7_looksAtKeys_17 : decode cX7_looksAtKeys 17 = .ok (.goto 4, 3) := dko_167 (dk_t 4 17 [167, 0, 4, 3, 172] dwX7_looksAtKeys_13 rfl rfl)
theorem dX7_looksAtKeys_20 : decode cX7_looksAtKeys 20 = .ok (.iconst 0, 1) := dko_3 (dk_t 7 20 [3, 172] dwX7_looksAtKeys_13 rfl rfl)
theorem dX7_looksAtKeys_21 : decode cX7_looksAtKeys 21 = .ok (.ireturn, 1) := dko_172 (dk_t 8 21 [172] dwX7_looksAtKeys_13 rfl rfl)
theorem dwX7_isSubject_0 : dkW cX7_isSubject 0 [42, 182, 0, 28, 153, 0, 10, 27, 184, 0, 32, 167, 0, 7] = true := by decide +kernel
theorem dX7_isSubject_0 : decode cX7_isSubject 0 = .ok (.aload_n 0, 1) := dko_42 dwX7_isSubject_0
theorem dX7_isSubject_1 : decode cX7_isSubject 1 = .ok (.invokevirtual 28, 3) := dko_182 (dk_t 1 1 [182, 0, 28, 153, 0, 10, 27, 184, 0, 32, 167, 0, 7] dwX7_isSubject_0 rfl rfl)
theorem dX7_isSubject_4 : decode cX7_isSubject 4 = .ok (.ifCond .eq 10, 3) := dko_153 (dk_t 4 4 [153, 0, 10, 27, 184, 0, 32, 167, 0, 7] dwX7_isSubject_0 rfl rfl)
theorem dX7_isSubject_7 : decode cX7_isSubject 7 = .ok (.iload_n 1, 1) := dko_27 (dk_t 7 7 [27, 184, 0, 32, 167, 0, 7] dwX7_isSubject_0 rfl rfl)
theorem dX7_isSubject_8 : decode cX7_isSubject 8 = .ok (.invokestatic 32, 3) := dko_184 (dk_t 8 8 [184, 0, 32, 167, 0, 7] dwX7_isSubject_0 rfl rfl)
theorem dX7_isSubject_11 : decode cX7_isSubject 11 = .ok (.goto 7, 3) := dko_167 (dk_t 11 11 [167, 0, 7] dwX7_isSubject_0 rfl rfl)
theorem dwX7_isSubject_14 : dkW cX7_isSubject 14 [27, 184, 0, 36, 172] = true := by decide +kernel
theorem dX7_isSubject_14 : decode cX7_isSubject 14 = .ok (.iload_n 1, 1) := dko_27 dwX7_isSubject_14
theorem dX7_isSubject_15 : decode cX7_isSubject 15 = .ok (.invokestatic 36, 3) := dko_184 (dk_t 1 15 [184, 0, 36, 172] dwX7_isSubject_14 rfl rfl)
theorem dX7_isSubject_18 : decode cX7_isSubject 18 = .ok (.ireturn, 1) := dko_172 (dk_t 4 18 [172] dwX7_isSubject_14 rfl rfl)
theorem dwX7_follows_0 : dkW cX7_follows 0 [42, 180, 0, 21, 4, 160, 0, 22, 42, 180, 0, 15, 27] = true := by decide +kernel
theorem dX7_follows_0 : decode cX7_follows 0 = .ok (.aload_n 0, 1) := dko_42 dwX7_follows_0
theorem dX7_follows_1 : decode cX7_follows 1 = .ok (.getfield 21, 3) := dko_180 (dk_t 1 1 [180, 0, 21, 4, 160, 0, 22, 42, 180, 0, 15, 27] dwX7_follows_0 rfl rfl)
theorem dX7_follows_4 : decode cX7_follows 4 = .ok (.iconst 1, 1) := dko_4 (dk_t 4 4 [4, 160, 0, 22, 42, 180, 0, 15, 27] dwX7_follows_0 rfl rfl)
theorem dX7_follows_5 : decode cX7_follows 5 = .ok (.if_icmp .ne 22, 3) := dko_160 (dk_t 5 5 [160, 0, 22, 42, 180, 0, 15, 27] dwX7_follows_0 rfl rfl)
theorem dX7_follows_8 : decode cX7_follows 8 = .ok (.aload_n 0, 1) := dko_42 (dk_t 8 8 [42, 180, 0, 15, 27] dwX7_follows_0 rfl rfl)
theorem dX7_follows_9 : decode cX7_follows 9 = .ok (.getfield 15, 3) := dko_180 (dk_t 9 9 [180, 0, 15, 27] dwX7_follows_0 rfl rfl)
theorem dX7_follows_12 : decode cX7_follows 12 = .ok (.iload_n 1, 1) := dko_27 (dk_t 12 12 [27] dwX7_follows_0 rfl rfl)
theorem dwX7_follows_13 : dkW cX7_follows 13 [160, 0, 14, 42, 180, 0, 18, 153, 0, 7, 4, 167, 0, 4] = true := by decide +kernel
theorem dX7_follows_13 : decode cX7_follows 13 = .ok (.if_icmp .ne 14, 3) := dko_160 dwX7_follows_13
theorem dX7_follows_16 : decode cX7_follows 16 = .ok (.aload_n 0, 1) := dko_42 (dk_t 3 16 [42, 180, 0, 18, 153, 0, 7, 4, 167, 0, 4] dwX7_follows_13 rfl rfl)
theorem dX7_follows_17 : decode cX7_follows 17 = .ok (.getfield 18, 3) := dko_180 (dk_t 4 17 [180, 0, 18, 153, 0, 7, 4, 167, 0, 4] dwX7_follows_13 rfl rfl)
theorem dX7_follows_20 : decode cX7_follows 20 = .ok (.ifCond .eq 7, 3) := dko_153 (dk_t 7 20 [153, 0, 7, 4, 167, 0, 4] dwX7_follows_13 rfl rfl)
theorem dX7_follows_23 : decode cX7_follows 23 = .ok (.iconst 1, 1) := dko_4 (dk_t 10 23 [4, 167, 0, 4] dwX7_follows_13 rfl rfl)
theorem dX7_follows_24 : decode cX7_follows 24 = .ok (.goto 4, 3) := dko_167 (dk_t 11 24 [167, 0, 4] dwX7_follows_13 rfl rfl)
theorem dwX7_follows_27 : dkW cX7_follows 27 [3, 172] = true := by decide +kernel
theorem dX7_follows_27 : decode cX7_follows 27 = .ok (.iconst 0, 1) := dko_3 dwX7_follows_27
theorem dX7_follows_28 : decode cX7_follows 28 = .ok (.ireturn, 1) := dko_172 (dk_t 1 28 [172] dwX7_follows_27 rfl rfl)
theorem dwX7_state_0 : dkW cX7_state 0 [42, 180, 0, 21] = true := by decide +kernel
theorem dX7_state_0 : decode cX7_state 0 = .ok (.aload_n 0, 1) := dko_42 dwX7_state_0
theorem dX7_state_1 : decode cX7_state 1 = .ok (.getfield 21, 3) := dko_180 (dk_t 1 1 [180, 0, 21] dwX7_state_0 rfl rfl)
theorem dX7_state_4 : decode cX7_state 4 = .ok (.tableswitch 102 0 4 #[36, 50, 102, 84, 50], 36) := by decide +kernel
theorem dwX7_state_40 : dkW cX7_state 40 [43, 42, 180, 0, 39, 42, 180, 0, 42, 28, 182, 0, 45, 172] = true := by decide +kernel
theorem dX7_state_40 : decode cX7_state 40 = .ok (.aload_n 1, 1) := dko_43 dwX7_state_40
theorem dX7_state_41 : decode cX7_state 41 = .ok (.aload_n 0, 1) := dko_42 (dk_t 1 41 [42, 180, 0, 39, 42, 180, 0, 42, 28, 182, 0, 45, 172] dwX7_state_40 rfl rfl)
theorem dX7_state_42 : decode cX7_state 42 = .ok (.getfield 39, 3) := dko_180 (dk_t 2 42 [180, 0, 39, 42, 180, 0, 42, 28, 182, 0, 45, 172] dwX7_state_40 rfl rfl)
theorem dX7_state_45 : decode cX7_state 45 = .ok (.aload_n 0, 1) := dko_42 (dk_t 5 45 [42, 180, 0, 42, 28, 182, 0, 45, 172] dwX7_state_40 rfl rfl)
theorem dX7_state_46 : decode cX7_state 46 = .ok (.getfield 42, 3) := dko_180 (dk_t 6 46 [180, 0, 42, 28, 182, 0, 45, 172] dwX7_state_40 rfl rfl)
theorem dX7_state_49 : decode cX7_state 49 = .ok (.iload_n 2, 1) := dko_28 (dk_t 9 49 [28, 182, 0, 45, 172] dwX7_state_40 rfl rfl)
theorem dX7_state_50 : decode cX7_state 50 = .ok (.invokevirtual 45, 3) := dko_182 (dk_t 10 50 [182, 0, 45, 172] dwX7_state_40 rfl rfl)
theorem dX7_state_53 : decode cX7_state 53 = .ok (.ireturn, 1) := dko_172 (dk_t 13 53 [172] dwX7_state_40 rfl rfl)
theorem dwX7_state_54 : dkW cX7_state 54 [5, 43, 42, 180, 0, 39, 42, 180, 0, 42, 28, 182, 0, 45] = true := by decide +kernel
theorem dX7_state_54 : decode cX7_state 54 = .ok (.iconst 2, 1) := dko_5 dwX7_state_54
theorem dX7_state_55 : decode cX7_state 55 = .ok (.aload_n 1, 1) := dko_43 (dk_t 1 55 [43, 42, 180, 0, 39, 42, 180, 0, 42, 28, 182, 0, 45] dwX7_state_54 rfl rfl)
theorem dX7_state_56 : decode cX7_state 56 = .ok (.aload_n 0, 1) := dko_42 (dk_t 2 56 [42, 180, 0, 39, 42, 180, 0, 42, 28, 182, 0, 45] dwX7_state_54 rfl rfl)
theorem dX7_state_57 : decode cX7_state 57 = .ok (.getfield 39, 3) := dko_180 (dk_t 3 57 [180, 0, 39, 42, 180, 0, 42, 28, 182, 0, 45] dwX7_state_54 rfl rfl)
theorem dX7_state_60 : decode cX7_state 60 = .ok (.aload_n 0, 1) := dko_42 (dk_t 6 60 [42, 180, 0, 42, 28, 182, 0, 45] dwX7_state_54 rfl rfl)
theorem dX7_state_61 : decode cX7_state 61 = .ok (.getfield 42, 3) := dko_180 (dk_t 7 61 [180, 0, 42, 28, 182, 0, 45] dwX7_state_54 rfl rfl)
theorem dX7_state_64 : decode cX7_state 64 = .ok (.iload_n 2, 1) := dko_28 (dk_t 10 64 [28, 182, 0, 45] dwX7_state_54 rfl rfl)
theorem dX7_state_65 : decode cX7_state 65 = .ok (.invokevirtual 45, 3) := dko_182 (dk_t 11 65 [182, 0, 45] dwX7_state_54 rfl rfl)
theorem dwX7_state_68 : dkW cX7_state 68 [104, 43, 42, 180, 0, 15, 28, 182, 0, 51, 153, 0, 7, 4] = true := by decide +kernel
theorem dX7_state_68 : decode cX7_state 68 = .ok (.imul, 1) := dko_104 dwX7_state_68
theorem dX7_state_69 : decode cX7_state 69 = .ok (.aload_n 1, 1) := dko_43 (dk_t 1 69 [43, 42, 180, 0, 15, 28, 182, 0, 51, 153, 0, 7, 4] dwX7_state_68 rfl rfl)
theorem dX7_state_70 : decode cX7_state 70 = .ok (.aload_n 0, 1) := dko_42 (dk_t 2 70 [42, 180, 0, 15, 28, 182, 0, 51, 153, 0, 7, 4] dwX7_state_68 rfl rfl)
theorem dX7_state_71 : decode cX7_state 71 = .ok (.getfield 15, 3) := dko_180 (dk_t 3 71 [180, 0, 15, 28, 182, 0, 51, 153, 0, 7, 4] dwX7_state_68 rfl rfl)
theorem dX7_state_74 : decode cX7_state 74 = .ok (.iload_n 2, 1) := dko_28 (dk_t 6 74 [28, 182, 0, 51, 153, 0, 7, 4] dwX7_state_68 rfl rfl)
theorem dX7_state_75 : decode cX7_state 75 = .ok (.invokevirtual 51, 3) := dko_182 (dk_t 7 75 [182, 0, 51, 153, 0, 7, 4] dwX7_state_68 rfl rfl)
theorem dX7_state_78 : decode cX7_state 78 = .ok (.ifCond .eq 7, 3) := dko_153 (dk_t 10 78 [153, 0, 7, 4] dwX7_state_68 rfl rfl)
theorem dX7_state_81 : decode cX7_state 81 = .ok (.iconst 1, 1) := dko_4 (dk_t 13 81 [4] dwX7_state_68 rfl rfl)
theorem dwX7_state_82 : dkW cX7_state 82 [167, 0, 4, 3, 96, 172, 43, 42, 180, 0, 39, 42] = true := by decide +kernel
theorem dX7_state_82 : decode cX7_state 82 = .ok (.goto 4, 3) := dko_167 dwX7_state_82
theorem dX7_state_85 : decode cX7_state 85 = .ok (.iconst 0, 1) := dko_3 (dk_t 3 85 [3, 96, 172, 43, 42, 180, 0, 39, 42] dwX7_state_82 rfl rfl)
theorem dX7_state_86 : decode cX7_state 86 = .ok (.iadd, 1) := dko_96 (dk_t 4 86 [96, 172, 43, 42, 180, 0, 39, 42] dwX7_state_82 rfl rfl)
theorem dX7_state_87 : decode cX7_state 87 = .ok (.ireturn, 1) := dko_172 (dk_t 5 87 [172, 43, 42, 180, 0, 39, 42] dwX7_state_82 rfl rfl)
theorem dX7_state_88 : decode cX7_state 88 = .ok (.aload_n 1, 1) := dko_43 (dk_t 6 88 [43, 42, 180, 0, 39, 42] dwX7_state_82 rfl rfl)
theorem dX7_state_89 : decode cX7_state 89 = .ok (.aload_n 0, 1) := dko_42 (dk_t 7 89 [42, 180, 0, 39, 42] dwX7_state_82 rfl rfl)
theorem dX7_state_90 : decode cX7_state 90 = .ok (.getfield 39, 3) := dko_180 (dk_t 8 90 [180, 0, 39, 42] dwX7_state_82 rfl rfl)
theorem dX7_state_93 : decode cX7_state 93 = .ok (.aload_n 0, 1) := dko_42 (dk_t 11 93 [42] dwX7_state_82 rfl rfl)
theorem dwX7_state_94 : dkW cX7_state 94 [180, 0, 42, 28, 42, 180, 0, 15, 182, 0, 55, 172, 43, 42] = true := by decide +kernel
theorem dX7_state_94 : decode cX7_state 94 = .ok (.getfield 42, 3) := dko_180 dwX7_state_94
theorem dX7_state_97 : decode cX7_state 97 = .ok (.iload_n 2, 1) := dko_28 (dk_t 3 97 [28, 42, 180, 0, 15, 182, 0, 55, 172, 43, 42] dwX7_state_94 rfl rfl)
theorem dX7_state_98 : decode cX7_state 98 = .ok (.aload_n 0, 1) := dko_42 (dk_t 4 98 [42, 180, 0, 15, 182, 0, 55, 172, 43, 42] dwX7_state_94 rfl rfl)
theorem dX7_state_99 : decode cX7_state 99 = .ok (.getfield 15, 3) := dko_180 (dk_t 5 99 [180, 0, 15, 182, 0, 55, 172, 43, 42] dwX7_state_94 rfl rfl)
theorem dX7_state_102 : decode cX7_state 102 = .ok (.invokevirtual 55, 3) := dko_182 (dk_t 8 102 [182, 0, 55, 172, 43, 42] dwX7_state_94 rfl rfl)
theorem dX7_state_105 : decode cX7_state 105 = .ok (.ireturn, 1) := dko_172 (dk_t 11 105 [172, 43, 42] dwX7_state_94 rfl rfl)
theorem dX7_state_106 : decode cX7_state 106 = .ok (.aload_n 1, 1) := dko_43 (dk_t 12 106 [43, 42] dwX7_state_94 rfl rfl)
theorem dX7_state_107 : decode cX7_state 107 = .ok (.aload_n 0, 1) := dko_42 (dk_t 13 107 [42] dwX7_state_94 rfl rfl)
theorem dwX7_state_108 : dkW cX7_state 108 [180, 0, 39, 28, 42, 180, 0, 42, 182, 0, 59, 172] = true := by decide +kernel
theorem dX7_state_108 : decode cX7_state 108 = .ok (.getfield 39, 3) := dko_180 dwX7_state_108
theorem dX7_state_111 : decode cX7_state 111 = .ok (.iload_n 2, 1) := dko_28 (dk_t 3 111 [28, 42, 180, 0, 42, 182, 0, 59, 172] dwX7_state_108 rfl rfl)
theorem dX7_state_112 : decode cX7_state 112 = .ok (.aload_n 0, 1) := dko_42 (dk_t 4 112 [42, 180, 0, 42, 182, 0, 59, 172] dwX7_state_108 rfl rfl)
theorem dX7_state_113 : decode cX7_state 113 = .ok (.getfield 42, 3) := dko_180 (dk_t 5 113 [180, 0, 42, 182, 0, 59, 172] dwX7_state_108 rfl rfl)
theorem dX7_state_116 : decode cX7_state 116 = .ok (.invokevirtual 59, 3) := dko_182 (dk_t 8 116 [182, 0, 59, 172] dwX7_state_108 rfl rfl)
theorem dX7_state_119 : decode cX7_state 119 = .ok (.ireturn, 1) := dko_172 (dk_t 11 119 [172] dwX7_state_108 rfl rfl)
theorem dwX7_fails_0 : dkW cX7_fails 0 [42, 180, 0, 21] = true := by decide +kernel
theorem dX7_fails_0 : decode cX7_fails 0 = .ok (.aload_n 0, 1) := dko_42 dwX7_fails_0
theorem dX7_fails_1 : decode cX7_fails 1 = .ok (.getfield 21, 3) := dko_180 (dk_t 1 1 [180, 0, 21] dwX7_fails_0 rfl rfl)
theorem dX7_fails_4 : decode cX7_fails 4 = .ok (.tableswitch 135 0 4 #[36, 47, 64, 92, 112], 36) := by decide +kernel
theorem dwX7_fails_40 : dkW cX7_fails 40 [29, 4, 164, 0, 7, 4, 167, 0, 4, 3, 172, 29, 4] = true := by decide +kernel
theorem dX7_fails_40 : decode cX7_fails 40 = .ok (.iload_n 3, 1) := dko_29 dwX7_fails_40
theorem dX7_fails_41 : decode cX7_fails 41 = .ok (.iconst 1, 1) := dko_4 (dk_t 1 41 [4, 164, 0, 7, 4, 167, 0, 4, 3, 172, 29, 4] dwX7_fails_40 rfl rfl)
theorem dX7_fails_42 : decode cX7_fails 42 = .ok (.if_icmp .le 7, 3) := dko_164 (dk_t 2 42 [164, 0, 7, 4, 167, 0, 4, 3, 172, 29, 4] dwX7_fails_40 rfl rfl)
theorem dX7_fails_45 : decode cX7_fails 45 = .ok (.iconst 1, 1) := dko_4 (dk_t 5 45 [4, 167, 0, 4, 3, 172, 29, 4] dwX7_fails_40 rfl rfl)
theorem dX7_fails_46 : decode cX7_fails 46 = .ok (.goto 4, 3) := dko_167 (dk_t 6 46 [167, 0, 4, 3, 172, 29, 4] dwX7_fails_40 rfl rfl)
theorem dX7_fails_49 : decode cX7_fails 49 = .ok (.iconst 0, 1) := dko_3 (dk_t 9 49 [3, 172, 29, 4] dwX7_fails_40 rfl rfl)
theorem dX7_fails_50 : decode cX7_fails 50 = .ok (.ireturn, 1) := dko_172 (dk_t 10 50 [172, 29, 4] dwX7_fails_40 rfl rfl)
theorem dX7_fails_51 : decode cX7_fails 51 = .ok (.iload_n 3, 1) := dko_29 (dk_t 11 51 [29, 4] dwX7_fails_40 rfl rfl)
theorem dX7_fails_52 : decode cX7_fails 52 = .ok (.iconst 1, 1) := dko_4 (dk_t 12 52 [4] dwX7_fails_40 rfl rfl)
theorem dwX7_fails_53 : dkW cX7_fails 53 [164, 0, 13, 29, 4, 126, 154, 0, 7, 4, 167, 0, 4, 3] = true := by decide +kernel
theorem dX7_fails_53 : decode cX7_fails 53 = .ok (.if_icmp .le 13, 3) := dko_164 dwX7_fails_53
theorem dX7_fails_56 : decode cX7_fails 56 = .ok (.iload_n 3, 1) := dko_29 (dk_t 3 56 [29, 4, 126, 154, 0, 7, 4, 167, 0, 4, 3] dwX7_fails_53 rfl rfl)
theorem dX7_fails_57 : decode cX7_fails 57 = .ok (.iconst 1, 1) := dko_4 (dk_t 4 57 [4, 126, 154, 0, 7, 4, 167, 0, 4, 3] dwX7_fails_53 rfl rfl)
theorem dX7_fails_58 : decode cX7_fails 58 = .ok (.iand, 1) := dko_126 (dk_t 5 58 [126, 154, 0, 7, 4, 167, 0, 4, 3] dwX7_fails_53 rfl rfl)
theorem dX7_fails_59 : decode cX7_fails 59 = .ok (.ifCond .ne 7, 3) := dko_154 (dk_t 6 59 [154, 0, 7, 4, 167, 0, 4, 3] dwX7_fails_53 rfl rfl)
theorem dX7_fails_62 : decode cX7_fails 62 = .ok (.iconst 1, 1) := dko_4 (dk_t 9 62 [4, 167, 0, 4, 3] dwX7_fails_53 rfl rfl)
theorem dX7_fails_63 : decode cX7_fails 63 = .ok (.goto 4, 3) := dko_167 (dk_t 10 63 [167, 0, 4, 3] dwX7_fails_53 rfl rfl)
theorem dX7_fails_66 : decode cX7_fails 66 = .ok (.iconst 0, 1) := dko_3 (dk_t 13 66 [3] dwX7_fails_53 rfl rfl)
theorem dwX7_fails_67 : dkW cX7_fails 67 [172, 29, 17, 248, 48, 159, 0, 22, 29, 17, 252, 24] = true := by decide +kernel
theorem dX7_fails_67 : decode cX7_fails 67 = .ok (.ireturn, 1) := dko_172 dwX7_fails_67
theorem dX7_fails_68 : decode cX7_fails 68 = .ok (.iload_n 3, 1) := dko_29 (dk_t 1 68 [29, 17, 248, 48, 159, 0, 22, 29, 17, 252, 24] dwX7_fails_67 rfl rfl)
theorem dX7_fails_69 : decode cX7_fails 69 = .ok (.sipush (-2000), 3) := dko_17 (dk_t 2 69 [17, 248, 48, 159, 0, 22, 29, 17, 252, 24] dwX7_fails_67 rfl rfl)
theorem dX7_fails_72 : decode cX7_fails 72 = .ok (.if_icmp .eq 22, 3) := dko_159 (dk_t 5 72 [159, 0, 22, 29, 17, 252, 24] dwX7_fails_67 rfl rfl)
theorem dX7_fails_75 : decode cX7_fails 75 = .ok (.iload_n 3, 1) := dko_29 (dk_t 8 75 [29, 17, 252, 24] dwX7_fails_67 rfl rfl)
theorem dX7_fails_76 : decode cX7_fails 76 = .ok (.sipush (-1000), 3) := dko_17 (dk_t 9 76 [17, 252, 24] dwX7_fails_67 rfl rfl)
theorem dwX7_fails_79 : dkW cX7_fails 79 [159, 0, 15, 42, 29, 182, 0, 62, 153, 0, 7, 4] = true := by decide +kernel
theorem dX7_fails_79 : decode cX7_fails 79 = .ok (.if_icmp .eq 15, 3) := dko_159 dwX7_fails_79
theorem dX7_fails_82 : decode cX7_fails 82 = .ok (.aload_n 0, 1) := dko_42 (dk_t 3 82 [42, 29, 182, 0, 62, 153, 0, 7, 4] dwX7_fails_79 rfl rfl)
theorem dX7_fails_83 : decode cX7_fails 83 = .ok (.iload_n 3, 1) := dko_29 (dk_t 4 83 [29, 182, 0, 62, 153, 0, 7, 4] dwX7_fails_79 rfl rfl)
theorem dX7_fails_84 : decode cX7_fails 84 = .ok (.invokevirtual 62, 3) := dko_182 (dk_t 5 84 [182, 0, 62, 153, 0, 7, 4] dwX7_fails_79 rfl rfl)
theorem dX7_fails_87 : decode cX7_fails 87 = .ok (.ifCond .eq 7, 3) := dko_153 (dk_t 8 87 [153, 0, 7, 4] dwX7_fails_79 rfl rfl)
theorem dX7_fails_90 : decode cX7_fails 90 = .ok (.iconst 1, 1) := dko_4 (dk_t 11 90 [4] dwX7_fails_79 rfl rfl)
theorem dwX7_fails_91 : dkW cX7_fails 91 [167, 0, 4, 3, 172, 29, 18, 65, 159, 0, 15, 42, 29] = true := by decide +kernel
theorem dX7_fails_91 : decode cX7_fails 91 = .ok (.goto 4, 3) := dko_167 dwX7_fails_91
theorem dX7_fails_94 : decode cX7_fails 94 = .ok (.iconst 0, 1) := dko_3 (dk_t 3 94 [3, 172, 29, 18, 65, 159, 0, 15, 42, 29] dwX7_fails_91 rfl rfl)
theorem dX7_fails_95 : decode cX7_fails 95 = .ok (.ireturn, 1) := dko_172 (dk_t 4 95 [172, 29, 18, 65, 159, 0, 15, 42, 29] dwX7_fails_91 rfl rfl)
theorem dX7_fails_96 : decode cX7_fails 96 = .ok (.iload_n 3, 1) := dko_29 (dk_t 5 96 [29, 18, 65, 159, 0, 15, 42, 29] dwX7_fails_91 rfl rfl)
theorem dX7_fails_97 : decode cX7_fails 97 = .ok (.ldc 65, 2) := dko_18 (dk_t 6 97 [18, 65, 159, 0, 15, 42, 29] dwX7_fails_91 rfl rfl)
theorem dX7_fails_99 : decode cX7_fails 99 = .ok (.if_icmp .eq 15, 3) := dko_159 (dk_t 8 99 [159, 0, 15, 42, 29] dwX7_fails_91 rfl rfl)
theorem dX7_fails_102 : decode cX7_fails 102 = .ok (.aload_n 0, 1) := dko_42 (dk_t 11 102 [42, 29] dwX7_fails_91 rfl rfl)
theorem dX7_fails_103 : decode cX7_fails 103 = .ok (.iload_n 3, 1) := dko_29 (dk_t 12 103 [29] dwX7_fails_91 rfl rfl)
theorem dwX7_fails_104 : dkW cX7_fails 104 [182, 0, 62, 153, 0, 7, 4, 167, 0, 4, 3, 172, 29, 4] = true := by decide +kernel
theorem dX7_fails_104 : decode cX7_fails 104 = .ok (.invokevirtual 62, 3) := dko_182 dwX7_fails_104
theorem dX7_fails_107 : decode cX7_fails 107 = .ok (.ifCond .eq 7, 3) := dko_153 (dk_t 3 107 [153, 0, 7, 4, 167, 0, 4, 3, 172, 29, 4] dwX7_fails_104 rfl rfl)
theorem dX7_fails_110 : decode cX7_fails 110 = .ok (.iconst 1, 1) := dko_4 (dk_t 6 110 [4, 167, 0, 4, 3, 172, 29, 4] dwX7_fails_104 rfl rfl)
theorem dX7_fails_111 : decode cX7_fails 111 = .ok (.goto 4, 3) := dko_167 (dk_t 7 111 [167, 0, 4, 3, 172, 29, 4] dwX7_fails_104 rfl rfl)
theorem dX7_fails_114 : decode cX7_fails 114 = .ok (.iconst 0, 1) := dko_3 (dk_t 10 114 [3, 172, 29, 4] dwX7_fails_104 rfl rfl)
theorem dX7_fails_115 : decode cX7_fails 115 = .ok (.ireturn, 1) := dko_172 (dk_t 11 115 [172, 29, 4] dwX7_fails_104 rfl rfl)
theorem dX7_fails_116 : decode cX7_fails 116 = .ok (.iload_n 3, 1) := dko_29 (dk_t 12 116 [29, 4] dwX7_fails_104 rfl rfl)
theorem dX7_fails_117 : decode cX7_fails 117 = .ok (.iconst 1, 1) := dko_4 (dk_t 13 117 [4] dwX7_fails_104 rfl rfl)
theorem dwX7_fails_118 : dkW cX7_fails 118 [126, 4, 160, 0, 17, 42, 29, 4, 122, 182, 0, 62] = true := by decide +kernel
theorem dX7_fails_118 : decode cX7_fails 118 = .ok (.iand, 1) := dko_126 dwX7_fails_118
theorem dX7_fails_119 : decode cX7_fails 119 = .ok (.iconst 1, 1) := dko_4 (dk_t 1 119 [4, 160, 0, 17, 42, 29, 4, 122, 182, 0, 62] dwX7_fails_118 rfl rfl)
theorem dX7_fails_120 : decode cX7_fails 120 = .ok (.if_icmp .ne 17, 3) := dko_160 (dk_t 2 120 [160, 0, 17, 42, 29, 4, 122, 182, 0, 62] dwX7_fails_118 rfl rfl)
theorem dX7_fails_123 : decode cX7_fails 123 = .ok (.aload_n 0, 1) := dko_42 (dk_t 5 123 [42, 29, 4, 122, 182, 0, 62] dwX7_fails_118 rfl rfl)
theorem dX7_fails_124 : decode cX7_fails 124 = .ok (.iload_n 3, 1) := dko_29 (dk_t 6 124 [29, 4, 122, 182, 0, 62] dwX7_fails_118 rfl rfl)
theorem dX7_fails_125 : decode cX7_fails 125 = .ok (.iconst 1, 1) := dko_4 (dk_t 7 125 [4, 122, 182, 0, 62] dwX7_fails_118 rfl rfl)
theorem dX7_fails_126 : decode cX7_fails 126 = .ok (.ishr, 1) := dko_122 (dk_t 8 126 [122, 182, 0, 62] dwX7_fails_118 rfl rfl)
theorem dX7_fails_127 : decode cX7_fails 127 = .ok (.invokevirtual 62, 3) := dko_182 (dk_t 9 127 [182, 0, 62] dwX7_fails_118 rfl rfl)
theorem dwX7_fails_130 : dkW cX7_fails 130 [153, 0, 7, 4, 167, 0, 4, 3, 172, 42, 43, 28] = true := by decide +kernel
theorem dX7_fails_130 : decode cX7_fails 130 = .ok (.ifCond .eq 7, 3) := dko_153 dwX7_fails_130
theorem dX7_fails_133 : decode cX7_fails 133 = .ok (.iconst 1, 1) := dko_4 (dk_t 3 133 [4, 167, 0, 4, 3, 172, 42, 43, 28] dwX7_fails_130 rfl rfl)
theorem dX7_fails_134 : decode cX7_fails 134 = .ok (.goto 4, 3) := dko_167 (dk_t 4 134 [167, 0, 4, 3, 172, 42, 43, 28] dwX7_fails_130 rfl rfl)
theorem dX7_fails_137 : decode cX7_fails 137 = .ok (.iconst 0, 1) := dko_3 (dk_t 7 137 [3, 172, 42, 43, 28] dwX7_fails_130 rfl rfl)
theorem dX7_fails_138 : decode cX7_fails 138 = .ok (.ireturn, 1) := dko_172 (dk_t 8 138 [172, 42, 43, 28] dwX7_fails_130 rfl rfl)
theorem dX7_fails_139 : decode cX7_fails 139 = .ok (.aload_n 0, 1) := dko_42 (dk_t 9 139 [42, 43, 28] dwX7_fails_130 rfl rfl)
theorem dX7_fails_140 : decode cX7_fails 140 = .ok (.aload_n 1, 1) := dko_43 (dk_t 10 140 [43, 28] dwX7_fails_130 rfl rfl)
theorem dX7_fails_141 : decode cX7_fails 141 = .ok (.iload_n 2, 1) := dko_28 (dk_t 11 141 [28] dwX7_fails_130 rfl rfl)
theorem dwX7_fails_142 : dkW cX7_fails 142 [182, 0, 66, 172] = true := by decide +kernel
theorem dX7_fails_142 : decode cX7_fails 142 = .ok (.invokevirtual 66, 3) := dko_182 dwX7_fails_142
theorem dX7_fails_145 : decode cX7_fails 145 = .ok (.ireturn, 1) := dko_172 (dk_t 3 145 [172] dwX7_fails_142 rfl rfl)
theorem dwX7_isOutside_0 : dkW cX7_isOutside 0 [27, 42, 180, 0, 70, 161, 0, 11, 27, 42, 180, 0, 73] = true := by decide +kernel
theorem dX7_isOutside_0 : decode cX7_isOutside 0 = .ok (.iload_n 1, 1) := dko_27 dwX7_isOutside_0
theorem dX7_isOutside_1 : decode cX7_isOutside 1 = .ok (.aload_n 0, 1) := dko_42 (dk_t 1 1 [42, 180, 0, 70, 161, 0, 11, 27, 42, 180, 0, 73] dwX7_isOutside_0 rfl rfl)
theorem dX7_isOutside_2 : decode cX7_isOutside 2 = .ok (.getfield 70, 3) := dko_180 (dk_t 2 2 [180, 0, 70, 161, 0, 11, 27, 42, 180, 0, 73] dwX7_isOutside_0 rfl rfl)
theorem dX7_isOutside_5 : decode cX7_isOutside 5 = .ok (.if_icmp .lt 11, 3) := dko_161 (dk_t 5 5 [161, 0, 11, 27, 42, 180, 0, 73] dwX7_isOutside_0 rfl rfl)
theorem dX7_isOutside_8 : decode cX7_isOutside 8 = .ok (.iload_n 1, 1) := dko_27 (dk_t 8 8 [27, 42, 180, 0, 73] dwX7_isOutside_0 rfl rfl)
theorem dX7_isOutside_9 : decode cX7_isOutside 9 = .ok (.aload_n 0, 1) := dko_42 (dk_t 9 9 [42, 180, 0, 73] dwX7_isOutside_0 rfl rfl)
theorem dX7_isOutside_10 : decode cX7_isOutside 10 = .ok (.getfield 73, 3) := dko_180 (dk_t 10 10 [180, 0, 73] dwX7_isOutside_0 rfl rfl)
theorem dwX7_isOutside_13 : dkW cX7_isOutside 13 [164, 0, 7, 4, 167, 0, 4, 3, 172] = true := by decide +kernel
theorem dX7_isOutside_13 : decode cX7_isOutside 13 = .ok (.if_icmp .le 7, 3) := dko_164 dwX7_isOutside_13
theorem dX7_isOutside_16 : decode cX7_isOutside 16 = .ok (.iconst 1, 1) := dko_4 (dk_t 3 16 [4, 167, 0, 4, 3, 172] dwX7_isOutside_13 rfl rfl)
theorem dX7_isOutside_17 : decode cX7_isOutside 17 = .ok (.goto 4, 3) := dko_167 (dk_t 4 17 [167, 0, 4, 3, 172] dwX7_isOutside_13 rfl rfl)
theorem dX7_isOutside_20 : decode cX7_isOutside 20 = .ok (.iconst 0, 1) := dko_3 (dk_t 7 20 [3, 172] dwX7_isOutside_13 rfl rfl)
theorem dX7_isOutside_21 : decode cX7_isOutside 21 = .ok (.ireturn, 1) := dko_172 (dk_t 8 21 [172] dwX7_isOutside_13 rfl rfl)
theorem dwX7_isOnRing_0 : dkW cX7_isOnRing 0 [43, 42, 180, 0, 39, 28, 42, 180, 0, 42, 182, 0, 59, 62] = true := by decide +kernel
theorem dX7_isOnRing_0 : decode cX7_isOnRing 0 = .ok (.aload_n 1, 1) := dko_43 dwX7_isOnRing_0
theorem dX7_isOnRing_1 : decode cX7_isOnRing 1 = .ok (.aload_n 0, 1) := dko_42 (dk_t 1 1 [42, 180, 0, 39, 28, 42, 180, 0, 42, 182, 0, 59, 62] dwX7_isOnRing_0 rfl rfl)
theorem dX7_isOnRing_2 : decode cX7_isOnRing 2 = .ok (.getfield 39, 3) := dko_180 (dk_t 2 2 [180, 0, 39, 28, 42, 180, 0, 42, 182, 0, 59, 62] dwX7_isOnRing_0 rfl rfl)
theorem dX7_isOnRing_5 : decode cX7_isOnRing 5 = .ok (.iload_n 2, 1) := dko_28 (dk_t 5 5 [28, 42, 180, 0, 42, 182, 0, 59, 62] dwX7_isOnRing_0 rfl rfl)
theorem dX7_isOnRing_6 : decode cX7_isOnRing 6 = .ok (.aload_n 0, 1) := dko_42 (dk_t 6 6 [42, 180, 0, 42, 182, 0, 59, 62] dwX7_isOnRing_0 rfl rfl)
theorem dX7_isOnRing_7 : decode cX7_isOnRing 7 = .ok (.getfield 42, 3) := dko_180 (dk_t 7 7 [180, 0, 42, 182, 0, 59, 62] dwX7_isOnRing_0 rfl rfl)
theorem dX7_isOnRing_10 : decode cX7_isOnRing 10 = .ok (.invokevirtual 59, 3) := dko_182 (dk_t 10 10 [182, 0, 59, 62] dwX7_isOnRing_0 rfl rfl)
theorem dX7_isOnRing_13 : decode cX7_isOnRing 13 = .ok (.istore_n 3, 1) := dko_62 (dk_t 13 13 [62] dwX7_isOnRing_0 rfl rfl)
theorem dwX7_isOnRing_14 : dkW cX7_isOnRing 14 [3, 54, 4, 21, 4, 16, 30, 162, 0, 42, 43, 42] = true := by decide +kernel
theorem dX7_isOnRing_14 : decode cX7_isOnRing 14 = .ok (.iconst 0, 1) := dko_3 dwX7_isOnRing_14
theorem dX7_isOnRing_15 : decode cX7_isOnRing 15 = .ok (.istore 4, 2) := dko_54 (dk_t 1 15 [54, 4, 21, 4, 16, 30, 162, 0, 42, 43, 42] dwX7_isOnRing_14 rfl rfl)
theorem dX7_isOnRing_17 : decode cX7_isOnRing 17 = .ok (.iload 4, 2) := dko_21 (dk_t 3 17 [21, 4, 16, 30, 162, 0, 42, 43, 42] dwX7_isOnRing_14 rfl rfl)
theorem dX7_isOnRing_19 : decode cX7_isOnRing 19 = .ok (.bipush 30, 2) := dko_16 (dk_t 5 19 [16, 30, 162, 0, 42, 43, 42] dwX7_isOnRing_14 rfl rfl)
theorem dX7_isOnRing_21 : decode cX7_isOnRing 21 = .ok (.if_icmp .ge 42, 3) := dko_162 (dk_t 7 21 [162, 0, 42, 43, 42] dwX7_isOnRing_14 rfl rfl)
theorem dX7_isOnRing_24 : decode cX7_isOnRing 24 = .ok (.aload_n 1, 1) := dko_43 (dk_t 10 24 [43, 42] dwX7_isOnRing_14 rfl rfl)
theorem dX7_isOnRing_25 : decode cX7_isOnRing 25 = .ok (.aload_n 0, 1) := dko_42 (dk_t 11 25 [42] dwX7_isOnRing_14 rfl rfl)
theorem dwX7_isOnRing_26 : dkW cX7_isOnRing 26 [180, 0, 39, 29, 182, 0, 51, 153, 0, 30, 29, 28] = true := by decide +kernel
theorem dX7_isOnRing_26 : decode cX7_isOnRing 26 = .ok (.getfield 39, 3) := dko_180 dwX7_isOnRing_26
theorem dX7_isOnRing_29 : decode cX7_isOnRing 29 = .ok (.iload_n 3, 1) := dko_29 (dk_t 3 29 [29, 182, 0, 51, 153, 0, 30, 29, 28] dwX7_isOnRing_26 rfl rfl)
theorem dX7_isOnRing_30 : decode cX7_isOnRing 30 = .ok (.invokevirtual 51, 3) := dko_182 (dk_t 4 30 [182, 0, 51, 153, 0, 30, 29, 28] dwX7_isOnRing_26 rfl rfl)
theorem dX7_isOnRing_33 : decode cX7_isOnRing 33 = .ok (.ifCond .eq 30, 3) := dko_153 (dk_t 7 33 [153, 0, 30, 29, 28] dwX7_isOnRing_26 rfl rfl)
theorem dX7_isOnRing_36 : decode cX7_isOnRing 36 = .ok (.iload_n 3, 1) := dko_29 (dk_t 10 36 [29, 28] dwX7_isOnRing_26 rfl rfl)
theorem dX7_isOnRing_37 : decode cX7_isOnRing 37 = .ok (.iload_n 2, 1) := dko_28 (dk_t 11 37 [28] dwX7_isOnRing_26 rfl rfl)
theorem dwX7_isOnRing_38 : dkW cX7_isOnRing 38 [160, 0, 5, 4, 172, 43, 42, 180, 0, 39, 29, 42] = true := by decide +kernel
theorem dX7_isOnRing_38 : decode cX7_isOnRing 38 = .ok (.if_icmp .ne 5, 3) := dko_160 dwX7_isOnRing_38
theorem dX7_isOnRing_41 : decode cX7_isOnRing 41 = .ok (.iconst 1, 1) := dko_4 (dk_t 3 41 [4, 172, 43, 42, 180, 0, 39, 29, 42] dwX7_isOnRing_38 rfl rfl)
theorem dX7_isOnRing_42 : decode cX7_isOnRing 42 = .ok (.ireturn, 1) := dko_172 (dk_t 4 42 [172, 43, 42, 180, 0, 39, 29, 42] dwX7_isOnRing_38 rfl rfl)
theorem dX7_isOnRing_43 : decode cX7_isOnRing 43 = .ok (.aload_n 1, 1) := dko_43 (dk_t 5 43 [43, 42, 180, 0, 39, 29, 42] dwX7_isOnRing_38 rfl rfl)
theorem dX7_isOnRing_44 : decode cX7_isOnRing 44 = .ok (.aload_n 0, 1) := dko_42 (dk_t 6 44 [42, 180, 0, 39, 29, 42] dwX7_isOnRing_38 rfl rfl)
theorem dX7_isOnRing_45 : decode cX7_isOnRing 45 = .ok (.getfield 39, 3) := dko_180 (dk_t 7 45 [180, 0, 39, 29, 42] dwX7_isOnRing_38 rfl rfl)
theorem dX7_isOnRing_48 : decode cX7_isOnRing 48 = .ok (.iload_n 3, 1) := dko_29 (dk_t 10 48 [29, 42] dwX7_isOnRing_38 rfl rfl)
theorem dX7_isOnRing_49 : decode cX7_isOnRing 49 = .ok (.aload_n 0, 1) := dko_42 (dk_t 11 49 [42] dwX7_isOnRing_38 rfl rfl)
theorem dwX7_isOnRing_50 : dkW cX7_isOnRing 50 [180, 0, 42, 182, 0, 59, 62, 132, 4, 1, 167, 255, 213, 3] = true := by decide +kernel
theorem dX7_isOnRing_50 : decode cX7_isOnRing 50 = .ok (.getfield 42, 3) := dko_180 dwX7_isOnRing_50
theorem dX7_isOnRing_53 : decode cX7_isOnRing 53 = .ok (.invokevirtual 59, 3) := dko_182 (dk_t 3 53 [182, 0, 59, 62, 132, 4, 1, 167, 255, 213, 3] dwX7_isOnRing_50 rfl rfl)
theorem dX7_isOnRing_56 : decode cX7_isOnRing 56 = .ok (.istore_n 3, 1) := dko_62 (dk_t 6 56 [62, 132, 4, 1, 167, 255, 213, 3] dwX7_isOnRing_50 rfl rfl)
theorem dX7_isOnRing_57 : decode cX7_isOnRing 57 = .ok (.iinc 4 1, 3) := dko_132 (dk_t 7 57 [132, 4, 1, 167, 255, 213, 3] dwX7_isOnRing_50 rfl rfl)
theorem dX7_isOnRing_60 : decode cX7_isOnRing 60 = .ok (.goto (-43), 3) := dko_167 (dk_t 10 60 [167, 255, 213, 3] dwX7_isOnRing_50 rfl rfl)
theorem dX7_isOnRing_63 : decode cX7_isOnRing 63 = .ok (.iconst 0, 1) := dko_3 (dk_t 13 63 [3] dwX7_isOnRing_50 rfl rfl)
theorem dwX7_isOnRing_64 : dkW cX7_isOnRing 64 [172] = true := by decide +kernel
theorem dX7_isOnRing_64 : decode cX7_isOnRing 64 = .ok (.ireturn, 1) := dko_172 dwX7_isOnRing_64
theorem dwX8_init_0 : dkW cX8_init 0 [42, 183, 0, 1, 42, 16, 80, 188, 5, 181, 0, 9, 177] = true := by decide +kernel
theorem dX8_init_0 : decode cX8_init 0 = .ok (.aload_n 0, 1) := dko_42 dwX8_init_0
theorem dX8_init_1 : decode cX8_init 1 = .ok (.invokespecial 1, 3) := dko_183 (dk_t 1 1 [183, 0, 1, 42, 16, 80, 188, 5, 181, 0, 9, 177] dwX8_init_0 rfl rfl)
theorem dX8_init_4 : decode cX8_init 4 = .ok (.aload_n 0, 1) := dko_42 (dk_t 4 4 [42, 16, 80, 188, 5, 181, 0, 9, 177] dwX8_init_0 rfl rfl)
theorem dX8_init_5 : decode cX8_init 5 = .ok (.bipush 80, 2) := dko_16 (dk_t 5 5 [16, 80, 188, 5, 181, 0, 9, 177] dwX8_init_0 rfl rfl)
theorem dX8_init_7 : decode cX8_init 7 = .ok (.newarray .char, 2) := dko_188_5 (dk_t 7 7 [188, 5, 181, 0, 9, 177] dwX8_init_0 rfl rfl)
theorem dX8_init_9 : decode cX8_init 9 = .ok (.putfield 9, 3) := dko_181 (dk_t 9 9 [181, 0, 9, 177] dwX8_init_0 rfl rfl)
theorem dX8_init_12 : decode cX8_init 12 = .ok (.return_, 1) := dko_177 (dk_t 12 12 [177] dwX8_init_0 rfl rfl)
theorem dwX8_length_0 : dkW cX8_length 0 [42, 180, 0, 13, 172] = true := by decide +kernel
theorem dX8_length_0 : decode cX8_length 0 = .ok (.aload_n 0, 1) := dko_42 dwX8_length_0
theorem dX8_length_1 : decode cX8_length 1 = .ok (.getfield 13, 3) := dko_180 (dk_t 1 1 [180, 0, 13, 172] dwX8_length_0 rfl rfl)
theorem dX8_length_4 : decode cX8_length 4 = .ok (.ireturn, 1) := dko_172 (dk_t 4 4 [172] dwX8_length_0 rfl rfl)
theorem dwX8_signAt_0 : dkW cX8_signAt 0 [27, 155, 0, 26, 27, 42, 180, 0, 13, 162, 0, 18, 27] = true := by decide +kernel
theorem dX8_signAt_0 : decode cX8_signAt 0 = .ok (.iload_n 1, 1) := dko_27 dwX8_signAt_0
theorem dX8_signAt_1 : decode cX8_signAt 1 = .ok (.ifCond .lt 26, 3) := dko_155 (dk_t 1 1 [155, 0, 26, 27, 42, 180, 0, 13, 162, 0, 18, 27] dwX8_signAt_0 rfl rfl)
theorem dX8_signAt_4 : decode cX8_signAt 4 = .ok (.iload_n 1, 1) := dko_27 (dk_t 4 4 [27, 42, 180, 0, 13, 162, 0, 18, 27] dwX8_signAt_0 rfl rfl)
theorem dX8_signAt_5 : decode cX8_signAt 5 = .ok (.aload_n 0, 1) := dko_42 (dk_t 5 5 [42, 180, 0, 13, 162, 0, 18, 27] dwX8_signAt_0 rfl rfl)
theorem dX8_signAt_6 : decode cX8_signAt 6 = .ok (.getfield 13, 3) := dko_180 (dk_t 6 6 [180, 0, 13, 162, 0, 18, 27] dwX8_signAt_0 rfl rfl)
theorem dX8_signAt_9 : decode cX8_signAt 9 = .ok (.if_icmp .ge 18, 3) := dko_162 (dk_t 9 9 [162, 0, 18, 27] dwX8_signAt_0 rfl rfl)
theorem dX8_signAt_12 : decode cX8_signAt 12 = .ok (.iload_n 1, 1) := dko_27 (dk_t 12 12 [27] dwX8_signAt_0 rfl rfl)
theorem dwX8_signAt_13 : dkW cX8_signAt 13 [16, 80, 162, 0, 12, 42, 180, 0, 9, 27, 52, 167, 0, 4] = true := by decide +kernel
theorem dX8_signAt_13 : decode cX8_signAt 13 = .ok (.bipush 80, 2) := dko_16 dwX8_signAt_13
theorem dX8_signAt_15 : decode cX8_signAt 15 = .ok (.if_icmp .ge 12, 3) := dko_162 (dk_t 2 15 [162, 0, 12, 42, 180, 0, 9, 27, 52, 167, 0, 4] dwX8_signAt_13 rfl rfl)
theorem dX8_signAt_18 : decode cX8_signAt 18 = .ok (.aload_n 0, 1) := dko_42 (dk_t 5 18 [42, 180, 0, 9, 27, 52, 167, 0, 4] dwX8_signAt_13 rfl rfl)
theorem dX8_signAt_19 : decode cX8_signAt 19 = .ok (.getfield 9, 3) := dko_180 (dk_t 6 19 [180, 0, 9, 27, 52, 167, 0, 4] dwX8_signAt_13 rfl rfl)
theorem dX8_signAt_22 : decode cX8_signAt 22 = .ok (.iload_n 1, 1) := dko_27 (dk_t 9 22 [27, 52, 167, 0, 4] dwX8_signAt_13 rfl rfl)
theorem dX8_signAt_23 : decode cX8_signAt 23 = .ok (.caload, 1) := dko_52 (dk_t 10 23 [52, 167, 0, 4] dwX8_signAt_13 rfl rfl)
theorem dX8_signAt_24 : decode cX8_signAt 24 = .ok (.goto 4, 3) := dko_167 (dk_t 11 24 [167, 0, 4] dwX8_signAt_13 rfl rfl)
theorem dwX8_signAt_27 : dkW cX8_signAt 27 [3, 172] = true := by decide +kernel
theorem dX8_signAt_27 : decode cX8_signAt 27 = .ok (.iconst 0, 1) := dko_3 dwX8_signAt_27
theorem dX8_signAt_28 : decode cX8_signAt 28 = .ok (.ireturn, 1) := dko_172 (dk_t 1 28 [172] dwX8_signAt_27 rfl rfl)
theorem dwX8_addFour_0 : dkW cX8_addFour 0 [42, 180, 0, 13, 7, 96, 16, 80, 164, 0, 5, 3, 172] = true := by decide +kernel
theorem dX8_addFour_0 : decode cX8_addFour 0 = .ok (.aload_n 0, 1) := dko_42 dwX8_addFour_0
theorem dX8_addFour_1 : decode cX8_addFour 1 = .ok (.getfield 13, 3) := dko_180 (dk_t 1 1 [180, 0, 13, 7, 96, 16, 80, 164, 0, 5, 3, 172] dwX8_addFour_0 rfl rfl)
theorem dX8_addFour_4 : decode cX8_addFour 4 = .ok (.iconst 4, 1) := dko_7 (dk_t 4 4 [7, 96, 16, 80, 164, 0, 5, 3, 172] dwX8_addFour_0 rfl rfl)
theorem dX8_addFour_5 : decode cX8_addFour 5 = .ok (.iadd, 1) := dko_96 (dk_t 5 5 [96, 16, 80, 164, 0, 5, 3, 172] dwX8_addFour_0 rfl rfl)
theorem dX8_addFour_6 : decode cX8_addFour 6 = .ok (.bipush 80, 2) := dko_16 (dk_t 6 6 [16, 80, 164, 0, 5, 3, 172] dwX8_addFour_0 rfl rfl)
theorem dX8_addFour_8 : decode cX8_addFour 8 = .ok (.if_icmp .le 5, 3) := dko_164 (dk_t 8 8 [164, 0, 5, 3, 172] dwX8_addFour_0 rfl rfl)
theorem dX8_addFour_11 : decode cX8_addFour 11 = .ok (.iconst 0, 1) := dko_3 (dk_t 11 11 [3, 172] dwX8_addFour_0 rfl rfl)
theorem dX8_addFour_12 : decode cX8_addFour 12 = .ok (.ireturn, 1) := dko_172 (dk_t 12 12 [172] dwX8_addFour_0 rfl rfl)
theorem dwX8_addFour_13 : dkW cX8_addFour 13 [16, 24, 61, 28, 155, 0, 52, 42, 180, 0, 13, 155, 0, 39] = true := by decide +kernel
theorem dX8_addFour_13 : decode cX8_addFour 13 = .ok (.bipush 24, 2) := dko_16 dwX8_addFour_13
theorem dX8_addFour_15 : decode cX8_addFour 15 = .ok (.istore_n 2, 1) := dko_61 (dk_t 2 15 [61, 28, 155, 0, 52, 42, 180, 0, 13, 155, 0, 39] dwX8_addFour_13 rfl rfl)
theorem dX8_addFour_16 : decode cX8_addFour 16 = .ok (.iload_n 2, 1) := dko_28 (dk_t 3 16 [28, 155, 0, 52, 42, 180, 0, 13, 155, 0, 39] dwX8_addFour_13 rfl rfl)
theorem dX8_addFour_17 : decode cX8_addFour 17 = .ok (.ifCond .lt 52, 3) := dko_155 (dk_t 4 17 [155, 0, 52, 42, 180, 0, 13, 155, 0, 39] dwX8_addFour_13 rfl rfl)
theorem dX8_addFour_20 : decode cX8_addFour 20 = .ok (.aload_n 0, 1) := dko_42 (dk_t 7 20 [42, 180, 0, 13, 155, 0, 39] dwX8_addFour_13 rfl rfl)
theorem dX8_addFour_21 : decode cX8_addFour 21 = .ok (.getfield 13, 3) := dko_180 (dk_t 8 21 [180, 0, 13, 155, 0, 39] dwX8_addFour_13 rfl rfl)
theorem dX8_addFour_24 : decode cX8_addFour 24 = .ok (.ifCond .lt 39, 3) := dko_155 (dk_t 11 24 [155, 0, 39] dwX8_addFour_13 rfl rfl)
theorem dwX8_addFour_27 : dkW cX8_addFour 27 [42, 180, 0, 13, 16, 80, 162, 0, 30, 42, 180, 0, 9, 42] = true := by decide +kernel
theorem dX8_addFour_27 : decode cX8_addFour 27 = .ok (.aload_n 0, 1) := dko_42 dwX8_addFour_27
theorem dX8_addFour_28 : decode cX8_addFour 28 = .ok (.getfield 13, 3) := dko_180 (dk_t 1 28 [180, 0, 13, 16, 80, 162, 0, 30, 42, 180, 0, 9, 42] dwX8_addFour_27 rfl rfl)
theorem dX8_addFour_31 : decode cX8_addFour 31 = .ok (.bipush 80, 2) := dko_16 (dk_t 4 31 [16, 80, 162, 0, 30, 42, 180, 0, 9, 42] dwX8_addFour_27 rfl rfl)
theorem dX8_addFour_33 : decode cX8_addFour 33 = .ok (.if_icmp .ge 30, 3) := dko_162 (dk_t 6 33 [162, 0, 30, 42, 180, 0, 9, 42] dwX8_addFour_27 rfl rfl)
theorem dX8_addFour_36 : decode cX8_addFour 36 = .ok (.aload_n 0, 1) := dko_42 (dk_t 9 36 [42, 180, 0, 9, 42] dwX8_addFour_27 rfl rfl)
theorem dX8_addFour_37 : decode cX8_addFour 37 = .ok (.getfield 9, 3) := dko_180 (dk_t 10 37 [180, 0, 9, 42] dwX8_addFour_27 rfl rfl)
theorem dX8_addFour_40 : decode cX8_addFour 40 = .ok (.aload_n 0, 1) := dko_42 (dk_t 13 40 [42] dwX8_addFour_27 rfl rfl)
theorem dwX8_addFour_41 : dkW cX8_addFour 41 [180, 0, 13, 27, 28, 124, 17, 0, 255, 126, 146, 85, 42, 89] = true := by decide +kernel
theorem dX8_addFour_41 : decode cX8_addFour 41 = .ok (.getfield 13, 3) := dko_180 dwX8_addFour_41
theorem dX8_addFour_44 : decode cX8_addFour 44 = .ok (.iload_n 1, 1) := dko_27 (dk_t 3 44 [27, 28, 124, 17, 0, 255, 126, 146, 85, 42, 89] dwX8_addFour_41 rfl rfl)
theorem dX8_addFour_45 : decode cX8_addFour 45 = .ok (.iload_n 2, 1) := dko_28 (dk_t 4 45 [28, 124, 17, 0, 255, 126, 146, 85, 42, 89] dwX8_addFour_41 rfl rfl)
theorem dX8_addFour_46 : decode cX8_addFour 46 = .ok (.iushr, 1) := dko_124 (dk_t 5 46 [124, 17, 0, 255, 126, 146, 85, 42, 89] dwX8_addFour_41 rfl rfl)
theorem dX8_addFour_47 : decode cX8_addFour 47 = .ok (.sipush 255, 3) := dko_17 (dk_t 6 47 [17, 0, 255, 126, 146, 85, 42, 89] dwX8_addFour_41 rfl rfl)
theorem dX8_addFour_50 : decode cX8_addFour 50 = .ok (.iand, 1) := dko_126 (dk_t 9 50 [126, 146, 85, 42, 89] dwX8_addFour_41 rfl rfl)
theorem dX8_addFour_51 : decode cX8_addFour 51 = .ok (.i2c, 1) := dko_146 (dk_t 10 51 [146, 85, 42, 89] dwX8_addFour_41 rfl rfl)
theorem dX8_addFour_52 : decode cX8_addFour 52 = .ok (.castore, 1) := dko_85 (dk_t 11 52 [85, 42, 89] dwX8_addFour_41 rfl rfl)
theorem dX8_addFour_53 : decode cX8_addFour 53 = .ok (.aload_n 0, 1) := dko_42 (dk_t 12 53 [42, 89] dwX8_addFour_41 rfl rfl)
theorem dX8_addFour_54 : decode cX8_addFour 54 = .ok (.dup, 1) := dko_89 (dk_t 13 54 [89] dwX8_addFour_41 rfl rfl)
theorem dwX8_addFour_55 : dkW cX8_addFour 55 [180, 0, 13, 4, 96, 181, 0, 13, 132, 2, 248, 167, 255, 206] = true := by decide +kernel
theorem dX8_addFour_55 : decode cX8_addFour 55 = .ok (.getfield 13, 3) := dko_180 dwX8_addFour_55
theorem dX8_addFour_58 : decode cX8_addFour 58 = .ok (.iconst 1, 1) := dko_4 (dk_t 3 58 [4, 96, 181, 0, 13, 132, 2, 248, 167, 255, 206] dwX8_addFour_55 rfl rfl)
theorem dX8_addFour_59 : decode cX8_addFour 59 = .ok (.iadd, 1) := dko_96 (dk_t 4 59 [96, 181, 0, 13, 132, 2, 248, 167, 255, 206] dwX8_addFour_55 rfl rfl)
theorem dX8_addFour_60 : decode cX8_addFour 60 = .ok (.putfield 13, 3) := dko_181 (dk_t 5 60 [181, 0, 13, 132, 2, 248, 167, 255, 206] dwX8_addFour_55 rfl rfl)
theorem dX8_addFour_63 : decode cX8_addFour 63 = .ok (.iinc 2 (-8), 3) := dko_132 (dk_t 8 63 [132, 2, 248, 167, 255, 206] dwX8_addFour_55 rfl rfl)
theorem dX8_addFour_66 : decode cX8_addFour 66 = .ok (.goto (-50), 3) := dko_167 (dk_t 11 66 [167, 255, 206] dwX8_addFour_55 rfl rfl)
theorem dwX8_addFour_69 : dkW cX8_addFour 69 [4, 172] = true := by decide +kernel
theorem dX8_addFour_69 : decode cX8_addFour 69 = .ok (.iconst 1, 1) := dko_4 dwX8_addFour_69
theorem dX8_addFour_70 : decode cX8_addFour 70 = .ok (.ireturn, 1) := dko_172 (dk_t 1 70 [172] dwX8_addFour_69 rfl rfl)
theorem dwX8_shorten_0 : dkW cX8_shorten 0 [27, 155, 0, 11, 27, 42, 180, 0, 13, 164, 0, 5, 3, 172] = true := by decide +kernel
theorem dX8_shorten_0 : decode cX8_shorten 0 = .ok (.iload_n 1, 1) := dko_27 dwX8_shorten_0
theorem dX8_shorten_1 : decode cX8_shorten 1 = .ok (.ifCond .lt 11, 3) := dko_155 (dk_t 1 1 [155, 0, 11, 27, 42, 180, 0, 13, 164, 0, 5, 3, 172] dwX8_shorten_0 rfl rfl)
theorem dX8_shorten_4 : decode cX8_shorten 4 = .ok (.iload_n 1, 1) := dko_27 (dk_t 4 4 [27, 42, 180, 0, 13, 164, 0, 5, 3, 172] dwX8_shorten_0 rfl rfl)
theorem dX8_shorten_5 : decode cX8_shorten 5 = .ok (.aload_n 0, 1) := dko_42 (dk_t 5 5 [42, 180, 0, 13, 164, 0, 5, 3, 172] dwX8_shorten_0 rfl rfl)
theorem dX8_shorten_6 : decode cX8_shorten 6 = .ok (.getfield 13, 3) := dko_180 (dk_t 6 6 [180, 0, 13, 164, 0, 5, 3, 172] dwX8_shorten_0 rfl rfl)
theorem dX8_shorten_9 : decode cX8_shorten 9 = .ok (.if_icmp .le 5, 3) := dko_164 (dk_t 9 9 [164, 0, 5, 3, 172] dwX8_shorten_0 rfl rfl)
theorem dX8_shorten_12 : decode cX8_shorten 12 = .ok (.iconst 0, 1) := dko_3 (dk_t 12 12 [3, 172] dwX8_shorten_0 rfl rfl)
theorem dX8_shorten_13 : decode cX8_shorten 13 = .ok (.ireturn, 1) := dko_172 (dk_t 13 13 [172] dwX8_shorten_0 rfl rfl)
theorem dwX8_shorten_14 : dkW cX8_shorten 14 [42, 27, 181, 0, 13, 4, 172] = true := by decide +kernel
theorem dX8_shorten_14 : decode cX8_shorten 14 = .ok (.aload_n 0, 1) := dko_42 dwX8_shorten_14
theorem dX8_shorten_15 : decode cX8_shorten 15 = .ok (.iload_n 1, 1) := dko_27 (dk_t 1 15 [27, 181, 0, 13, 4, 172] dwX8_shorten_14 rfl rfl)
theorem dX8_shorten_16 : decode cX8_shorten 16 = .ok (.putfield 13, 3) := dko_181 (dk_t 2 16 [181, 0, 13, 4, 172] dwX8_shorten_14 rfl rfl)
theorem dX8_shorten_19 : decode cX8_shorten 19 = .ok (.iconst 1, 1) := dko_4 (dk_t 5 19 [4, 172] dwX8_shorten_14 rfl rfl)
theorem dX8_shorten_20 : decode cX8_shorten 20 = .ok (.ireturn, 1) := dko_172 (dk_t 6 20 [172] dwX8_shorten_14 rfl rfl)
theorem dwX9_init_0 : dkW cX9_init 0 [42, 183, 0, 3, 42, 187, 0, 9, 89, 183, 0, 11] = true := by decide +kernel
theorem dX9_init_0 : decode cX9_init 0 = .ok (.aload_n 0, 1) := dko_42 dwX9_init_0
theorem dX9_init_1 : decode cX9_init 1 = .ok (.invokespecial 3, 3) := dko_183 (dk_t 1 1 [183, 0, 3, 42, 187, 0, 9, 89, 183, 0, 11] dwX9_init_0 rfl rfl)
theorem dX9_init_4 : decode cX9_init 4 = .ok (.aload_n 0, 1) := dko_42 (dk_t 4 4 [42, 187, 0, 9, 89, 183, 0, 11] dwX9_init_0 rfl rfl)
theorem dX9_init_5 : decode cX9_init 5 = .ok (.new 9, 3) := dko_187 (dk_t 5 5 [187, 0, 9, 89, 183, 0, 11] dwX9_init_0 rfl rfl)
theorem dX9_init_8 : decode cX9_init 8 = .ok (.dup, 1) := dko_89 (dk_t 8 8 [89, 183, 0, 11] dwX9_init_0 rfl rfl)
theorem dX9_init_9 : decode cX9_init 9 = .ok (.invokespecial 11, 3) := dko_183 (dk_t 9 9 [183, 0, 11] dwX9_init_0 rfl rfl)
theorem dwX9_init_12 : dkW cX9_init 12 [181, 0, 12, 177] = true := by decide +kernel
theorem dX9_init_12 : decode cX9_init 12 = .ok (.putfield 12, 3) := dko_181 dwX9_init_12
theorem dX9_init_15 : decode cX9_init 15 = .ok (.return_, 1) := dko_177 (dk_t 3 15 [177] dwX9_init_12 rfl rfl)
theorem dwX9_clear_0 : dkW cX9_clear 0 [42, 3, 181, 0, 18, 42, 180, 0, 12, 3, 182, 0, 22, 177] = true := by decide +kernel
theorem dX9_clear_0 : decode cX9_clear 0 = .ok (.aload_n 0, 1) := dko_42 dwX9_clear_0
theorem dX9_clear_1 : decode cX9_clear 1 = .ok (.iconst 0, 1) := dko_3 (dk_t 1 1 [3, 181, 0, 18, 42, 180, 0, 12, 3, 182, 0, 22, 177] dwX9_clear_0 rfl rfl)
theorem dX9_clear_2 : decode cX9_clear 2 = .ok (.putfield 18, 3) := dko_181 (dk_t 2 2 [181, 0, 18, 42, 180, 0, 12, 3, 182, 0, 22, 177] dwX9_clear_0 rfl rfl)
theorem dX9_clear_5 : decode cX9_clear 5 = .ok (.aload_n 0, 1) := dko_42 (dk_t 5 5 [42, 180, 0, 12, 3, 182, 0, 22, 177] dwX9_clear_0 rfl rfl)
theorem dX9_clear_6 : decode cX9_clear 6 = .ok (.getfield 12, 3) := dko_180 (dk_t 6 6 [180, 0, 12, 3, 182, 0, 22, 177] dwX9_clear_0 rfl rfl)
theorem dX9_clear_9 : decode cX9_clear 9 = .ok (.iconst 0, 1) := dko_3 (dk_t 9 9 [3, 182, 0, 22, 177] dwX9_clear_0 rfl rfl)
theorem dX9_clear_10 : decode cX9_clear 10 = .ok (.invokevirtual 22, 3) := dko_182 (dk_t 10 10 [182, 0, 22, 177] dwX9_clear_0 rfl rfl)
theorem dX9_clear_13 : decode cX9_clear 13 = .ok (.return_, 1) := dko_177 (dk_t 13 13 [177] dwX9_clear_0 rfl rfl)
theorem dwX9_tell_0 : dkW cX9_tell 0 [42, 27, 181, 0, 26, 42, 29, 181, 0, 30, 42, 4] = true := by decide +kernel
theorem dX9_tell_0 : decode cX9_tell 0 = .ok (.aload_n 0, 1) := dko_42 dwX9_tell_0
theorem dX9_tell_1 : decode cX9_tell 1 = .ok (.iload_n 1, 1) := dko_27 (dk_t 1 1 [27, 181, 0, 26, 42, 29, 181, 0, 30, 42, 4] dwX9_tell_0 rfl rfl)
theorem dX9_tell_2 : decode cX9_tell 2 = .ok (.putfield 26, 3) := dko_181 (dk_t 2 2 [181, 0, 26, 42, 29, 181, 0, 30, 42, 4] dwX9_tell_0 rfl rfl)
theorem dX9_tell_5 : decode cX9_tell 5 = .ok (.aload_n 0, 1) := dko_42 (dk_t 5 5 [42, 29, 181, 0, 30, 42, 4] dwX9_tell_0 rfl rfl)
theorem dX9_tell_6 : decode cX9_tell 6 = .ok (.iload_n 3, 1) := dko_29 (dk_t 6 6 [29, 181, 0, 30, 42, 4] dwX9_tell_0 rfl rfl)
theorem dX9_tell_7 : decode cX9_tell 7 = .ok (.putfield 30, 3) := dko_181 (dk_t 7 7 [181, 0, 30, 42, 4] dwX9_tell_0 rfl rfl)
theorem dX9_tell_10 : decode cX9_tell 10 = .ok (.aload_n 0, 1) := dko_42 (dk_t 10 10 [42, 4] dwX9_tell_0 rfl rfl)
theorem dX9_tell_11 : decode cX9_tell 11 = .ok (.iconst 1, 1) := dko_4 (dk_t 11 11 [4] dwX9_tell_0 rfl rfl)
theorem dwX9_tell_12 : dkW cX9_tell 12 [181, 0, 18, 42, 180, 0, 12, 3, 182, 0, 22, 42] = true := by decide +kernel
theorem dX9_tell_12 : decode cX9_tell 12 = .ok (.putfield 18, 3) := dko_181 dwX9_tell_12
theorem dX9_tell_15 : decode cX9_tell 15 = .ok (.aload_n 0, 1) := dko_42 (dk_t 3 15 [42, 180, 0, 12, 3, 182, 0, 22, 42] dwX9_tell_12 rfl rfl)
theorem dX9_tell_16 : decode cX9_tell 16 = .ok (.getfield 12, 3) := dko_180 (dk_t 4 16 [180, 0, 12, 3, 182, 0, 22, 42] dwX9_tell_12 rfl rfl)
theorem dX9_tell_19 : decode cX9_tell 19 = .ok (.iconst 0, 1) := dko_3 (dk_t 7 19 [3, 182, 0, 22, 42] dwX9_tell_12 rfl rfl)
theorem dX9_tell_20 : decode cX9_tell 20 = .ok (.invokevirtual 22, 3) := dko_182 (dk_t 8 20 [182, 0, 22, 42] dwX9_tell_12 rfl rfl)
theorem dX9_tell_23 : decode cX9_tell 23 = .ok (.aload_n 0, 1) := dko_42 (dk_t 11 23 [42] dwX9_tell_12 rfl rfl)
theorem dwX9_tell_24 : dkW cX9_tell 24 [180, 0, 12, 18, 33, 182, 0, 35, 87, 42, 180, 0, 12, 27] = true := by decide +kernel
theorem dX9_tell_24 : decode cX9_tell 24 = .ok (.getfield 12, 3) := dko_180 dwX9_tell_24
theorem dX9_tell_27 : decode cX9_tell 27 = .ok (.ldc 33, 2) := dko_18 (dk_t 3 27 [18, 33, 182, 0, 35, 87, 42, 180, 0, 12, 27] dwX9_tell_24 rfl rfl)
theorem dX9_tell_29 : decode cX9_tell 29 = .ok (.invokevirtual 35, 3) := dko_182 (dk_t 5 29 [182, 0, 35, 87, 42, 180, 0, 12, 27] dwX9_tell_24 rfl rfl)
theorem dX9_tell_32 : decode cX9_tell 32 = .ok (.pop, 1) := dko_87 (dk_t 8 32 [87, 42, 180, 0, 12, 27] dwX9_tell_24 rfl rfl)
theorem dX9_tell_33 : decode cX9_tell 33 = .ok (.aload_n 0, 1) := dko_42 (dk_t 9 33 [42, 180, 0, 12, 27] dwX9_tell_24 rfl rfl)
theorem dX9_tell_34 : decode cX9_tell 34 = .ok (.getfield 12, 3) := dko_180 (dk_t 10 34 [180, 0, 12, 27] dwX9_tell_24 rfl rfl)
theorem dX9_tell_37 : decode cX9_tell 37 = .ok (.iload_n 1, 1) := dko_27 (dk_t 13 37 [27] dwX9_tell_24 rfl rfl)
theorem dwX9_tell_38 : dkW cX9_tell 38 [182, 0, 39, 87, 42, 180, 0, 12, 16, 32, 182, 0, 42, 87] = true := by decide +kernel
theorem dX9_tell_38 : decode cX9_tell 38 = .ok (.invokevirtual 39, 3) := dko_182 dwX9_tell_38
theorem dX9_tell_41 : decode cX9_tell 41 = .ok (.pop, 1) := dko_87 (dk_t 3 41 [87, 42, 180, 0, 12, 16, 32, 182, 0, 42, 87] dwX9_tell_38 rfl rfl)
theorem dX9_tell_42 : decode cX9_tell 42 = .ok (.aload_n 0, 1) := dko_42 (dk_t 4 42 [42, 180, 0, 12, 16, 32, 182, 0, 42, 87] dwX9_tell_38 rfl rfl)
theorem dX9_tell_43 : decode cX9_tell 43 = .ok (.getfield 12, 3) := dko_180 (dk_t 5 43 [180, 0, 12, 16, 32, 182, 0, 42, 87] dwX9_tell_38 rfl rfl)
theorem dX9_tell_46 : decode cX9_tell 46 = .ok (.bipush 32, 2) := dko_16 (dk_t 8 46 [16, 32, 182, 0, 42, 87] dwX9_tell_38 rfl rfl)
theorem dX9_tell_48 : decode cX9_tell 48 = .ok (.invokevirtual 42, 3) := dko_182 (dk_t 10 48 [182, 0, 42, 87] dwX9_tell_38 rfl rfl)
theorem dX9_tell_51 : decode cX9_tell 51 = .ok (.pop, 1) := dko_87 (dk_t 13 51 [87] dwX9_tell_38 rfl rfl)
theorem dwX9_tell_52 : dkW cX9_tell 52 [42, 180, 0, 12, 44, 182, 0, 35, 87, 42, 180, 0, 12] = true := by decide +kernel
theorem dX9_tell_52 : decode cX9_tell 52 = .ok (.aload_n 0, 1) := dko_42 dwX9_tell_52
theorem dX9_tell_53 : decode cX9_tell 53 = .ok (.getfield 12, 3) := dko_180 (dk_t 1 53 [180, 0, 12, 44, 182, 0, 35, 87, 42, 180, 0, 12] dwX9_tell_52 rfl rfl)
theorem dX9_tell_56 : decode cX9_tell 56 = .ok (.aload_n 2, 1) := dko_44 (dk_t 4 56 [44, 182, 0, 35, 87, 42, 180, 0, 12] dwX9_tell_52 rfl rfl)
theorem dX9_tell_57 : decode cX9_tell 57 = .ok (.invokevirtual 35, 3) := dko_182 (dk_t 5 57 [182, 0, 35, 87, 42, 180, 0, 12] dwX9_tell_52 rfl rfl)
theorem dX9_tell_60 : decode cX9_tell 60 = .ok (.pop, 1) := dko_87 (dk_t 8 60 [87, 42, 180, 0, 12] dwX9_tell_52 rfl rfl)
theorem dX9_tell_61 : decode cX9_tell 61 = .ok (.aload_n 0, 1) := dko_42 (dk_t 9 61 [42, 180, 0, 12] dwX9_tell_52 rfl rfl)
theorem dX9_tell_62 : decode cX9_tell 62 = .ok (.getfield 12, 3) := dko_180 (dk_t 10 62 [180, 0, 12] dwX9_tell_52 rfl rfl)
theorem dwX9_tell_65 : dkW cX9_tell 65 [16, 32, 182, 0, 42, 87, 42, 180, 0, 12, 29, 182, 0, 39] = true := by decide +kernel
theorem dX9_tell_65 : decode cX9_tell 65 = .ok (.bipush 32, 2) := dko_16 dwX9_tell_65
theorem dX9_tell_67 : decode cX9_tell 67 = .ok (.invokevirtual 42, 3) := dko_182 (dk_t 2 67 [182, 0, 42, 87, 42, 180, 0, 12, 29, 182, 0, 39] dwX9_tell_65 rfl rfl)
theorem dX9_tell_70 : decode cX9_tell 70 = .ok (.pop, 1) := dko_87 (dk_t 5 70 [87, 42, 180, 0, 12, 29, 182, 0, 39] dwX9_tell_65 rfl rfl)
theorem dX9_tell_71 : decode cX9_tell 71 = .ok (.aload_n 0, 1) := dko_42 (dk_t 6 71 [42, 180, 0, 12, 29, 182, 0, 39] dwX9_tell_65 rfl rfl)
theorem dX9_tell_72 : decode cX9_tell 72 = .ok (.getfield 12, 3) := dko_180 (dk_t 7 72 [180, 0, 12, 29, 182, 0, 39] dwX9_tell_65 rfl rfl)
theorem dX9_tell_75 : decode cX9_tell 75 = .ok (.iload_n 3, 1) := dko_29 (dk_t 10 75 [29, 182, 0, 39] dwX9_tell_65 rfl rfl)
theorem dX9_tell_76 : decode cX9_tell 76 = .ok (.invokevirtual 39, 3) := dko_182 (dk_t 11 76 [182, 0, 39] dwX9_tell_65 rfl rfl)
theorem dwX9_tell_79 : dkW cX9_tell 79 [87, 177] = true := by decide +kernel
theorem dX9_tell_79 : decode cX9_tell 79 = .ok (.pop, 1) := dko_87 dwX9_tell_79
theorem dX9_tell_80 : decode cX9_tell 80 = .ok (.return_, 1) := dko_177 (dk_t 1 80 [177] dwX9_tell_79 rfl rfl)
theorem dwX9_isTold_0 : dkW cX9_isTold 0 [42, 180, 0, 18, 172] = true := by decide +kernel
theorem dX9_isTold_0 : decode cX9_isTold 0 = .ok (.aload_n 0, 1) := dko_42 dwX9_isTold_0
theorem dX9_isTold_1 : decode cX9_isTold 1 = .ok (.getfield 18, 3) := dko_180 (dk_t 1 1 [180, 0, 18, 172] dwX9_isTold_0 rfl rfl)
theorem dX9_isTold_4 : decode cX9_isTold 4 = .ok (.ireturn, 1) := dko_172 (dk_t 4 4 [172] dwX9_isTold_0 rfl rfl)
theorem dwX9_number_0 : dkW cX9_number 0 [42, 180, 0, 26, 172] = true := by decide +kernel
theorem dX9_number_0 : decode cX9_number 0 = .ok (.aload_n 0, 1) := dko_42 dwX9_number_0
theorem dX9_number_1 : decode cX9_number 1 = .ok (.getfield 26, 3) := dko_180 (dk_t 1 1 [180, 0, 26, 172] dwX9_number_0 rfl rfl)
theorem dX9_number_4 : decode cX9_number 4 = .ok (.ireturn, 1) := dko_172 (dk_t 4 4 [172] dwX9_number_0 rfl rfl)
theorem dwX9_subject_0 : dkW cX9_subject 0 [42, 180, 0, 30, 172] = true := by decide +kernel
theorem dX9_subject_0 : decode cX9_subject 0 = .ok (.aload_n 0, 1) := dko_42 dwX9_subject_0
theorem dX9_subject_1 : decode cX9_subject 1 = .ok (.getfield 30, 3) := dko_180 (dk_t 1 1 [180, 0, 30, 172] dwX9_subject_0 rfl rfl)
theorem dX9_subject_4 : decode cX9_subject 4 = .ok (.ireturn, 1) := dko_172 (dk_t 4 4 [172] dwX9_subject_0 rfl rfl)
theorem dwX9_signs_0 : dkW cX9_signs 0 [42, 180, 0, 12, 182, 0, 45, 172] = true := by decide +kernel
theorem dX9_signs_0 : decode cX9_signs 0 = .ok (.aload_n 0, 1) := dko_42 dwX9_signs_0
theorem dX9_signs_1 : decode cX9_signs 1 = .ok (.getfield 12, 3) := dko_180 (dk_t 1 1 [180, 0, 12, 182, 0, 45, 172] dwX9_signs_0 rfl rfl)
theorem dX9_signs_4 : decode cX9_signs 4 = .ok (.invokevirtual 45, 3) := dko_182 (dk_t 4 4 [182, 0, 45, 172] dwX9_signs_0 rfl rfl)
theorem dX9_signs_7 : decode cX9_signs 7 = .ok (.ireturn, 1) := dko_172 (dk_t 7 7 [172] dwX9_signs_0 rfl rfl)
theorem dwX9_signAt_0 : dkW cX9_signAt 0 [27, 155, 0, 25, 27, 42, 180, 0, 12, 182, 0, 45] = true := by decide +kernel
theorem dX9_signAt_0 : decode cX9_signAt 0 = .ok (.iload_n 1, 1) := dko_27 dwX9_signAt_0
theorem dX9_signAt_1 : decode cX9_signAt 1 = .ok (.ifCond .lt 25, 3) := dko_155 (dk_t 1 1 [155, 0, 25, 27, 42, 180, 0, 12, 182, 0, 45] dwX9_signAt_0 rfl rfl)
theorem dX9_signAt_4 : decode cX9_signAt 4 = .ok (.iload_n 1, 1) := dko_27 (dk_t 4 4 [27, 42, 180, 0, 12, 182, 0, 45] dwX9_signAt_0 rfl rfl)
theorem dX9_signAt_5 : decode cX9_signAt 5 = .ok (.aload_n 0, 1) := dko_42 (dk_t 5 5 [42, 180, 0, 12, 182, 0, 45] dwX9_signAt_0 rfl rfl)
theorem dX9_signAt_6 : decode cX9_signAt 6 = .ok (.getfield 12, 3) := dko_180 (dk_t 6 6 [180, 0, 12, 182, 0, 45] dwX9_signAt_0 rfl rfl)
theorem dX9_signAt_9 : decode cX9_signAt 9 = .ok (.invokevirtual 45, 3) := dko_182 (dk_t 9 9 [182, 0, 45] dwX9_signAt_0 rfl rfl)
theorem dwX9_signAt_12 : dkW cX9_signAt 12 [162, 0, 14, 42, 180, 0, 12, 27, 182, 0, 49, 167, 0, 4] = true := by decide +kernel
theorem dX9_signAt_12 : decode cX9_signAt 12 = .ok (.if_icmp .ge 14, 3) := dko_162 dwX9_signAt_12
theorem dX9_signAt_15 : decode cX9_signAt 15 = .ok (.aload_n 0, 1) := dko_42 (dk_t 3 15 [42, 180, 0, 12, 27, 182, 0, 49, 167, 0, 4] dwX9_signAt_12 rfl rfl)
theorem dX9_signAt_16 : decode cX9_signAt 16 = .ok (.getfield 12, 3) := dko_180 (dk_t 4 16 [180, 0, 12, 27, 182, 0, 49, 167, 0, 4] dwX9_signAt_12 rfl rfl)
theorem dX9_signAt_19 : decode cX9_signAt 19 = .ok (.iload_n 1, 1) := dko_27 (dk_t 7 19 [27, 182, 0, 49, 167, 0, 4] dwX9_signAt_12 rfl rfl)
theorem dX9_signAt_20 : decode cX9_signAt 20 = .ok (.invokevirtual 49, 3) := dko_182 (dk_t 8 20 [182, 0, 49, 167, 0, 4] dwX9_signAt_12 rfl rfl)
theorem dX9_signAt_23 : decode cX9_signAt 23 = .ok (.goto 4, 3) := dko_167 (dk_t 11 23 [167, 0, 4] dwX9_signAt_12 rfl rfl)
theorem dwX9_signAt_26 : dkW cX9_signAt 26 [2, 172] = true := by decide +kernel
theorem dX9_signAt_26 : decode cX9_signAt 26 = .ok (.iconst (-1), 1) := dko_2 dwX9_signAt_26
theorem dX9_signAt_27 : decode cX9_signAt 27 = .ok (.ireturn, 1) := dko_172 (dk_t 1 27 [172] dwX9_signAt_26 rfl rfl)
theorem dwX10_init_0 : dkW cX10_init 0 [42, 183, 0, 3, 42, 187, 0, 9, 89, 183, 0, 11] = true := by decide +kernel
theorem dX10_init_0 : decode cX10_init 0 = .ok (.aload_n 0, 1) := dko_42 dwX10_init_0
theorem dX10_init_1 : decode cX10_init 1 = .ok (.invokespecial 3, 3) := dko_183 (dk_t 1 1 [183, 0, 3, 42, 187, 0, 9, 89, 183, 0, 11] dwX10_init_0 rfl rfl)
theorem dX10_init_4 : decode cX10_init 4 = .ok (.aload_n 0, 1) := dko_42 (dk_t 4 4 [42, 187, 0, 9, 89, 183, 0, 11] dwX10_init_0 rfl rfl)
theorem dX10_init_5 : decode cX10_init 5 = .ok (.new 9, 3) := dko_187 (dk_t 5 5 [187, 0, 9, 89, 183, 0, 11] dwX10_init_0 rfl rfl)
theorem dX10_init_8 : decode cX10_init 8 = .ok (.dup, 1) := dko_89 (dk_t 8 8 [89, 183, 0, 11] dwX10_init_0 rfl rfl)
theorem dX10_init_9 : decode cX10_init 9 = .ok (.invokespecial 11, 3) := dko_183 (dk_t 9 9 [183, 0, 11] dwX10_init_0 rfl rfl)
theorem dwX10_init_12 : dkW cX10_init 12 [181, 0, 12, 42, 187, 0, 18, 89, 42, 180, 0, 12] = true := by decide +kernel
theorem dX10_init_12 : decode cX10_init 12 = .ok (.putfield 12, 3) := dko_181 dwX10_init_12
theorem dX10_init_15 : decode cX10_init 15 = .ok (.aload_n 0, 1) := dko_42 (dk_t 3 15 [42, 187, 0, 18, 89, 42, 180, 0, 12] dwX10_init_12 rfl rfl)
theorem dX10_init_16 : decode cX10_init 16 = .ok (.new 18, 3) := dko_187 (dk_t 4 16 [187, 0, 18, 89, 42, 180, 0, 12] dwX10_init_12 rfl rfl)
theorem dX10_init_19 : decode cX10_init 19 = .ok (.dup, 1) := dko_89 (dk_t 7 19 [89, 42, 180, 0, 12] dwX10_init_12 rfl rfl)
theorem dX10_init_20 : decode cX10_init 20 = .ok (.aload_n 0, 1) := dko_42 (dk_t 8 20 [42, 180, 0, 12] dwX10_init_12 rfl rfl)
theorem dX10_init_21 : decode cX10_init 21 = .ok (.getfield 12, 3) := dko_180 (dk_t 9 21 [180, 0, 12] dwX10_init_12 rfl rfl)
theorem dwX10_init_24 : dkW cX10_init 24 [183, 0, 20, 181, 0, 23, 42, 187, 0, 27, 89, 183, 0, 29] = true := by decide +kernel
theorem dX10_init_24 : decode cX10_init 24 = .ok (.invokespecial 20, 3) := dko_183 dwX10_init_24
theorem dX10_init_27 : decode cX10_init 27 = .ok (.putfield 23, 3) := dko_181 (dk_t 3 27 [181, 0, 23, 42, 187, 0, 27, 89, 183, 0, 29] dwX10_init_24 rfl rfl)
theorem dX10_init_30 : decode cX10_init 30 = .ok (.aload_n 0, 1) := dko_42 (dk_t 6 30 [42, 187, 0, 27, 89, 183, 0, 29] dwX10_init_24 rfl rfl)
theorem dX10_init_31 : decode cX10_init 31 = .ok (.new 27, 3) := dko_187 (dk_t 7 31 [187, 0, 27, 89, 183, 0, 29] dwX10_init_24 rfl rfl)
theorem dX10_init_34 : decode cX10_init 34 = .ok (.dup, 1) := dko_89 (dk_t 10 34 [89, 183, 0, 29] dwX10_init_24 rfl rfl)
theorem dX10_init_35 : decode cX10_init 35 = .ok (.invokespecial 29, 3) := dko_183 (dk_t 11 35 [183, 0, 29] dwX10_init_24 rfl rfl)
theorem dwX10_init_38 : dkW cX10_init 38 [181, 0, 30, 42, 187, 0, 34, 89, 183, 0, 36, 181, 0, 37] = true := by decide +kernel
theorem dX10_init_38 : decode cX10_init 38 = .ok (.putfield 30, 3) := dko_181 dwX10_init_38
theorem dX10_init_41 : decode cX10_init 41 = .ok (.aload_n 0, 1) := dko_42 (dk_t 3 41 [42, 187, 0, 34, 89, 183, 0, 36, 181, 0, 37] dwX10_init_38 rfl rfl)
theorem dX10_init_42 : decode cX10_init 42 = .ok (.new 34, 3) := dko_187 (dk_t 4 42 [187, 0, 34, 89, 183, 0, 36, 181, 0, 37] dwX10_init_38 rfl rfl)
theorem dX10_init_45 : decode cX10_init 45 = .ok (.dup, 1) := dko_89 (dk_t 7 45 [89, 183, 0, 36, 181, 0, 37] dwX10_init_38 rfl rfl)
theorem dX10_init_46 : decode cX10_init 46 = .ok (.invokespecial 36, 3) := dko_183 (dk_t 8 46 [183, 0, 36, 181, 0, 37] dwX10_init_38 rfl rfl)
theorem dX10_init_49 : decode cX10_init 49 = .ok (.putfield 37, 3) := dko_181 (dk_t 11 49 [181, 0, 37] dwX10_init_38 rfl rfl)
theorem dwX10_init_52 : dkW cX10_init 52 [42, 187, 0, 34, 89, 183, 0, 36, 181, 0, 41, 42] = true := by decide +kernel
theorem dX10_init_52 : decode cX10_init 52 = .ok (.aload_n 0, 1) := dko_42 dwX10_init_52
theorem dX10_init_53 : decode cX10_init 53 = .ok (.new 34, 3) := dko_187 (dk_t 1 53 [187, 0, 34, 89, 183, 0, 36, 181, 0, 41, 42] dwX10_init_52 rfl rfl)
theorem dX10_init_56 : decode cX10_init 56 = .ok (.dup, 1) := dko_89 (dk_t 4 56 [89, 183, 0, 36, 181, 0, 41, 42] dwX10_init_52 rfl rfl)
theorem dX10_init_57 : decode cX10_init 57 = .ok (.invokespecial 36, 3) := dko_183 (dk_t 5 57 [183, 0, 36, 181, 0, 41, 42] dwX10_init_52 rfl rfl)
theorem dX10_init_60 : decode cX10_init 60 = .ok (.putfield 41, 3) := dko_181 (dk_t 8 60 [181, 0, 41, 42] dwX10_init_52 rfl rfl)
theorem dX10_init_63 : decode cX10_init 63 = .ok (.aload_n 0, 1) := dko_42 (dk_t 11 63 [42] dwX10_init_52 rfl rfl)
theorem dwX10_init_64 : dkW cX10_init 64 [187, 0, 34, 89, 183, 0, 36, 181, 0, 44, 42, 187, 0, 34] = true := by decide +kernel
theorem dX10_init_64 : decode cX10_init 64 = .ok (.new 34, 3) := dko_187 dwX10_init_64
theorem dX10_init_67 : decode cX10_init 67 = .ok (.dup, 1) := dko_89 (dk_t 3 67 [89, 183, 0, 36, 181, 0, 44, 42, 187, 0, 34] dwX10_init_64 rfl rfl)
theorem dX10_init_68 : decode cX10_init 68 = .ok (.invokespecial 36, 3) := dko_183 (dk_t 4 68 [183, 0, 36, 181, 0, 44, 42, 187, 0, 34] dwX10_init_64 rfl rfl)
theorem dX10_init_71 : decode cX10_init 71 = .ok (.putfield 44, 3) := dko_181 (dk_t 7 71 [181, 0, 44, 42, 187, 0, 34] dwX10_init_64 rfl rfl)
theorem dX10_init_74 : decode cX10_init 74 = .ok (.aload_n 0, 1) := dko_42 (dk_t 10 74 [42, 187, 0, 34] dwX10_init_64 rfl rfl)
theorem dX10_init_75 : decode cX10_init 75 = .ok (.new 34, 3) := dko_187 (dk_t 11 75 [187, 0, 34] dwX10_init_64 rfl rfl)
theorem dwX10_init_78 : dkW cX10_init 78 [89, 183, 0, 36, 181, 0, 47, 42, 16, 8, 189, 0, 34] = true := by decide +kernel
theorem dX10_init_78 : decode cX10_init 78 = .ok (.dup, 1) := dko_89 dwX10_init_78
theorem dX10_init_79 : decode cX10_init 79 = .ok (.invokespecial 36, 3) := dko_183 (dk_t 1 79 [183, 0, 36, 181, 0, 47, 42, 16, 8, 189, 0, 34] dwX10_init_78 rfl rfl)
theorem dX10_init_82 : decode cX10_init 82 = .ok (.putfield 47, 3) := dko_181 (dk_t 4 82 [181, 0, 47, 42, 16, 8, 189, 0, 34] dwX10_init_78 rfl rfl)
theorem dX10_init_85 : decode cX10_init 85 = .ok (.aload_n 0, 1) := dko_42 (dk_t 7 85 [42, 16, 8, 189, 0, 34] dwX10_init_78 rfl rfl)
theorem dX10_init_86 : decode cX10_init 86 = .ok (.bipush 8, 2) := dko_16 (dk_t 8 86 [16, 8, 189, 0, 34] dwX10_init_78 rfl rfl)
theorem dX10_init_88 : decode cX10_init 88 = .ok (.anewarray 34, 3) := dko_189 (dk_t 10 88 [189, 0, 34] dwX10_init_78 rfl rfl)
theorem dwX10_init_91 : dkW cX10_init 91 [181, 0, 50, 3, 60, 27, 16, 8, 162, 0, 22, 42] = true := by decide +kernel
theorem dX10_init_91 : decode cX10_init 91 = .ok (.putfield 50, 3) := dko_181 dwX10_init_91
theorem dX10_init_94 : decode cX10_init 94 = .ok (.iconst 0, 1) := dko_3 (dk_t 3 94 [3, 60, 27, 16, 8, 162, 0, 22, 42] dwX10_init_91 rfl rfl)
theorem dX10_init_95 : decode cX10_init 95 = .ok (.istore_n 1, 1) := dko_60 (dk_t 4 95 [60, 27, 16, 8, 162, 0, 22, 42] dwX10_init_91 rfl rfl)
theorem dX10_init_96 : decode cX10_init 96 = .ok (.iload_n 1, 1) := dko_27 (dk_t 5 96 [27, 16, 8, 162, 0, 22, 42] dwX10_init_91 rfl rfl)
theorem dX10_init_97 : decode cX10_init 97 = .ok (.bipush 8, 2) := dko_16 (dk_t 6 97 [16, 8, 162, 0, 22, 42] dwX10_init_91 rfl rfl)
theorem dX10_init_99 : decode cX10_init 99 = .ok (.if_icmp .ge 22, 3) := dko_162 (dk_t 8 99 [162, 0, 22, 42] dwX10_init_91 rfl rfl)
theorem dX10_init_102 : decode cX10_init 102 = .ok (.aload_n 0, 1) := dko_42 (dk_t 11 102 [42] dwX10_init_91 rfl rfl)
theorem dwX10_init_103 : dkW cX10_init 103 [180, 0, 50, 27, 187, 0, 34, 89, 183, 0, 36, 83] = true := by decide +kernel
theorem dX10_init_103 : decode cX10_init 103 = .ok (.getfield 50, 3) := dko_180 dwX10_init_103
theorem dX10_init_106 : decode cX10_init 106 = .ok (.iload_n 1, 1) := dko_27 (dk_t 3 106 [27, 187, 0, 34, 89, 183, 0, 36, 83] dwX10_init_103 rfl rfl)
theorem dX10_init_107 : decode cX10_init 107 = .ok (.new 34, 3) := dko_187 (dk_t 4 107 [187, 0, 34, 89, 183, 0, 36, 83] dwX10_init_103 rfl rfl)
theorem dX10_init_110 : decode cX10_init 110 = .ok (.dup, 1) := dko_89 (dk_t 7 110 [89, 183, 0, 36, 83] dwX10_init_103 rfl rfl)
theorem dX10_init_111 : decode cX10_init 111 = .ok (.invokespecial 36, 3) := dko_183 (dk_t 8 111 [183, 0, 36, 83] dwX10_init_103 rfl rfl)
theorem dX10_init_114 : decode cX10_init 114 = .ok (.aastore, 1) := dko_83 (dk_t 11 114 [83] dwX10_init_103 rfl rfl)
theorem dwX10_init_115 : dkW cX10_init 115 [132, 1, 1, 167, 255, 234, 42, 187, 0, 54, 89, 183, 0, 56] = true := by decide +kernel
theorem dX10_init_115 : decode cX10_init 115 = .ok (.iinc 1 1, 3) := dko_132 dwX10_init_115
theorem dX10_init_118 : decode cX10_init 118 = .ok (.goto (-22), 3) := dko_167 (dk_t 3 118 [167, 255, 234, 42, 187, 0, 54, 89, 183, 0, 56] dwX10_init_115 rfl rfl)
theorem dX10_init_121 : decode cX10_init 121 = .ok (.aload_n 0, 1) := dko_42 (dk_t 6 121 [42, 187, 0, 54, 89, 183, 0, 56] dwX10_init_115 rfl rfl)
theorem dX10_init_122 : decode cX10_init 122 = .ok (.new 54, 3) := dko_187 (dk_t 7 122 [187, 0, 54, 89, 183, 0, 56] dwX10_init_115 rfl rfl)
theorem dX10_init_125 : decode cX10_init 125 = .ok (.dup, 1) := dko_89 (dk_t 10 125 [89, 183, 0, 56] dwX10_init_115 rfl rfl)
theorem dX10_init_126 : decode cX10_init 126 = .ok (.invokespecial 56, 3) := dko_183 (dk_t 11 126 [183, 0, 56] dwX10_init_115 rfl rfl)
theorem dwX10_init_129 : dkW cX10_init 129 [181, 0, 57, 42, 187, 0, 54, 89, 183, 0, 56, 181, 0, 61] = true := by decide +kernel
theorem dX10_init_129 : decode cX10_init 129 = .ok (.putfield 57, 3) := dko_181 dwX10_init_129
theorem dX10_init_132 : decode cX10_init 132 = .ok (.aload_n 0, 1) := dko_42 (dk_t 3 132 [42, 187, 0, 54, 89, 183, 0, 56, 181, 0, 61] dwX10_init_129 rfl rfl)
theorem dX10_init_133 : decode cX10_init 133 = .ok (.new 54, 3) := dko_187 (dk_t 4 133 [187, 0, 54, 89, 183, 0, 56, 181, 0, 61] dwX10_init_129 rfl rfl)
theorem dX10_init_136 : decode cX10_init 136 = .ok (.dup, 1) := dko_89 (dk_t 7 136 [89, 183, 0, 56, 181, 0, 61] dwX10_init_129 rfl rfl)
theorem dX10_init_137 : decode cX10_init 137 = .ok (.invokespecial 56, 3) := dko_183 (dk_t 8 137 [183, 0, 56, 181, 0, 61] dwX10_init_129 rfl rfl)
theorem dX10_init_140 : decode cX10_init 140 = .ok (.putfield 61, 3) := dko_181 (dk_t 11 140 [181, 0, 61] dwX10_init_129 rfl rfl)
theorem dwX10_init_143 : dkW cX10_init 143 [42, 187, 0, 54, 89, 183, 0, 56, 181, 0, 64, 42] = true := by decide +kernel
theorem dX10_init_143 : decode cX10_init 143 = .ok (.aload_n 0, 1) := dko_42 dwX10_init_143
theorem dX10_init_144 : decode cX10_init 144 = .ok (.new 54, 3) := dko_187 (dk_t 1 144 [187, 0, 54, 89, 183, 0, 56, 181, 0, 64, 42] dwX10_init_143 rfl rfl)
theorem dX10_init_147 : decode cX10_init 147 = .ok (.dup, 1) := dko_89 (dk_t 4 147 [89, 183, 0, 56, 181, 0, 64, 42] dwX10_init_143 rfl rfl)
theorem dX10_init_148 : decode cX10_init 148 = .ok (.invokespecial 56, 3) := dko_183 (dk_t 5 148 [183, 0, 56, 181, 0, 64, 42] dwX10_init_143 rfl rfl)
theorem dX10_init_151 : decode cX10_init 151 = .ok (.putfield 64, 3) := dko_181 (dk_t 8 151 [181, 0, 64, 42] dwX10_init_143 rfl rfl)
theorem dX10_init_154 : decode cX10_init 154 = .ok (.aload_n 0, 1) := dko_42 (dk_t 11 154 [42] dwX10_init_143 rfl rfl)
theorem dwX10_init_155 : dkW cX10_init 155 [187, 0, 67, 89, 183, 0, 69, 181, 0, 70, 42, 187, 0, 74] = true := by decide +kernel
theorem dX10_init_155 : decode cX10_init 155 = .ok (.new 67, 3) := dko_187 dwX10_init_155
theorem dX10_init_158 : decode cX10_init 158 = .ok (.dup, 1) := dko_89 (dk_t 3 158 [89, 183, 0, 69, 181, 0, 70, 42, 187, 0, 74] dwX10_init_155 rfl rfl)
theorem dX10_init_159 : decode cX10_init 159 = .ok (.invokespecial 69, 3) := dko_183 (dk_t 4 159 [183, 0, 69, 181, 0, 70, 42, 187, 0, 74] dwX10_init_155 rfl rfl)
theorem dX10_init_162 : decode cX10_init 162 = .ok (.putfield 70, 3) := dko_181 (dk_t 7 162 [181, 0, 70, 42, 187, 0, 74] dwX10_init_155 rfl rfl)
theorem dX10_init_165 : decode cX10_init 165 = .ok (.aload_n 0, 1) := dko_42 (dk_t 10 165 [42, 187, 0, 74] dwX10_init_155 rfl rfl)
theorem dX10_init_166 : decode cX10_init 166 = .ok (.new 74, 3) := dko_187 (dk_t 11 166 [187, 0, 74] dwX10_init_155 rfl rfl)
theorem dwX10_init_169 : dkW cX10_init 169 [89, 183, 0, 76, 181, 0, 77, 42, 187, 0, 81, 89] = true := by decide +kernel
theorem dX10_init_169 : decode cX10_init 169 = .ok (.dup, 1) := dko_89 dwX10_init_169
theorem dX10_init_170 : decode cX10_init 170 = .ok (.invokespecial 76, 3) := dko_183 (dk_t 1 170 [183, 0, 76, 181, 0, 77, 42, 187, 0, 81, 89] dwX10_init_169 rfl rfl)
theorem dX10_init_173 : decode cX10_init 173 = .ok (.putfield 77, 3) := dko_181 (dk_t 4 173 [181, 0, 77, 42, 187, 0, 81, 89] dwX10_init_169 rfl rfl)
theorem dX10_init_176 : decode cX10_init 176 = .ok (.aload_n 0, 1) := dko_42 (dk_t 7 176 [42, 187, 0, 81, 89] dwX10_init_169 rfl rfl)
theorem dX10_init_177 : decode cX10_init 177 = .ok (.new 81, 3) := dko_187 (dk_t 8 177 [187, 0, 81, 89] dwX10_init_169 rfl rfl)
theorem dX10_init_180 : decode cX10_init 180 = .ok (.dup, 1) := dko_89 (dk_t 11 180 [89] dwX10_init_169 rfl rfl)
theorem dwX10_init_181 : dkW cX10_init 181 [183, 0, 83, 181, 0, 84, 42, 187, 0, 88, 89, 183, 0, 90] = true := by decide +kernel
theorem dX10_init_181 : decode cX10_init 181 = .ok (.invokespecial 83, 3) := dko_183 dwX10_init_181
theorem dX10_init_184 : decode cX10_init 184 = .ok (.putfield 84, 3) := dko_181 (dk_t 3 184 [181, 0, 84, 42, 187, 0, 88, 89, 183, 0, 90] dwX10_init_181 rfl rfl)
theorem dX10_init_187 : decode cX10_init 187 = .ok (.aload_n 0, 1) := dko_42 (dk_t 6 187 [42, 187, 0, 88, 89, 183, 0, 90] dwX10_init_181 rfl rfl)
theorem dX10_init_188 : decode cX10_init 188 = .ok (.new 88, 3) := dko_187 (dk_t 7 188 [187, 0, 88, 89, 183, 0, 90] dwX10_init_181 rfl rfl)
theorem dX10_init_191 : decode cX10_init 191 = .ok (.dup, 1) := dko_89 (dk_t 10 191 [89, 183, 0, 90] dwX10_init_181 rfl rfl)
theorem dX10_init_192 : decode cX10_init 192 = .ok (.invokespecial 90, 3) := dko_183 (dk_t 11 192 [183, 0, 90] dwX10_init_181 rfl rfl)
theorem dwX10_init_195 : dkW cX10_init 195 [181, 0, 91, 42, 16, 6, 188, 10, 181, 0, 95, 42, 7] = true := by decide +kernel
theorem dX10_init_195 : decode cX10_init 195 = .ok (.putfield 91, 3) := dko_181 dwX10_init_195
theorem dX10_init_198 : decode cX10_init 198 = .ok (.aload_n 0, 1) := dko_42 (dk_t 3 198 [42, 16, 6, 188, 10, 181, 0, 95, 42, 7] dwX10_init_195 rfl rfl)
theorem dX10_init_199 : decode cX10_init 199 = .ok (.bipush 6, 2) := dko_16 (dk_t 4 199 [16, 6, 188, 10, 181, 0, 95, 42, 7] dwX10_init_195 rfl rfl)
theorem dX10_init_201 : decode cX10_init 201 = .ok (.newarray .int, 2) := dko_188_10 (dk_t 6 201 [188, 10, 181, 0, 95, 42, 7] dwX10_init_195 rfl rfl)
theorem dX10_init_203 : decode cX10_init 203 = .ok (.putfield 95, 3) := dko_181 (dk_t 8 203 [181, 0, 95, 42, 7] dwX10_init_195 rfl rfl)
theorem dX10_init_206 : decode cX10_init 206 = .ok (.aload_n 0, 1) := dko_42 (dk_t 11 206 [42, 7] dwX10_init_195 rfl rfl)
theorem dX10_init_207 : decode cX10_init 207 = .ok (.iconst 4, 1) := dko_7 (dk_t 12 207 [7] dwX10_init_195 rfl rfl)
theorem dwX10_init_208 : dkW cX10_init 208 [188, 10, 181, 0, 99, 177] = true := by decide +kernel
theorem dX10_init_208 : decode cX10_init 208 = .ok (.newarray .int, 2) := dko_188_10 dwX10_init_208
theorem dX10_init_210 : decode cX10_init 210 = .ok (.putfield 99, 3) := dko_181 (dk_t 2 210 [181, 0, 99, 177] dwX10_init_208 rfl rfl)
theorem dX10_init_213 : decode cX10_init 213 = .ok (.return_, 1) := dko_177 (dk_t 5 213 [177] dwX10_init_208 rfl rfl)
theorem dwX10_sign_0 : dkW cX10_sign 0 [42, 180, 0, 12, 27, 182, 0, 102, 153, 0, 13, 42] = true := by decide +kernel
theorem dX10_sign_0 : decode cX10_sign 0 = .ok (.aload_n 0, 1) := dko_42 dwX10_sign_0
theorem dX10_sign_1 : decode cX10_sign 1 = .ok (.getfield 12, 3) := dko_180 (dk_t 1 1 [180, 0, 12, 27, 182, 0, 102, 153, 0, 13, 42] dwX10_sign_0 rfl rfl)
theorem dX10_sign_4 : decode cX10_sign 4 = .ok (.iload_n 1, 1) := dko_27 (dk_t 4 4 [27, 182, 0, 102, 153, 0, 13, 42] dwX10_sign_0 rfl rfl)
theorem dX10_sign_5 : decode cX10_sign 5 = .ok (.invokevirtual 102, 3) := dko_182 (dk_t 5 5 [182, 0, 102, 153, 0, 13, 42] dwX10_sign_0 rfl rfl)
theorem dX10_sign_8 : decode cX10_sign 8 = .ok (.ifCond .eq 13, 3) := dko_153 (dk_t 8 8 [153, 0, 13, 42] dwX10_sign_0 rfl rfl)
theorem dX10_sign_11 : decode cX10_sign 11 = .ok (.aload_n 0, 1) := dko_42 (dk_t 11 11 [42] dwX10_sign_0 rfl rfl)
theorem dwX10_sign_12 : dkW cX10_sign 12 [180, 0, 12, 182, 0, 106, 167, 0, 4, 2, 172] = true := by decide +kernel
theorem dX10_sign_12 : decode cX10_sign 12 = .ok (.getfield 12, 3) := dko_180 dwX10_sign_12
theorem dX10_sign_15 : decode cX10_sign 15 = .ok (.invokevirtual 106, 3) := dko_182 (dk_t 3 15 [182, 0, 106, 167, 0, 4, 2, 172] dwX10_sign_12 rfl rfl)
theorem dX10_sign_18 : decode cX10_sign 18 = .ok (.goto 4, 3) := dko_167 (dk_t 6 18 [167, 0, 4, 2, 172] dwX10_sign_12 rfl rfl)
theorem dX10_sign_21 : decode cX10_sign 21 = .ok (.iconst (-1), 1) := dko_2 (dk_t 9 21 [2, 172] dwX10_sign_12 rfl rfl)
theorem dX10_sign_22 : decode cX10_sign 22 = .ok (.ireturn, 1) := dko_172 (dk_t 10 22 [172] dwX10_sign_12 rfl rfl)
theorem dwX10_end_0 : dkW cX10_end 0 [42, 180, 0, 12, 27, 182, 0, 110, 172] = true := by decide +kernel
theorem dX10_end_0 : decode cX10_end 0 = .ok (.aload_n 0, 1) := dko_42 dwX10_end_0
theorem dX10_end_1 : decode cX10_end 1 = .ok (.getfield 12, 3) := dko_180 (dk_t 1 1 [180, 0, 12, 27, 182, 0, 110, 172] dwX10_end_0 rfl rfl)
theorem dX10_end_4 : decode cX10_end 4 = .ok (.iload_n 1, 1) := dko_27 (dk_t 4 4 [27, 182, 0, 110, 172] dwX10_end_0 rfl rfl)
theorem dX10_end_5 : decode cX10_end 5 = .ok (.invokevirtual 110, 3) := dko_182 (dk_t 5 5 [182, 0, 110, 172] dwX10_end_0 rfl rfl)
theorem dX10_end_8 : decode cX10_end 8 = .ok (.ireturn, 1) := dko_172 (dk_t 8 8 [172] dwX10_end_0 rfl rfl)
theorem dwX10_rule_0 : dkW cX10_rule 0 [42, 180, 0, 91, 182, 0, 113, 42, 180, 0, 23, 182, 0, 116] = true := by decide +kernel
theorem dX10_rule_0 : decode cX10_rule 0 = .ok (.aload_n 0, 1) := dko_42 dwX10_rule_0
theorem dX10_rule_1 : decode cX10_rule 1 = .ok (.getfield 91, 3) := dko_180 (dk_t 1 1 [180, 0, 91, 182, 0, 113, 42, 180, 0, 23, 182, 0, 116] dwX10_rule_0 rfl rfl)
theorem dX10_rule_4 : decode cX10_rule 4 = .ok (.invokevirtual 113, 3) := dko_182 (dk_t 4 4 [182, 0, 113, 42, 180, 0, 23, 182, 0, 116] dwX10_rule_0 rfl rfl)
theorem dX10_rule_7 : decode cX10_rule 7 = .ok (.aload_n 0, 1) := dko_42 (dk_t 7 7 [42, 180, 0, 23, 182, 0, 116] dwX10_rule_0 rfl rfl)
theorem dX10_rule_8 : decode cX10_rule 8 = .ok (.getfield 23, 3) := dko_180 (dk_t 8 8 [180, 0, 23, 182, 0, 116] dwX10_rule_0 rfl rfl)
theorem dX10_rule_11 : decode cX10_rule 11 = .ok (.invokevirtual 116, 3) := dko_182 (dk_t 11 11 [182, 0, 116] dwX10_rule_0 rfl rfl)
theorem dwX10_rule_14 : dkW cX10_rule 14 [76, 42, 180, 0, 12, 3, 182, 0, 110, 87, 43, 199, 0, 15] = true := by decide +kernel
theorem dX10_rule_14 : decode cX10_rule 14 = .ok (.astore_n 1, 1) := dko_76 dwX10_rule_14
theorem dX10_rule_15 : decode cX10_rule 15 = .ok (.aload_n 0, 1) := dko_42 (dk_t 1 15 [42, 180, 0, 12, 3, 182, 0, 110, 87, 43, 199, 0, 15] dwX10_rule_14 rfl rfl)
theorem dX10_rule_16 : decode cX10_rule 16 = .ok (.getfield 12, 3) := dko_180 (dk_t 2 16 [180, 0, 12, 3, 182, 0, 110, 87, 43, 199, 0, 15] dwX10_rule_14 rfl rfl)
theorem dX10_rule_19 : decode cX10_rule 19 = .ok (.iconst 0, 1) := dko_3 (dk_t 5 19 [3, 182, 0, 110, 87, 43, 199, 0, 15] dwX10_rule_14 rfl rfl)
theorem dX10_rule_20 : decode cX10_rule 20 = .ok (.invokevirtual 110, 3) := dko_182 (dk_t 6 20 [182, 0, 110, 87, 43, 199, 0, 15] dwX10_rule_14 rfl rfl)
theorem dX10_rule_23 : decode cX10_rule 23 = .ok (.pop, 1) := dko_87 (dk_t 9 23 [87, 43, 199, 0, 15] dwX10_rule_14 rfl rfl)
theorem dX10_rule_24 : decode cX10_rule 24 = .ok (.aload_n 1, 1) := dko_43 (dk_t 10 24 [43, 199, 0, 15] dwX10_rule_14 rfl rfl)
theorem dX10_rule_25 : decode cX10_rule 25 = .ok (.ifnonnull 15, 3) := dko_199 (dk_t 11 25 [199, 0, 15] dwX10_rule_14 rfl rfl)
theorem dwX10_rule_28 : dkW cX10_rule 28 [17, 252, 24, 42, 180, 0, 23, 182, 0, 120, 100, 172, 42] = true := by decide +kernel
theorem dX10_rule_28 : decode cX10_rule 28 = .ok (.sipush (-1000), 3) := dko_17 dwX10_rule_28
theorem dX10_rule_31 : decode cX10_rule 31 = .ok (.aload_n 0, 1) := dko_42 (dk_t 3 31 [42, 180, 0, 23, 182, 0, 120, 100, 172, 42] dwX10_rule_28 rfl rfl)
theorem dX10_rule_32 : decode cX10_rule 32 = .ok (.getfield 23, 3) := dko_180 (dk_t 4 32 [180, 0, 23, 182, 0, 120, 100, 172, 42] dwX10_rule_28 rfl rfl)
theorem dX10_rule_35 : decode cX10_rule 35 = .ok (.invokevirtual 120, 3) := dko_182 (dk_t 7 35 [182, 0, 120, 100, 172, 42] dwX10_rule_28 rfl rfl)
theorem dX10_rule_38 : decode cX10_rule 38 = .ok (.isub, 1) := dko_100 (dk_t 10 38 [100, 172, 42] dwX10_rule_28 rfl rfl)
theorem dX10_rule_39 : decode cX10_rule 39 = .ok (.ireturn, 1) := dko_172 (dk_t 11 39 [172, 42] dwX10_rule_28 rfl rfl)
theorem dX10_rule_40 : decode cX10_rule 40 = .ok (.aload_n 0, 1) := dko_42 (dk_t 12 40 [42] dwX10_rule_28 rfl rfl)
theorem dwX10_rule_41 : dkW cX10_rule 41 [180, 0, 123, 153, 0, 6, 16, 253, 172, 42, 180, 0, 30] = true := by decide +kernel
theorem dX10_rule_41 : decode cX10_rule 41 = .ok (.getfield 123, 3) := dko_180 dwX10_rule_41
theorem dX10_rule_44 : decode cX10_rule 44 = .ok (.ifCond .eq 6, 3) := dko_153 (dk_t 3 44 [153, 0, 6, 16, 253, 172, 42, 180, 0, 30] dwX10_rule_41 rfl rfl)
theorem dX10_rule_47 : decode cX10_rule 47 = .ok (.bipush (-3), 2) := dko_16 (dk_t 6 47 [16, 253, 172, 42, 180, 0, 30] dwX10_rule_41 rfl rfl)
theorem dX10_rule_49 : decode cX10_rule 49 = .ok (.ireturn, 1) := dko_172 (dk_t 8 49 [172, 42, 180, 0, 30] dwX10_rule_41 rfl rfl)
theorem dX10_rule_50 : decode cX10_rule 50 = .ok (.aload_n 0, 1) := dko_42 (dk_t 9 50 [42, 180, 0, 30] dwX10_rule_41 rfl rfl)
theorem dX10_rule_51 : decode cX10_rule 51 = .ok (.getfield 30, 3) := dko_180 (dk_t 10 51 [180, 0, 30] dwX10_rule_41 rfl rfl)
theorem dwX10_rule_54 : dkW cX10_rule 54 [182, 0, 127, 61, 28, 2, 160, 0, 6, 16, 252, 172, 43, 28] = true := by decide +kernel
theorem dX10_rule_54 : decode cX10_rule 54 = .ok (.invokevirtual 127, 3) := dko_182 dwX10_rule_54
theorem dX10_rule_57 : decode cX10_rule 57 = .ok (.istore_n 2, 1) := dko_61 (dk_t 3 57 [61, 28, 2, 160, 0, 6, 16, 252, 172, 43, 28] dwX10_rule_54 rfl rfl)
theorem dX10_rule_58 : decode cX10_rule 58 = .ok (.iload_n 2, 1) := dko_28 (dk_t 4 58 [28, 2, 160, 0, 6, 16, 252, 172, 43, 28] dwX10_rule_54 rfl rfl)
theorem dX10_rule_59 : decode cX10_rule 59 = .ok (.iconst (-1), 1) := dko_2 (dk_t 5 59 [2, 160, 0, 6, 16, 252, 172, 43, 28] dwX10_rule_54 rfl rfl)
theorem dX10_rule_60 : decode cX10_rule 60 = .ok (.if_icmp .ne 6, 3) := dko_160 (dk_t 6 60 [160, 0, 6, 16, 252, 172, 43, 28] dwX10_rule_54 rfl rfl)
theorem dX10_rule_63 : decode cX10_rule 63 = .ok (.bipush (-4), 2) := dko_16 (dk_t 9 63 [16, 252, 172, 43, 28] dwX10_rule_54 rfl rfl)
theorem dX10_rule_65 : decode cX10_rule 65 = .ok (.ireturn, 1) := dko_172 (dk_t 11 65 [172, 43, 28] dwX10_rule_54 rfl rfl)
theorem dX10_rule_66 : decode cX10_rule 66 = .ok (.aload_n 1, 1) := dko_43 (dk_t 12 66 [43, 28] dwX10_rule_54 rfl rfl)
theorem dX10_rule_67 : decode cX10_rule 67 = .ok (.iload_n 2, 1) := dko_28 (dk_t 13 67 [28] dwX10_rule_54 rfl rfl)
theorem dwX10_rule_68 : dkW cX10_rule 68 [181, 0, 130, 42, 43, 182, 0, 136, 62, 29, 2, 159, 0, 29] = true := by decide +kernel
theorem dX10_rule_68 : decode cX10_rule 68 = .ok (.putfield 130, 3) := dko_181 dwX10_rule_68
theorem dX10_rule_71 : decode cX10_rule 71 = .ok (.aload_n 0, 1) := dko_42 (dk_t 3 71 [42, 43, 182, 0, 136, 62, 29, 2, 159, 0, 29] dwX10_rule_68 rfl rfl)
theorem dX10_rule_72 : decode cX10_rule 72 = .ok (.aload_n 1, 1) := dko_43 (dk_t 4 72 [43, 182, 0, 136, 62, 29, 2, 159, 0, 29] dwX10_rule_68 rfl rfl)
theorem dX10_rule_73 : decode cX10_rule 73 = .ok (.invokevirtual 136, 3) := dko_182 (dk_t 5 73 [182, 0, 136, 62, 29, 2, 159, 0, 29] dwX10_rule_68 rfl rfl)
theorem dX10_rule_76 : decode cX10_rule 76 = .ok (.istore_n 3, 1) := dko_62 (dk_t 8 76 [62, 29, 2, 159, 0, 29] dwX10_rule_68 rfl rfl)
theorem dX10_rule_77 : decode cX10_rule 77 = .ok (.iload_n 3, 1) := dko_29 (dk_t 9 77 [29, 2, 159, 0, 29] dwX10_rule_68 rfl rfl)
theorem dX10_rule_78 : decode cX10_rule 78 = .ok (.iconst (-1), 1) := dko_2 (dk_t 10 78 [2, 159, 0, 29] dwX10_rule_68 rfl rfl)
theorem dX10_rule_79 : decode cX10_rule 79 = .ok (.if_icmp .eq 29, 3) := dko_159 (dk_t 11 79 [159, 0, 29] dwX10_rule_68 rfl rfl)
theorem dwX10_rule_82 : dkW cX10_rule 82 [42, 180, 0, 91, 28, 43, 180, 0, 140, 184, 0, 143, 42] = true := by decide +kernel
theorem dX10_rule_82 : decode cX10_rule 82 = .ok (.aload_n 0, 1) := dko_42 dwX10_rule_82
theorem dX10_rule_83 : decode cX10_rule 83 = .ok (.getfield 91, 3) := dko_180 (dk_t 1 83 [180, 0, 91, 28, 43, 180, 0, 140, 184, 0, 143, 42] dwX10_rule_82 rfl rfl)
theorem dX10_rule_86 : decode cX10_rule 86 = .ok (.iload_n 2, 1) := dko_28 (dk_t 4 86 [28, 43, 180, 0, 140, 184, 0, 143, 42] dwX10_rule_82 rfl rfl)
theorem dX10_rule_87 : decode cX10_rule 87 = .ok (.aload_n 1, 1) := dko_43 (dk_t 5 87 [43, 180, 0, 140, 184, 0, 143, 42] dwX10_rule_82 rfl rfl)
theorem dX10_rule_88 : decode cX10_rule 88 = .ok (.getfield 140, 3) := dko_180 (dk_t 6 88 [180, 0, 140, 184, 0, 143, 42] dwX10_rule_82 rfl rfl)
theorem dX10_rule_91 : decode cX10_rule 91 = .ok (.invokestatic 143, 3) := dko_184 (dk_t 9 91 [184, 0, 143, 42] dwX10_rule_82 rfl rfl)
theorem dX10_rule_94 : decode cX10_rule 94 = .ok (.aload_n 0, 1) := dko_42 (dk_t 12 94 [42] dwX10_rule_82 rfl rfl)
theorem dwX10_rule_95 : dkW cX10_rule 95 [180, 0, 61, 29, 182, 0, 147, 182, 0, 151, 16, 251, 172, 42] = true := by decide +kernel
theorem dX10_rule_95 : decode cX10_rule 95 = .ok (.getfield 61, 3) := dko_180 dwX10_rule_95
theorem dX10_rule_98 : decode cX10_rule 98 = .ok (.iload_n 3, 1) := dko_29 (dk_t 3 98 [29, 182, 0, 147, 182, 0, 151, 16, 251, 172, 42] dwX10_rule_95 rfl rfl)
theorem dX10_rule_99 : decode cX10_rule 99 = .ok (.invokevirtual 147, 3) := dko_182 (dk_t 4 99 [182, 0, 147, 182, 0, 151, 16, 251, 172, 42] dwX10_rule_95 rfl rfl)
theorem dX10_rule_102 : decode cX10_rule 102 = .ok (.invokevirtual 151, 3) := dko_182 (dk_t 7 102 [182, 0, 151, 16, 251, 172, 42] dwX10_rule_95 rfl rfl)
theorem dX10_rule_105 : decode cX10_rule 105 = .ok (.bipush (-5), 2) := dko_16 (dk_t 10 105 [16, 251, 172, 42] dwX10_rule_95 rfl rfl)
theorem dX10_rule_107 : decode cX10_rule 107 = .ok (.ireturn, 1) := dko_172 (dk_t 12 107 [172, 42] dwX10_rule_95 rfl rfl)
theorem dX10_rule_108 : decode cX10_rule 108 = .ok (.aload_n 0, 1) := dko_42 (dk_t 13 108 [42] dwX10_rule_95 rfl rfl)
theorem dwX10_rule_109 : dkW cX10_rule 109 [180, 0, 30, 43, 182, 0, 155, 28, 172] = true := by decide +kernel
theorem dX10_rule_109 : decode cX10_rule 109 = .ok (.getfield 30, 3) := dko_180 dwX10_rule_109
theorem dX10_rule_112 : decode cX10_rule 112 = .ok (.aload_n 1, 1) := dko_43 (dk_t 3 112 [43, 182, 0, 155, 28, 172] dwX10_rule_109 rfl rfl)
theorem dX10_rule_113 : decode cX10_rule 113 = .ok (.invokevirtual 155, 3) := dko_182 (dk_t 4 113 [182, 0, 155, 28, 172] dwX10_rule_109 rfl rfl)
theorem dX10_rule_116 : decode cX10_rule 116 = .ok (.iload_n 2, 1) := dko_28 (dk_t 7 116 [28, 172] dwX10_rule_109 rfl rfl)
theorem dX10_rule_117 : decode cX10_rule 117 = .ok (.ireturn, 1) := dko_172 (dk_t 8 117 [172] dwX10_rule_109 rfl rfl)
theorem dwX10_drop_0 : dkW cX10_drop 0 [42, 180, 0, 91, 182, 0, 113, 42, 180, 0, 30, 27] = true := by decide +kernel
theorem dX10_drop_0 : decode cX10_drop 0 = .ok (.aload_n 0, 1) := dko_42 dwX10_drop_0
theorem dX10_drop_1 : decode cX10_drop 1 = .ok (.getfield 91, 3) := dko_180 (dk_t 1 1 [180, 0, 91, 182, 0, 113, 42, 180, 0, 30, 27] dwX10_drop_0 rfl rfl)
theorem dX10_drop_4 : decode cX10_drop 4 = .ok (.invokevirtual 113, 3) := dko_182 (dk_t 4 4 [182, 0, 113, 42, 180, 0, 30, 27] dwX10_drop_0 rfl rfl)
theorem dX10_drop_7 : decode cX10_drop 7 = .ok (.aload_n 0, 1) := dko_42 (dk_t 7 7 [42, 180, 0, 30, 27] dwX10_drop_0 rfl rfl)
theorem dX10_drop_8 : decode cX10_drop 8 = .ok (.getfield 30, 3) := dko_180 (dk_t 8 8 [180, 0, 30, 27] dwX10_drop_0 rfl rfl)
theorem dX10_drop_11 : decode cX10_drop 11 = .ok (.iload_n 1, 1) := dko_27 (dk_t 11 11 [27] dwX10_drop_0 rfl rfl)
theorem dwX10_drop_12 : dkW cX10_drop 12 [182, 0, 159, 199, 0, 6, 16, 254, 172, 42, 180, 0, 123] = true := by decide +kernel
theorem dX10_drop_12 : decode cX10_drop 12 = .ok (.invokevirtual 159, 3) := dko_182 dwX10_drop_12
theorem dX10_drop_15 : decode cX10_drop 15 = .ok (.ifnonnull 6, 3) := dko_199 (dk_t 3 15 [199, 0, 6, 16, 254, 172, 42, 180, 0, 123] dwX10_drop_12 rfl rfl)
theorem dX10_drop_18 : decode cX10_drop 18 = .ok (.bipush (-2), 2) := dko_16 (dk_t 6 18 [16, 254, 172, 42, 180, 0, 123] dwX10_drop_12 rfl rfl)
theorem dX10_drop_20 : decode cX10_drop 20 = .ok (.ireturn, 1) := dko_172 (dk_t 8 20 [172, 42, 180, 0, 123] dwX10_drop_12 rfl rfl)
theorem dX10_drop_21 : decode cX10_drop 21 = .ok (.aload_n 0, 1) := dko_42 (dk_t 9 21 [42, 180, 0, 123] dwX10_drop_12 rfl rfl)
theorem dX10_drop_22 : decode cX10_drop 22 = .ok (.getfield 123, 3) := dko_180 (dk_t 10 22 [180, 0, 123] dwX10_drop_12 rfl rfl)
theorem dwX10_drop_25 : dkW cX10_drop 25 [153, 0, 6, 16, 253, 172, 42, 180, 0, 30, 27, 182, 0, 163] = true := by decide +kernel
theorem dX10_drop_25 : decode cX10_drop 25 = .ok (.ifCond .eq 6, 3) := dko_153 dwX10_drop_25
theorem dX10_drop_28 : decode cX10_drop 28 = .ok (.bipush (-3), 2) := dko_16 (dk_t 3 28 [16, 253, 172, 42, 180, 0, 30, 27, 182, 0, 163] dwX10_drop_25 rfl rfl)
theorem dX10_drop_30 : decode cX10_drop 30 = .ok (.ireturn, 1) := dko_172 (dk_t 5 30 [172, 42, 180, 0, 30, 27, 182, 0, 163] dwX10_drop_25 rfl rfl)
theorem dX10_drop_31 : decode cX10_drop 31 = .ok (.aload_n 0, 1) := dko_42 (dk_t 6 31 [42, 180, 0, 30, 27, 182, 0, 163] dwX10_drop_25 rfl rfl)
theorem dX10_drop_32 : decode cX10_drop 32 = .ok (.getfield 30, 3) := dko_180 (dk_t 7 32 [180, 0, 30, 27, 182, 0, 163] dwX10_drop_25 rfl rfl)
theorem dX10_drop_35 : decode cX10_drop 35 = .ok (.iload_n 1, 1) := dko_27 (dk_t 10 35 [27, 182, 0, 163] dwX10_drop_25 rfl rfl)
theorem dX10_drop_36 : decode cX10_drop 36 = .ok (.invokevirtual 163, 3) := dko_182 (dk_t 11 36 [182, 0, 163] dwX10_drop_25 rfl rfl)
theorem dwX10_drop_39 : dkW cX10_drop 39 [42, 180, 0, 30, 182, 0, 167, 172] = true := by decide +kernel
theorem dX10_drop_39 : decode cX10_drop 39 = .ok (.aload_n 0, 1) := dko_42 dwX10_drop_39
theorem dX10_drop_40 : decode cX10_drop 40 = .ok (.getfield 30, 3) := dko_180 (dk_t 1 40 [180, 0, 30, 182, 0, 167, 172] dwX10_drop_39 rfl rfl)
theorem dX10_drop_43 : decode cX10_drop 43 = .ok (.invokevirtual 167, 3) := dko_182 (dk_t 4 43 [182, 0, 167, 172] dwX10_drop_39 rfl rfl)
theorem dX10_drop_46 : decode cX10_drop 46 = .ok (.ireturn, 1) := dko_172 (dk_t 7 46 [172] dwX10_drop_39 rfl rfl)
theorem dwX10_later_0 : dkW cX10_later 0 [42, 180, 0, 91, 182, 0, 113, 42, 180, 0, 30, 27] = true := by decide +kernel
theorem dX10_later_0 : decode cX10_later 0 = .ok (.aload_n 0, 1) := dko_42 dwX10_later_0
theorem dX10_later_1 : decode cX10_later 1 = .ok (.getfield 91, 3) := dko_180 (dk_t 1 1 [180, 0, 91, 182, 0, 113, 42, 180, 0, 30, 27] dwX10_later_0 rfl rfl)
theorem dX10_later_4 : decode cX10_later 4 = .ok (.invokevirtual 113, 3) := dko_182 (dk_t 4 4 [182, 0, 113, 42, 180, 0, 30, 27] dwX10_later_0 rfl rfl)
theorem dX10_later_7 : decode cX10_later 7 = .ok (.aload_n 0, 1) := dko_42 (dk_t 7 7 [42, 180, 0, 30, 27] dwX10_later_0 rfl rfl)
theorem dX10_later_8 : decode cX10_later 8 = .ok (.getfield 30, 3) := dko_180 (dk_t 8 8 [180, 0, 30, 27] dwX10_later_0 rfl rfl)
theorem dX10_later_11 : decode cX10_later 11 = .ok (.iload_n 1, 1) := dko_27 (dk_t 11 11 [27] dwX10_later_0 rfl rfl)
theorem dwX10_later_12 : dkW cX10_later 12 [182, 0, 159, 78, 45, 199, 0, 6, 16, 254, 172, 45] = true := by decide +kernel
theorem dX10_later_12 : decode cX10_later 12 = .ok (.invokevirtual 159, 3) := dko_182 dwX10_later_12
theorem dX10_later_15 : decode cX10_later 15 = .ok (.astore_n 3, 1) := dko_78 (dk_t 3 15 [78, 45, 199, 0, 6, 16, 254, 172, 45] dwX10_later_12 rfl rfl)
theorem dX10_later_16 : decode cX10_later 16 = .ok (.aload_n 3, 1) := dko_45 (dk_t 4 16 [45, 199, 0, 6, 16, 254, 172, 45] dwX10_later_12 rfl rfl)
theorem dX10_later_17 : decode cX10_later 17 = .ok (.ifnonnull 6, 3) := dko_199 (dk_t 5 17 [199, 0, 6, 16, 254, 172, 45] dwX10_later_12 rfl rfl)
theorem dX10_later_20 : decode cX10_later 20 = .ok (.bipush (-2), 2) := dko_16 (dk_t 8 20 [16, 254, 172, 45] dwX10_later_12 rfl rfl)
theorem dX10_later_22 : decode cX10_later 22 = .ok (.ireturn, 1) := dko_172 (dk_t 10 22 [172, 45] dwX10_later_12 rfl rfl)
theorem dX10_later_23 : decode cX10_later 23 = .ok (.aload_n 3, 1) := dko_45 (dk_t 11 23 [45] dwX10_later_12 rfl rfl)
theorem dwX10_later_24 : dkW cX10_later 24 [180, 0, 170, 28, 160, 0, 6, 16, 252, 172, 28, 153, 0, 9] = true := by decide +kernel
theorem dX10_later_24 : decode cX10_later 24 = .ok (.getfield 170, 3) := dko_180 dwX10_later_24
theorem dX10_later_27 : decode cX10_later 27 = .ok (.iload_n 2, 1) := dko_28 (dk_t 3 27 [28, 160, 0, 6, 16, 252, 172, 28, 153, 0, 9] dwX10_later_24 rfl rfl)
theorem dX10_later_28 : decode cX10_later 28 = .ok (.if_icmp .ne 6, 3) := dko_160 (dk_t 4 28 [160, 0, 6, 16, 252, 172, 28, 153, 0, 9] dwX10_later_24 rfl rfl)
theorem dX10_later_31 : decode cX10_later 31 = .ok (.bipush (-4), 2) := dko_16 (dk_t 7 31 [16, 252, 172, 28, 153, 0, 9] dwX10_later_24 rfl rfl)
theorem dX10_later_33 : decode cX10_later 33 = .ok (.ireturn, 1) := dko_172 (dk_t 9 33 [172, 28, 153, 0, 9] dwX10_later_24 rfl rfl)
theorem dX10_later_34 : decode cX10_later 34 = .ok (.iload_n 2, 1) := dko_28 (dk_t 10 34 [28, 153, 0, 9] dwX10_later_24 rfl rfl)
theorem dX10_later_35 : decode cX10_later 35 = .ok (.ifCond .eq 9, 3) := dko_153 (dk_t 11 35 [153, 0, 9] dwX10_later_24 rfl rfl)
theorem dwX10_later_38 : dkW cX10_later 38 [42, 45, 182, 0, 173, 172, 42, 45, 182, 0, 176, 172] = true := by decide +kernel
theorem dX10_later_38 : decode cX10_later 38 = .ok (.aload_n 0, 1) := dko_42 dwX10_later_38
theorem dX10_later_39 : decode cX10_later 39 = .ok (.aload_n 3, 1) := dko_45 (dk_t 1 39 [45, 182, 0, 173, 172, 42, 45, 182, 0, 176, 172] dwX10_later_38 rfl rfl)
theorem dX10_later_40 : decode cX10_later 40 = .ok (.invokevirtual 173, 3) := dko_182 (dk_t 2 40 [182, 0, 173, 172, 42, 45, 182, 0, 176, 172] dwX10_later_38 rfl rfl)
theorem dX10_later_43 : decode cX10_later 43 = .ok (.ireturn, 1) := dko_172 (dk_t 5 43 [172, 42, 45, 182, 0, 176, 172] dwX10_later_38 rfl rfl)
theorem dX10_later_44 : decode cX10_later 44 = .ok (.aload_n 0, 1) := dko_42 (dk_t 6 44 [42, 45, 182, 0, 176, 172] dwX10_later_38 rfl rfl)
theorem dX10_later_45 : decode cX10_later 45 = .ok (.aload_n 3, 1) := dko_45 (dk_t 7 45 [45, 182, 0, 176, 172] dwX10_later_38 rfl rfl)
theorem dX10_later_46 : decode cX10_later 46 = .ok (.invokevirtual 176, 3) := dko_182 (dk_t 8 46 [182, 0, 176, 172] dwX10_later_38 rfl rfl)
theorem dX10_later_49 : decode cX10_later 49 = .ok (.ireturn, 1) := dko_172 (dk_t 11 49 [172] dwX10_later_38 rfl rfl)
theorem dwX10_put_0 : dkW cX10_put 0 [42, 180, 0, 91, 182, 0, 113, 27, 184, 0, 179, 153, 0, 33] = true := by decide +kernel
theorem dX10_put_0 : decode cX10_put 0 = .ok (.aload_n 0, 1) := dko_42 dwX10_put_0
theorem dX10_put_1 : decode cX10_put 1 = .ok (.getfield 91, 3) := dko_180 (dk_t 1 1 [180, 0, 91, 182, 0, 113, 27, 184, 0, 179, 153, 0, 33] dwX10_put_0 rfl rfl)
theorem dX10_put_4 : decode cX10_put 4 = .ok (.invokevirtual 113, 3) := dko_182 (dk_t 4 4 [182, 0, 113, 27, 184, 0, 179, 153, 0, 33] dwX10_put_0 rfl rfl)
theorem dX10_put_7 : decode cX10_put 7 = .ok (.iload_n 1, 1) := dko_27 (dk_t 7 7 [27, 184, 0, 179, 153, 0, 33] dwX10_put_0 rfl rfl)
theorem dX10_put_8 : decode cX10_put 8 = .ok (.invokestatic 179, 3) := dko_184 (dk_t 8 8 [184, 0, 179, 153, 0, 33] dwX10_put_0 rfl rfl)
theorem dX10_put_11 : decode cX10_put 11 = .ok (.ifCond .eq 33, 3) := dko_153 (dk_t 11 11 [153, 0, 33] dwX10_put_0 rfl rfl)
theorem dwX10_put_14 : dkW cX10_put 14 [28, 184, 0, 182, 153, 0, 26, 29, 184, 0, 185, 153, 0, 19] = true := by decide +kernel
theorem dX10_put_14 : decode cX10_put 14 = .ok (.iload_n 2, 1) := dko_28 dwX10_put_14
theorem dX10_put_15 : decode cX10_put 15 = .ok (.invokestatic 182, 3) := dko_184 (dk_t 1 15 [184, 0, 182, 153, 0, 26, 29, 184, 0, 185, 153, 0, 19] dwX10_put_14 rfl rfl)
theorem dX10_put_18 : decode cX10_put 18 = .ok (.ifCond .eq 26, 3) := dko_153 (dk_t 4 18 [153, 0, 26, 29, 184, 0, 185, 153, 0, 19] dwX10_put_14 rfl rfl)
theorem dX10_put_21 : decode cX10_put 21 = .ok (.iload_n 3, 1) := dko_29 (dk_t 7 21 [29, 184, 0, 185, 153, 0, 19] dwX10_put_14 rfl rfl)
theorem dX10_put_22 : decode cX10_put 22 = .ok (.invokestatic 185, 3) := dko_184 (dk_t 8 22 [184, 0, 185, 153, 0, 19] dwX10_put_14 rfl rfl)
theorem dX10_put_25 : decode cX10_put 25 = .ok (.ifCond .eq 19, 3) := dko_153 (dk_t 11 25 [153, 0, 19] dwX10_put_14 rfl rfl)
theorem dwX10_put_28 : dkW cX10_put 28 [21, 4, 184, 0, 185, 153, 0, 11, 21, 5, 184, 0, 185] = true := by decide +kernel
theorem dX10_put_28 : decode cX10_put 28 = .ok (.iload 4, 2) := dko_21 dwX10_put_28
theorem dX10_put_30 : decode cX10_put 30 = .ok (.invokestatic 185, 3) := dko_184 (dk_t 2 30 [184, 0, 185, 153, 0, 11, 21, 5, 184, 0, 185] dwX10_put_28 rfl rfl)
theorem dX10_put_33 : decode cX10_put 33 = .ok (.ifCond .eq 11, 3) := dko_153 (dk_t 5 33 [153, 0, 11, 21, 5, 184, 0, 185] dwX10_put_28 rfl rfl)
theorem dX10_put_36 : decode cX10_put 36 = .ok (.iload 5, 2) := dko_21 (dk_t 8 36 [21, 5, 184, 0, 185] dwX10_put_28 rfl rfl)
theorem dX10_put_38 : decode cX10_put 38 = .ok (.invokestatic 185, 3) := dko_184 (dk_t 10 38 [184, 0, 185] dwX10_put_28 rfl rfl)
theorem dwX10_put_41 : dkW cX10_put 41 [154, 0, 9, 42, 2, 182, 0, 188, 172, 42, 180, 0, 37, 27] = true := by decide +kernel
theorem dX10_put_41 : decode cX10_put 41 = .ok (.ifCond .ne 9, 3) := dko_154 dwX10_put_41
theorem dX10_put_44 : decode cX10_put 44 = .ok (.aload_n 0, 1) := dko_42 (dk_t 3 44 [42, 2, 182, 0, 188, 172, 42, 180, 0, 37, 27] dwX10_put_41 rfl rfl)
theorem dX10_put_45 : decode cX10_put 45 = .ok (.iconst (-1), 1) := dko_2 (dk_t 4 45 [2, 182, 0, 188, 172, 42, 180, 0, 37, 27] dwX10_put_41 rfl rfl)
theorem dX10_put_46 : decode cX10_put 46 = .ok (.invokevirtual 188, 3) := dko_182 (dk_t 5 46 [182, 0, 188, 172, 42, 180, 0, 37, 27] dwX10_put_41 rfl rfl)
theorem dX10_put_49 : decode cX10_put 49 = .ok (.ireturn, 1) := dko_172 (dk_t 8 49 [172, 42, 180, 0, 37, 27] dwX10_put_41 rfl rfl)
theorem dX10_put_50 : decode cX10_put 50 = .ok (.aload_n 0, 1) := dko_42 (dk_t 9 50 [42, 180, 0, 37, 27] dwX10_put_41 rfl rfl)
theorem dX10_put_51 : decode cX10_put 51 = .ok (.getfield 37, 3) := dko_180 (dk_t 10 51 [180, 0, 37, 27] dwX10_put_41 rfl rfl)
theorem dX10_put_54 : decode cX10_put 54 = .ok (.iload_n 1, 1) := dko_27 (dk_t 13 54 [27] dwX10_put_41 rfl rfl)
theorem dwX10_put_55 : dkW cX10_put 55 [28, 182, 0, 191, 153, 0, 10, 42, 16, 252, 182, 0, 188, 172] = true := by decide +kernel
theorem dX10_put_55 : decode cX10_put 55 = .ok (.iload_n 2, 1) := dko_28 dwX10_put_55
theorem dX10_put_56 : decode cX10_put 56 = .ok (.invokevirtual 191, 3) := dko_182 (dk_t 1 56 [182, 0, 191, 153, 0, 10, 42, 16, 252, 182, 0, 188, 172] dwX10_put_55 rfl rfl)
theorem dX10_put_59 : decode cX10_put 59 = .ok (.ifCond .eq 10, 3) := dko_153 (dk_t 4 59 [153, 0, 10, 42, 16, 252, 182, 0, 188, 172] dwX10_put_55 rfl rfl)
theorem dX10_put_62 : decode cX10_put 62 = .ok (.aload_n 0, 1) := dko_42 (dk_t 7 62 [42, 16, 252, 182, 0, 188, 172] dwX10_put_55 rfl rfl)
theorem dX10_put_63 : decode cX10_put 63 = .ok (.bipush (-4), 2) := dko_16 (dk_t 8 63 [16, 252, 182, 0, 188, 172] dwX10_put_55 rfl rfl)
theorem dX10_put_65 : decode cX10_put 65 = .ok (.invokevirtual 188, 3) := dko_182 (dk_t 10 65 [182, 0, 188, 172] dwX10_put_55 rfl rfl)
theorem dX10_put_68 : decode cX10_put 68 = .ok (.ireturn, 1) := dko_172 (dk_t 13 68 [172] dwX10_put_55 rfl rfl)
theorem dwX10_put_69 : dkW cX10_put 69 [42, 180, 0, 44, 42, 180, 0, 37, 182, 0, 195, 42] = true := by decide +kernel
theorem dX10_put_69 : decode cX10_put 69 = .ok (.aload_n 0, 1) := dko_42 dwX10_put_69
theorem dX10_put_70 : decode cX10_put 70 = .ok (.getfield 44, 3) := dko_180 (dk_t 1 70 [180, 0, 44, 42, 180, 0, 37, 182, 0, 195, 42] dwX10_put_69 rfl rfl)
theorem dX10_put_73 : decode cX10_put 73 = .ok (.aload_n 0, 1) := dko_42 (dk_t 4 73 [42, 180, 0, 37, 182, 0, 195, 42] dwX10_put_69 rfl rfl)
theorem dX10_put_74 : decode cX10_put 74 = .ok (.getfield 37, 3) := dko_180 (dk_t 5 74 [180, 0, 37, 182, 0, 195, 42] dwX10_put_69 rfl rfl)
theorem dX10_put_77 : decode cX10_put 77 = .ok (.invokevirtual 195, 3) := dko_182 (dk_t 8 77 [182, 0, 195, 42] dwX10_put_69 rfl rfl)
theorem dX10_put_80 : decode cX10_put 80 = .ok (.aload_n 0, 1) := dko_42 (dk_t 11 80 [42] dwX10_put_69 rfl rfl)
theorem dwX10_put_81 : dkW cX10_put 81 [180, 0, 44, 27, 28, 182, 0, 199, 42, 180, 0, 44, 27, 28] = true := by decide +kernel
theorem dX10_put_81 : decode cX10_put 81 = .ok (.getfield 44, 3) := dko_180 dwX10_put_81
theorem dX10_put_84 : decode cX10_put 84 = .ok (.iload_n 1, 1) := dko_27 (dk_t 3 84 [27, 28, 182, 0, 199, 42, 180, 0, 44, 27, 28] dwX10_put_81 rfl rfl)
theorem dX10_put_85 : decode cX10_put 85 = .ok (.iload_n 2, 1) := dko_28 (dk_t 4 85 [28, 182, 0, 199, 42, 180, 0, 44, 27, 28] dwX10_put_81 rfl rfl)
theorem dX10_put_86 : decode cX10_put 86 = .ok (.invokevirtual 199, 3) := dko_182 (dk_t 5 86 [182, 0, 199, 42, 180, 0, 44, 27, 28] dwX10_put_81 rfl rfl)
theorem dX10_put_89 : decode cX10_put 89 = .ok (.aload_n 0, 1) := dko_42 (dk_t 8 89 [42, 180, 0, 44, 27, 28] dwX10_put_81 rfl rfl)
theorem dX10_put_90 : decode cX10_put 90 = .ok (.getfield 44, 3) := dko_180 (dk_t 9 90 [180, 0, 44, 27, 28] dwX10_put_81 rfl rfl)
theorem dX10_put_93 : decode cX10_put 93 = .ok (.iload_n 1, 1) := dko_27 (dk_t 12 93 [27, 28] dwX10_put_81 rfl rfl)
theorem dX10_put_94 : decode cX10_put 94 = .ok (.iload_n 2, 1) := dko_28 (dk_t 13 94 [28] dwX10_put_81 rfl rfl)
theorem dwX10_put_95 : dkW cX10_put 95 [3, 29, 182, 0, 203, 42, 180, 0, 44, 27, 28, 4, 21, 4] = true := by decide +kernel
theorem dX10_put_95 : decode cX10_put 95 = .ok (.iconst 0, 1) := dko_3 dwX10_put_95
theorem dX10_put_96 : decode cX10_put 96 = .ok (.iload_n 3, 1) := dko_29 (dk_t 1 96 [29, 182, 0, 203, 42, 180, 0, 44, 27, 28, 4, 21, 4] dwX10_put_95 rfl rfl)
theorem dX10_put_97 : decode cX10_put 97 = .ok (.invokevirtual 203, 3) := dko_182 (dk_t 2 97 [182, 0, 203, 42, 180, 0, 44, 27, 28, 4, 21, 4] dwX10_put_95 rfl rfl)
theorem dX10_put_100 : decode cX10_put 100 = .ok (.aload_n 0, 1) := dko_42 (dk_t 5 100 [42, 180, 0, 44, 27, 28, 4, 21, 4] dwX10_put_95 rfl rfl)
theorem dX10_put_101 : decode cX10_put 101 = .ok (.getfield 44, 3) := dko_180 (dk_t 6 101 [180, 0, 44, 27, 28, 4, 21, 4] dwX10_put_95 rfl rfl)
theorem dX10_put_104 : decode cX10_put 104 = .ok (.iload_n 1, 1) := dko_27 (dk_t 9 104 [27, 28, 4, 21, 4] dwX10_put_95 rfl rfl)
theorem dX10_put_105 : decode cX10_put 105 = .ok (.iload_n 2, 1) := dko_28 (dk_t 10 105 [28, 4, 21, 4] dwX10_put_95 rfl rfl)
theorem dX10_put_106 : decode cX10_put 106 = .ok (.iconst 1, 1) := dko_4 (dk_t 11 106 [4, 21, 4] dwX10_put_95 rfl rfl)
theorem dX10_put_107 : decode cX10_put 107 = .ok (.iload 4, 2) := dko_21 (dk_t 12 107 [21, 4] dwX10_put_95 rfl rfl)
theorem dwX10_put_109 : dkW cX10_put 109 [182, 0, 203, 42, 180, 0, 44, 27, 28, 5, 21, 5] = true := by decide +kernel
theorem dX10_put_109 : decode cX10_put 109 = .ok (.invokevirtual 203, 3) := dko_182 dwX10_put_109
theorem dX10_put_112 : decode cX10_put 112 = .ok (.aload_n 0, 1) := dko_42 (dk_t 3 112 [42, 180, 0, 44, 27, 28, 5, 21, 5] dwX10_put_109 rfl rfl)
theorem dX10_put_113 : decode cX10_put 113 = .ok (.getfield 44, 3) := dko_180 (dk_t 4 113 [180, 0, 44, 27, 28, 5, 21, 5] dwX10_put_109 rfl rfl)
theorem dX10_put_116 : decode cX10_put 116 = .ok (.iload_n 1, 1) := dko_27 (dk_t 7 116 [27, 28, 5, 21, 5] dwX10_put_109 rfl rfl)
theorem dX10_put_117 : decode cX10_put 117 = .ok (.iload_n 2, 1) := dko_28 (dk_t 8 117 [28, 5, 21, 5] dwX10_put_109 rfl rfl)
theorem dX10_put_118 : decode cX10_put 118 = .ok (.iconst 2, 1) := dko_5 (dk_t 9 118 [5, 21, 5] dwX10_put_109 rfl rfl)
theorem dX10_put_119 : decode cX10_put 119 = .ok (.iload 5, 2) := dko_21 (dk_t 10 119 [21, 5] dwX10_put_109 rfl rfl)
theorem dwX10_put_121 : dkW cX10_put 121 [182, 0, 203, 42, 182, 0, 207, 172] = true := by decide +kernel
theorem dX10_put_121 : decode cX10_put 121 = .ok (.invokevirtual 203, 3) := dko_182 dwX10_put_121
theorem dX10_put_124 : decode cX10_put 124 = .ok (.aload_n 0, 1) := dko_42 (dk_t 3 124 [42, 182, 0, 207, 172] dwX10_put_121 rfl rfl)
theorem dX10_put_125 : decode cX10_put 125 = .ok (.invokevirtual 207, 3) := dko_182 (dk_t 4 125 [182, 0, 207, 172] dwX10_put_121 rfl rfl)
theorem dX10_put_128 : decode cX10_put 128 = .ok (.ireturn, 1) := dko_172 (dk_t 7 128 [172] dwX10_put_121 rfl rfl)
theorem dwX10_set_0 : dkW cX10_set 0 [42, 180, 0, 91, 182, 0, 113, 42, 27, 28, 29, 21, 4] = true := by decide +kernel
theorem dX10_set_0 : decode cX10_set 0 = .ok (.aload_n 0, 1) := dko_42 dwX10_set_0
theorem dX10_set_1 : decode cX10_set 1 = .ok (.getfield 91, 3) := dko_180 (dk_t 1 1 [180, 0, 91, 182, 0, 113, 42, 27, 28, 29, 21, 4] dwX10_set_0 rfl rfl)
theorem dX10_set_4 : decode cX10_set 4 = .ok (.invokevirtual 113, 3) := dko_182 (dk_t 4 4 [182, 0, 113, 42, 27, 28, 29, 21, 4] dwX10_set_0 rfl rfl)
theorem dX10_set_7 : decode cX10_set 7 = .ok (.aload_n 0, 1) := dko_42 (dk_t 7 7 [42, 27, 28, 29, 21, 4] dwX10_set_0 rfl rfl)
theorem dX10_set_8 : decode cX10_set 8 = .ok (.iload_n 1, 1) := dko_27 (dk_t 8 8 [27, 28, 29, 21, 4] dwX10_set_0 rfl rfl)
theorem dX10_set_9 : decode cX10_set 9 = .ok (.iload_n 2, 1) := dko_28 (dk_t 9 9 [28, 29, 21, 4] dwX10_set_0 rfl rfl)
theorem dX10_set_10 : decode cX10_set 10 = .ok (.iload_n 3, 1) := dko_29 (dk_t 10 10 [29, 21, 4] dwX10_set_0 rfl rfl)
theorem dX10_set_11 : decode cX10_set 11 = .ok (.iload 4, 2) := dko_21 (dk_t 11 11 [21, 4] dwX10_set_0 rfl rfl)
theorem dwX10_set_13 : dkW cX10_set 13 [182, 0, 210, 54, 5, 21, 5, 156, 0, 12, 42, 21, 5] = true := by decide +kernel
theorem dX10_set_13 : decode cX10_set 13 = .ok (.invokevirtual 210, 3) := dko_182 dwX10_set_13
theorem dX10_set_16 : decode cX10_set 16 = .ok (.istore 5, 2) := dko_54 (dk_t 3 16 [54, 5, 21, 5, 156, 0, 12, 42, 21, 5] dwX10_set_13 rfl rfl)
theorem dX10_set_18 : decode cX10_set 18 = .ok (.iload 5, 2) := dko_21 (dk_t 5 18 [21, 5, 156, 0, 12, 42, 21, 5] dwX10_set_13 rfl rfl)
theorem dX10_set_20 : decode cX10_set 20 = .ok (.ifCond .ge 12, 3) := dko_156 (dk_t 7 20 [156, 0, 12, 42, 21, 5] dwX10_set_13 rfl rfl)
theorem dX10_set_23 : decode cX10_set 23 = .ok (.aload_n 0, 1) := dko_42 (dk_t 10 23 [42, 21, 5] dwX10_set_13 rfl rfl)
theorem dX10_set_24 : decode cX10_set 24 = .ok (.iload 5, 2) := dko_21 (dk_t 11 24 [21, 5] dwX10_set_13 rfl rfl)
theorem dwX10_set_26 : dkW cX10_set 26 [182, 0, 188, 167, 0, 7, 42, 182, 0, 207, 172] = true := by decide +kernel
theorem dX10_set_26 : decode cX10_set 26 = .ok (.invokevirtual 188, 3) := dko_182 dwX10_set_26
theorem dX10_set_29 : decode cX10_set 29 = .ok (.goto 7, 3) := dko_167 (dk_t 3 29 [167, 0, 7, 42, 182, 0, 207, 172] dwX10_set_26 rfl rfl)
theorem dX10_set_32 : decode cX10_set 32 = .ok (.aload_n 0, 1) := dko_42 (dk_t 6 32 [42, 182, 0, 207, 172] dwX10_set_26 rfl rfl)
theorem dX10_set_33 : decode cX10_set 33 = .ok (.invokevirtual 207, 3) := dko_182 (dk_t 7 33 [182, 0, 207, 172] dwX10_set_26 rfl rfl)
theorem dX10_set_36 : decode cX10_set 36 = .ok (.ireturn, 1) := dko_172 (dk_t 10 36 [172] dwX10_set_26 rfl rfl)
theorem dwX10_cut_0 : dkW cX10_cut 0 [42, 180, 0, 91, 182, 0, 113, 27, 184, 0, 179, 153, 0, 10] = true := by decide +kernel
theorem dX10_cut_0 : decode cX10_cut 0 = .ok (.aload_n 0, 1) := dko_42 dwX10_cut_0
theorem dX10_cut_1 : decode cX10_cut 1 = .ok (.getfield 91, 3) := dko_180 (dk_t 1 1 [180, 0, 91, 182, 0, 113, 27, 184, 0, 179, 153, 0, 10] dwX10_cut_0 rfl rfl)
theorem dX10_cut_4 : decode cX10_cut 4 = .ok (.invokevirtual 113, 3) := dko_182 (dk_t 4 4 [182, 0, 113, 27, 184, 0, 179, 153, 0, 10] dwX10_cut_0 rfl rfl)
theorem dX10_cut_7 : decode cX10_cut 7 = .ok (.iload_n 1, 1) := dko_27 (dk_t 7 7 [27, 184, 0, 179, 153, 0, 10] dwX10_cut_0 rfl rfl)
theorem dX10_cut_8 : decode cX10_cut 8 = .ok (.invokestatic 179, 3) := dko_184 (dk_t 8 8 [184, 0, 179, 153, 0, 10] dwX10_cut_0 rfl rfl)
theorem dX10_cut_11 : decode cX10_cut 11 = .ok (.ifCond .eq 10, 3) := dko_153 (dk_t 11 11 [153, 0, 10] dwX10_cut_0 rfl rfl)
theorem dwX10_cut_14 : dkW cX10_cut 14 [28, 184, 0, 182, 154, 0, 9, 42, 2, 182, 0, 188, 172, 42] = true := by decide +kernel
theorem dX10_cut_14 : decode cX10_cut 14 = .ok (.iload_n 2, 1) := dko_28 dwX10_cut_14
theorem dX10_cut_15 : decode cX10_cut 15 = .ok (.invokestatic 182, 3) := dko_184 (dk_t 1 15 [184, 0, 182, 154, 0, 9, 42, 2, 182, 0, 188, 172, 42] dwX10_cut_14 rfl rfl)
theorem dX10_cut_18 : decode cX10_cut 18 = .ok (.ifCond .ne 9, 3) := dko_154 (dk_t 4 18 [154, 0, 9, 42, 2, 182, 0, 188, 172, 42] dwX10_cut_14 rfl rfl)
theorem dX10_cut_21 : decode cX10_cut 21 = .ok (.aload_n 0, 1) := dko_42 (dk_t 7 21 [42, 2, 182, 0, 188, 172, 42] dwX10_cut_14 rfl rfl)
theorem dX10_cut_22 : decode cX10_cut 22 = .ok (.iconst (-1), 1) := dko_2 (dk_t 8 22 [2, 182, 0, 188, 172, 42] dwX10_cut_14 rfl rfl)
theorem dX10_cut_23 : decode cX10_cut 23 = .ok (.invokevirtual 188, 3) := dko_182 (dk_t 9 23 [182, 0, 188, 172, 42] dwX10_cut_14 rfl rfl)
theorem dX10_cut_26 : decode cX10_cut 26 = .ok (.ireturn, 1) := dko_172 (dk_t 12 26 [172, 42] dwX10_cut_14 rfl rfl)
theorem dX10_cut_27 : decode cX10_cut 27 = .ok (.aload_n 0, 1) := dko_42 (dk_t 13 27 [42] dwX10_cut_14 rfl rfl)
theorem dwX10_cut_28 : dkW cX10_cut 28 [180, 0, 37, 27, 28, 182, 0, 191, 154, 0, 10, 42, 16, 254] = true := by decide +kernel
theorem dX10_cut_28 : decode cX10_cut 28 = .ok (.getfield 37, 3) := dko_180 dwX10_cut_28
theorem dX10_cut_31 : decode cX10_cut 31 = .ok (.iload_n 1, 1) := dko_27 (dk_t 3 31 [27, 28, 182, 0, 191, 154, 0, 10, 42, 16, 254] dwX10_cut_28 rfl rfl)
theorem dX10_cut_32 : decode cX10_cut 32 = .ok (.iload_n 2, 1) := dko_28 (dk_t 4 32 [28, 182, 0, 191, 154, 0, 10, 42, 16, 254] dwX10_cut_28 rfl rfl)
theorem dX10_cut_33 : decode cX10_cut 33 = .ok (.invokevirtual 191, 3) := dko_182 (dk_t 5 33 [182, 0, 191, 154, 0, 10, 42, 16, 254] dwX10_cut_28 rfl rfl)
theorem dX10_cut_36 : decode cX10_cut 36 = .ok (.ifCond .ne 10, 3) := dko_154 (dk_t 8 36 [154, 0, 10, 42, 16, 254] dwX10_cut_28 rfl rfl)
theorem dX10_cut_39 : decode cX10_cut 39 = .ok (.aload_n 0, 1) := dko_42 (dk_t 11 39 [42, 16, 254] dwX10_cut_28 rfl rfl)
theorem dX10_cut_40 : decode cX10_cut 40 = .ok (.bipush (-2), 2) := dko_16 (dk_t 12 40 [16, 254] dwX10_cut_28 rfl rfl)
theorem dwX10_cut_42 : dkW cX10_cut 42 [182, 0, 188, 172, 42, 180, 0, 44, 42, 180, 0, 37] = true := by decide +kernel
theorem dX10_cut_42 : decode cX10_cut 42 = .ok (.invokevirtual 188, 3) := dko_182 dwX10_cut_42
theorem dX10_cut_45 : decode cX10_cut 45 = .ok (.ireturn, 1) := dko_172 (dk_t 3 45 [172, 42, 180, 0, 44, 42, 180, 0, 37] dwX10_cut_42 rfl rfl)
theorem dX10_cut_46 : decode cX10_cut 46 = .ok (.aload_n 0, 1) := dko_42 (dk_t 4 46 [42, 180, 0, 44, 42, 180, 0, 37] dwX10_cut_42 rfl rfl)
theorem dX10_cut_47 : decode cX10_cut 47 = .ok (.getfield 44, 3) := dko_180 (dk_t 5 47 [180, 0, 44, 42, 180, 0, 37] dwX10_cut_42 rfl rfl)
theorem dX10_cut_50 : decode cX10_cut 50 = .ok (.aload_n 0, 1) := dko_42 (dk_t 8 50 [42, 180, 0, 37] dwX10_cut_42 rfl rfl)
theorem dX10_cut_51 : decode cX10_cut 51 = .ok (.getfield 37, 3) := dko_180 (dk_t 9 51 [180, 0, 37] dwX10_cut_42 rfl rfl)
theorem dwX10_cut_54 : dkW cX10_cut 54 [182, 0, 195, 42, 180, 0, 77, 42, 180, 0, 44, 42] = true := by decide +kernel
theorem dX10_cut_54 : decode cX10_cut 54 = .ok (.invokevirtual 195, 3) := dko_182 dwX10_cut_54
theorem dX10_cut_57 : decode cX10_cut 57 = .ok (.aload_n 0, 1) := dko_42 (dk_t 3 57 [42, 180, 0, 77, 42, 180, 0, 44, 42] dwX10_cut_54 rfl rfl)
theorem dX10_cut_58 : decode cX10_cut 58 = .ok (.getfield 77, 3) := dko_180 (dk_t 4 58 [180, 0, 77, 42, 180, 0, 44, 42] dwX10_cut_54 rfl rfl)
theorem dX10_cut_61 : decode cX10_cut 61 = .ok (.aload_n 0, 1) := dko_42 (dk_t 7 61 [42, 180, 0, 44, 42] dwX10_cut_54 rfl rfl)
theorem dX10_cut_62 : decode cX10_cut 62 = .ok (.getfield 44, 3) := dko_180 (dk_t 8 62 [180, 0, 44, 42] dwX10_cut_54 rfl rfl)
theorem dX10_cut_65 : decode cX10_cut 65 = .ok (.aload_n 0, 1) := dko_42 (dk_t 11 65 [42] dwX10_cut_54 rfl rfl)
theorem dwX10_cut_66 : dkW cX10_cut 66 [180, 0, 30, 27, 28, 182, 0, 214, 42, 182, 0, 207, 172] = true := by decide +kernel
theorem dX10_cut_66 : decode cX10_cut 66 = .ok (.getfield 30, 3) := dko_180 dwX10_cut_66
theorem dX10_cut_69 : decode cX10_cut 69 = .ok (.iload_n 1, 1) := dko_27 (dk_t 3 69 [27, 28, 182, 0, 214, 42, 182, 0, 207, 172] dwX10_cut_66 rfl rfl)
theorem dX10_cut_70 : decode cX10_cut 70 = .ok (.iload_n 2, 1) := dko_28 (dk_t 4 70 [28, 182, 0, 214, 42, 182, 0, 207, 172] dwX10_cut_66 rfl rfl)
theorem dX10_cut_71 : decode cX10_cut 71 = .ok (.invokevirtual 214, 3) := dko_182 (dk_t 5 71 [182, 0, 214, 42, 182, 0, 207, 172] dwX10_cut_66 rfl rfl)
theorem dX10_cut_74 : decode cX10_cut 74 = .ok (.aload_n 0, 1) := dko_42 (dk_t 8 74 [42, 182, 0, 207, 172] dwX10_cut_66 rfl rfl)
theorem dX10_cut_75 : decode cX10_cut 75 = .ok (.invokevirtual 207, 3) := dko_182 (dk_t 9 75 [182, 0, 207, 172] dwX10_cut_66 rfl rfl)
theorem dX10_cut_78 : decode cX10_cut 78 = .ok (.ireturn, 1) := dko_172 (dk_t 12 78 [172] dwX10_cut_66 rfl rfl)
theorem dwX10_rekey_0 : dkW cX10_rekey 0 [42, 180, 0, 91, 182, 0, 113, 27, 184, 0, 179, 153, 0, 17] = true := by decide +kernel
theorem dX10_rekey_0 : decode cX10_rekey 0 = .ok (.aload_n 0, 1) := dko_42 dwX10_rekey_0
theorem dX10_rekey_1 : decode cX10_rekey 1 = .ok (.getfield 91, 3) := dko_180 (dk_t 1 1 [180, 0, 91, 182, 0, 113, 27, 184, 0, 179, 153, 0, 17] dwX10_rekey_0 rfl rfl)
theorem dX10_rekey_4 : decode cX10_rekey 4 = .ok (.invokevirtual 113, 3) := dko_182 (dk_t 4 4 [182, 0, 113, 27, 184, 0, 179, 153, 0, 17] dwX10_rekey_0 rfl rfl)
theorem dX10_rekey_7 : decode cX10_rekey 7 = .ok (.iload_n 1, 1) := dko_27 (dk_t 7 7 [27, 184, 0, 179, 153, 0, 17] dwX10_rekey_0 rfl rfl)
theorem dX10_rekey_8 : decode cX10_rekey 8 = .ok (.invokestatic 179, 3) := dko_184 (dk_t 8 8 [184, 0, 179, 153, 0, 17] dwX10_rekey_0 rfl rfl)
theorem dX10_rekey_11 : decode cX10_rekey 11 = .ok (.ifCond .eq 17, 3) := dko_153 (dk_t 11 11 [153, 0, 17] dwX10_rekey_0 rfl rfl)
theorem dwX10_rekey_14 : dkW cX10_rekey 14 [28, 184, 0, 182, 153, 0, 10, 29, 184, 0, 182, 154, 0, 9] = true := by decide +kernel
theorem dX10_rekey_14 : decode cX10_rekey 14 = .ok (.iload_n 2, 1) := dko_28 dwX10_rekey_14
theorem dX10_rekey_15 : decode cX10_rekey 15 = .ok (.invokestatic 182, 3) := dko_184 (dk_t 1 15 [184, 0, 182, 153, 0, 10, 29, 184, 0, 182, 154, 0, 9] dwX10_rekey_14 rfl rfl)
theorem dX10_rekey_18 : decode cX10_rekey 18 = .ok (.ifCond .eq 10, 3) := dko_153 (dk_t 4 18 [153, 0, 10, 29, 184, 0, 182, 154, 0, 9] dwX10_rekey_14 rfl rfl)
theorem dX10_rekey_21 : decode cX10_rekey 21 = .ok (.iload_n 3, 1) := dko_29 (dk_t 7 21 [29, 184, 0, 182, 154, 0, 9] dwX10_rekey_14 rfl rfl)
theorem dX10_rekey_22 : decode cX10_rekey 22 = .ok (.invokestatic 182, 3) := dko_184 (dk_t 8 22 [184, 0, 182, 154, 0, 9] dwX10_rekey_14 rfl rfl)
theorem dX10_rekey_25 : decode cX10_rekey 25 = .ok (.ifCond .ne 9, 3) := dko_154 (dk_t 11 25 [154, 0, 9] dwX10_rekey_14 rfl rfl)
theorem dwX10_rekey_28 : dkW cX10_rekey 28 [42, 2, 182, 0, 188, 172, 42, 180, 0, 37, 27, 28] = true := by decide +kernel
theorem dX10_rekey_28 : decode cX10_rekey 28 = .ok (.aload_n 0, 1) := dko_42 dwX10_rekey_28
theorem dX10_rekey_29 : decode cX10_rekey 29 = .ok (.iconst (-1), 1) := dko_2 (dk_t 1 29 [2, 182, 0, 188, 172, 42, 180, 0, 37, 27, 28] dwX10_rekey_28 rfl rfl)
theorem dX10_rekey_30 : decode cX10_rekey 30 = .ok (.invokevirtual 188, 3) := dko_182 (dk_t 2 30 [182, 0, 188, 172, 42, 180, 0, 37, 27, 28] dwX10_rekey_28 rfl rfl)
theorem dX10_rekey_33 : decode cX10_rekey 33 = .ok (.ireturn, 1) := dko_172 (dk_t 5 33 [172, 42, 180, 0, 37, 27, 28] dwX10_rekey_28 rfl rfl)
theorem dX10_rekey_34 : decode cX10_rekey 34 = .ok (.aload_n 0, 1) := dko_42 (dk_t 6 34 [42, 180, 0, 37, 27, 28] dwX10_rekey_28 rfl rfl)
theorem dX10_rekey_35 : decode cX10_rekey 35 = .ok (.getfield 37, 3) := dko_180 (dk_t 7 35 [180, 0, 37, 27, 28] dwX10_rekey_28 rfl rfl)
theorem dX10_rekey_38 : decode cX10_rekey 38 = .ok (.iload_n 1, 1) := dko_27 (dk_t 10 38 [27, 28] dwX10_rekey_28 rfl rfl)
theorem dX10_rekey_39 : decode cX10_rekey 39 = .ok (.iload_n 2, 1) := dko_28 (dk_t 11 39 [28] dwX10_rekey_28 rfl rfl)
theorem dwX10_rekey_40 : dkW cX10_rekey 40 [182, 0, 191, 154, 0, 10, 42, 16, 254, 182, 0, 188, 172, 42] = true := by decide +kernel
theorem dX10_rekey_40 : decode cX10_rekey 40 = .ok (.invokevirtual 191, 3) := dko_182 dwX10_rekey_40
theorem dX10_rekey_43 : decode cX10_rekey 43 = .ok (.ifCond .ne 10, 3) := dko_154 (dk_t 3 43 [154, 0, 10, 42, 16, 254, 182, 0, 188, 172, 42] dwX10_rekey_40 rfl rfl)
theorem dX10_rekey_46 : decode cX10_rekey 46 = .ok (.aload_n 0, 1) := dko_42 (dk_t 6 46 [42, 16, 254, 182, 0, 188, 172, 42] dwX10_rekey_40 rfl rfl)
theorem dX10_rekey_47 : decode cX10_rekey 47 = .ok (.bipush (-2), 2) := dko_16 (dk_t 7 47 [16, 254, 182, 0, 188, 172, 42] dwX10_rekey_40 rfl rfl)
theorem dX10_rekey_49 : decode cX10_rekey 49 = .ok (.invokevirtual 188, 3) := dko_182 (dk_t 9 49 [182, 0, 188, 172, 42] dwX10_rekey_40 rfl rfl)
theorem dX10_rekey_52 : decode cX10_rekey 52 = .ok (.ireturn, 1) := dko_172 (dk_t 12 52 [172, 42] dwX10_rekey_40 rfl rfl)
theorem dX10_rekey_53 : decode cX10_rekey 53 = .ok (.aload_n 0, 1) := dko_42 (dk_t 13 53 [42] dwX10_rekey_40 rfl rfl)
theorem dwX10_rekey_54 : dkW cX10_rekey 54 [180, 0, 37, 27, 29, 182, 0, 191, 153, 0, 10, 42, 16, 252] = true := by decide +kernel
theorem dX10_rekey_54 : decode cX10_rekey 54 = .ok (.getfield 37, 3) := dko_180 dwX10_rekey_54
theorem dX10_rekey_57 : decode cX10_rekey 57 = .ok (.iload_n 1, 1) := dko_27 (dk_t 3 57 [27, 29, 182, 0, 191, 153, 0, 10, 42, 16, 252] dwX10_rekey_54 rfl rfl)
theorem dX10_rekey_58 : decode cX10_rekey 58 = .ok (.iload_n 3, 1) := dko_29 (dk_t 4 58 [29, 182, 0, 191, 153, 0, 10, 42, 16, 252] dwX10_rekey_54 rfl rfl)
theorem dX10_rekey_59 : decode cX10_rekey 59 = .ok (.invokevirtual 191, 3) := dko_182 (dk_t 5 59 [182, 0, 191, 153, 0, 10, 42, 16, 252] dwX10_rekey_54 rfl rfl)
theorem dX10_rekey_62 : decode cX10_rekey 62 = .ok (.ifCond .eq 10, 3) := dko_153 (dk_t 8 62 [153, 0, 10, 42, 16, 252] dwX10_rekey_54 rfl rfl)
theorem dX10_rekey_65 : decode cX10_rekey 65 = .ok (.aload_n 0, 1) := dko_42 (dk_t 11 65 [42, 16, 252] dwX10_rekey_54 rfl rfl)
theorem dX10_rekey_66 : decode cX10_rekey 66 = .ok (.bipush (-4), 2) := dko_16 (dk_t 12 66 [16, 252] dwX10_rekey_54 rfl rfl)
theorem dwX10_rekey_68 : dkW cX10_rekey 68 [182, 0, 188, 172, 42, 180, 0, 44, 42, 180, 0, 37] = true := by decide +kernel
theorem dX10_rekey_68 : decode cX10_rekey 68 = .ok (.invokevirtual 188, 3) := dko_182 dwX10_rekey_68
theorem dX10_rekey_71 : decode cX10_rekey 71 = .ok (.ireturn, 1) := dko_172 (dk_t 3 71 [172, 42, 180, 0, 44, 42, 180, 0, 37] dwX10_rekey_68 rfl rfl)
theorem dX10_rekey_72 : decode cX10_rekey 72 = .ok (.aload_n 0, 1) := dko_42 (dk_t 4 72 [42, 180, 0, 44, 42, 180, 0, 37] dwX10_rekey_68 rfl rfl)
theorem dX10_rekey_73 : decode cX10_rekey 73 = .ok (.getfield 44, 3) := dko_180 (dk_t 5 73 [180, 0, 44, 42, 180, 0, 37] dwX10_rekey_68 rfl rfl)
theorem dX10_rekey_76 : decode cX10_rekey 76 = .ok (.aload_n 0, 1) := dko_42 (dk_t 8 76 [42, 180, 0, 37] dwX10_rekey_68 rfl rfl)
theorem dX10_rekey_77 : decode cX10_rekey 77 = .ok (.getfield 37, 3) := dko_180 (dk_t 9 77 [180, 0, 37] dwX10_rekey_68 rfl rfl)
theorem dwX10_rekey_80 : dkW cX10_rekey 80 [182, 0, 195, 42, 180, 0, 77, 42, 180, 0, 44, 42] = true := by decide +kernel
theorem dX10_rekey_80 : decode cX10_rekey 80 = .ok (.invokevirtual 195, 3) := dko_182 dwX10_rekey_80
theorem dX10_rekey_83 : decode cX10_rekey 83 = .ok (.aload_n 0, 1) := dko_42 (dk_t 3 83 [42, 180, 0, 77, 42, 180, 0, 44, 42] dwX10_rekey_80 rfl rfl)
theorem dX10_rekey_84 : decode cX10_rekey 84 = .ok (.getfield 77, 3) := dko_180 (dk_t 4 84 [180, 0, 77, 42, 180, 0, 44, 42] dwX10_rekey_80 rfl rfl)
theorem dX10_rekey_87 : decode cX10_rekey 87 = .ok (.aload_n 0, 1) := dko_42 (dk_t 7 87 [42, 180, 0, 44, 42] dwX10_rekey_80 rfl rfl)
theorem dX10_rekey_88 : decode cX10_rekey 88 = .ok (.getfield 44, 3) := dko_180 (dk_t 8 88 [180, 0, 44, 42] dwX10_rekey_80 rfl rfl)
theorem dX10_rekey_91 : decode cX10_rekey 91 = .ok (.aload_n 0, 1) := dko_42 (dk_t 11 91 [42] dwX10_rekey_80 rfl rfl)
theorem dwX10_rekey_92 : dkW cX10_rekey 92 [180, 0, 30, 27, 28, 29, 182, 0, 218, 42, 182, 0, 207, 172] = true := by decide +kernel
theorem dX10_rekey_92 : decode cX10_rekey 92 = .ok (.getfield 30, 3) := dko_180 dwX10_rekey_92
theorem dX10_rekey_95 : decode cX10_rekey 95 = .ok (.iload_n 1, 1) := dko_27 (dk_t 3 95 [27, 28, 29, 182, 0, 218, 42, 182, 0, 207, 172] dwX10_rekey_92 rfl rfl)
theorem dX10_rekey_96 : decode cX10_rekey 96 = .ok (.iload_n 2, 1) := dko_28 (dk_t 4 96 [28, 29, 182, 0, 218, 42, 182, 0, 207, 172] dwX10_rekey_92 rfl rfl)
theorem dX10_rekey_97 : decode cX10_rekey 97 = .ok (.iload_n 3, 1) := dko_29 (dk_t 5 97 [29, 182, 0, 218, 42, 182, 0, 207, 172] dwX10_rekey_92 rfl rfl)
theorem dX10_rekey_98 : decode cX10_rekey 98 = .ok (.invokevirtual 218, 3) := dko_182 (dk_t 6 98 [182, 0, 218, 42, 182, 0, 207, 172] dwX10_rekey_92 rfl rfl)
theorem dX10_rekey_101 : decode cX10_rekey 101 = .ok (.aload_n 0, 1) := dko_42 (dk_t 9 101 [42, 182, 0, 207, 172] dwX10_rekey_92 rfl rfl)
theorem dX10_rekey_102 : decode cX10_rekey 102 = .ok (.invokevirtual 207, 3) := dko_182 (dk_t 10 102 [182, 0, 207, 172] dwX10_rekey_92 rfl rfl)
theorem dX10_rekey_105 : decode cX10_rekey 105 = .ok (.ireturn, 1) := dko_172 (dk_t 13 105 [172] dwX10_rekey_92 rfl rfl)
theorem dwX10_begin_0 : dkW cX10_begin 0 [42, 180, 0, 123, 153, 0, 6, 16, 253, 172, 42, 4] = true := by decide +kernel
theorem dX10_begin_0 : decode cX10_begin 0 = .ok (.aload_n 0, 1) := dko_42 dwX10_begin_0
theorem dX10_begin_1 : decode cX10_begin 1 = .ok (.getfield 123, 3) := dko_180 (dk_t 1 1 [180, 0, 123, 153, 0, 6, 16, 253, 172, 42, 4] dwX10_begin_0 rfl rfl)
theorem dX10_begin_4 : decode cX10_begin 4 = .ok (.ifCond .eq 6, 3) := dko_153 (dk_t 4 4 [153, 0, 6, 16, 253, 172, 42, 4] dwX10_begin_0 rfl rfl)
theorem dX10_begin_7 : decode cX10_begin 7 = .ok (.bipush (-3), 2) := dko_16 (dk_t 7 7 [16, 253, 172, 42, 4] dwX10_begin_0 rfl rfl)
theorem dX10_begin_9 : decode cX10_begin 9 = .ok (.ireturn, 1) := dko_172 (dk_t 9 9 [172, 42, 4] dwX10_begin_0 rfl rfl)
theorem dX10_begin_10 : decode cX10_begin 10 = .ok (.aload_n 0, 1) := dko_42 (dk_t 10 10 [42, 4] dwX10_begin_0 rfl rfl)
theorem dX10_begin_11 : decode cX10_begin 11 = .ok (.iconst 1, 1) := dko_4 (dk_t 11 11 [4] dwX10_begin_0 rfl rfl)
theorem dwX10_begin_12 : dkW cX10_begin 12 [181, 0, 123, 42, 180, 0, 41, 42, 180, 0, 37, 182, 0, 195] = true := by decide +kernel
theorem dX10_begin_12 : decode cX10_begin 12 = .ok (.putfield 123, 3) := dko_181 dwX10_begin_12
theorem dX10_begin_15 : decode cX10_begin 15 = .ok (.aload_n 0, 1) := dko_42 (dk_t 3 15 [42, 180, 0, 41, 42, 180, 0, 37, 182, 0, 195] dwX10_begin_12 rfl rfl)
theorem dX10_begin_16 : decode cX10_begin 16 = .ok (.getfield 41, 3) := dko_180 (dk_t 4 16 [180, 0, 41, 42, 180, 0, 37, 182, 0, 195] dwX10_begin_12 rfl rfl)
theorem dX10_begin_19 : decode cX10_begin 19 = .ok (.aload_n 0, 1) := dko_42 (dk_t 7 19 [42, 180, 0, 37, 182, 0, 195] dwX10_begin_12 rfl rfl)
theorem dX10_begin_20 : decode cX10_begin 20 = .ok (.getfield 37, 3) := dko_180 (dk_t 8 20 [180, 0, 37, 182, 0, 195] dwX10_begin_12 rfl rfl)
theorem dX10_begin_23 : decode cX10_begin 23 = .ok (.invokevirtual 195, 3) := dko_182 (dk_t 11 23 [182, 0, 195] dwX10_begin_12 rfl rfl)
theorem dwX10_begin_26 : dkW cX10_begin 26 [3, 60, 27, 16, 6, 162, 0, 16, 42, 180, 0, 95, 27, 3] = true := by decide +kernel
theorem dX10_begin_26 : decode cX10_begin 26 = .ok (.iconst 0, 1) := dko_3 dwX10_begin_26
theorem dX10_begin_27 : decode cX10_begin 27 = .ok (.istore_n 1, 1) := dko_60 (dk_t 1 27 [60, 27, 16, 6, 162, 0, 16, 42, 180, 0, 95, 27, 3] dwX10_begin_26 rfl rfl)
theorem dX10_begin_28 : decode cX10_begin 28 = .ok (.iload_n 1, 1) := dko_27 (dk_t 2 28 [27, 16, 6, 162, 0, 16, 42, 180, 0, 95, 27, 3] dwX10_begin_26 rfl rfl)
theorem dX10_begin_29 : decode cX10_begin 29 = .ok (.bipush 6, 2) := dko_16 (dk_t 3 29 [16, 6, 162, 0, 16, 42, 180, 0, 95, 27, 3] dwX10_begin_26 rfl rfl)
theorem dX10_begin_31 : decode cX10_begin 31 = .ok (.if_icmp .ge 16, 3) := dko_162 (dk_t 5 31 [162, 0, 16, 42, 180, 0, 95, 27, 3] dwX10_begin_26 rfl rfl)
theorem dX10_begin_34 : decode cX10_begin 34 = .ok (.aload_n 0, 1) := dko_42 (dk_t 8 34 [42, 180, 0, 95, 27, 3] dwX10_begin_26 rfl rfl)
theorem dX10_begin_35 : decode cX10_begin 35 = .ok (.getfield 95, 3) := dko_180 (dk_t 9 35 [180, 0, 95, 27, 3] dwX10_begin_26 rfl rfl)
theorem dX10_begin_38 : decode cX10_begin 38 = .ok (.iload_n 1, 1) := dko_27 (dk_t 12 38 [27, 3] dwX10_begin_26 rfl rfl)
theorem dX10_begin_39 : decode cX10_begin 39 = .ok (.iconst 0, 1) := dko_3 (dk_t 13 39 [3] dwX10_begin_26 rfl rfl)
theorem dwX10_begin_40 : dkW cX10_begin 40 [79, 132, 1, 1, 167, 255, 240, 42, 180, 0, 37, 182, 0, 222] = true := by decide +kernel
theorem dX10_begin_40 : decode cX10_begin 40 = .ok (.iastore, 1) := dko_79 dwX10_begin_40
theorem dX10_begin_41 : decode cX10_begin 41 = .ok (.iinc 1 1, 3) := dko_132 (dk_t 1 41 [132, 1, 1, 167, 255, 240, 42, 180, 0, 37, 182, 0, 222] dwX10_begin_40 rfl rfl)
theorem dX10_begin_44 : decode cX10_begin 44 = .ok (.goto (-16), 3) := dko_167 (dk_t 4 44 [167, 255, 240, 42, 180, 0, 37, 182, 0, 222] dwX10_begin_40 rfl rfl)
theorem dX10_begin_47 : decode cX10_begin 47 = .ok (.aload_n 0, 1) := dko_42 (dk_t 7 47 [42, 180, 0, 37, 182, 0, 222] dwX10_begin_40 rfl rfl)
theorem dX10_begin_48 : decode cX10_begin 48 = .ok (.getfield 37, 3) := dko_180 (dk_t 8 48 [180, 0, 37, 182, 0, 222] dwX10_begin_40 rfl rfl)
theorem dX10_begin_51 : decode cX10_begin 51 = .ok (.invokevirtual 222, 3) := dko_182 (dk_t 11 51 [182, 0, 222] dwX10_begin_40 rfl rfl)
theorem dwX10_begin_54 : dkW cX10_begin 54 [172] = true := by decide +kernel
theorem dX10_begin_54 : decode cX10_begin 54 = .ok (.ireturn, 1) := dko_172 dwX10_begin_54
theorem dwX10_commit_0 : dkW cX10_commit 0 [42, 180, 0, 91, 182, 0, 113, 42, 180, 0, 123, 154, 0, 6] = true := by decide +kernel
theorem dX10_commit_0 : decode cX10_commit 0 = .ok (.aload_n 0, 1) := dko_42 dwX10_commit_0
theorem dX10_commit_1 : decode cX10_commit 1 = .ok (.getfield 91, 3) := dko_180 (dk_t 1 1 [180, 0, 91, 182, 0, 113, 42, 180, 0, 123, 154, 0, 6] dwX10_commit_0 rfl rfl)
theorem dX10_commit_4 : decode cX10_commit 4 = .ok (.invokevirtual 113, 3) := dko_182 (dk_t 4 4 [182, 0, 113, 42, 180, 0, 123, 154, 0, 6] dwX10_commit_0 rfl rfl)
theorem dX10_commit_7 : decode cX10_commit 7 = .ok (.aload_n 0, 1) := dko_42 (dk_t 7 7 [42, 180, 0, 123, 154, 0, 6] dwX10_commit_0 rfl rfl)
theorem dX10_commit_8 : decode cX10_commit 8 = .ok (.getfield 123, 3) := dko_180 (dk_t 8 8 [180, 0, 123, 154, 0, 6] dwX10_commit_0 rfl rfl)
theorem dX10_commit_11 : decode cX10_commit 11 = .ok (.ifCond .ne 6, 3) := dko_154 (dk_t 11 11 [154, 0, 6] dwX10_commit_0 rfl rfl)
theorem dwX10_commit_14 : dkW cX10_commit 14 [16, 253, 172, 42, 42, 180, 0, 57, 182, 0, 225, 60, 27] = true := by decide +kernel
theorem dX10_commit_14 : decode cX10_commit 14 = .ok (.bipush (-3), 2) := dko_16 dwX10_commit_14
theorem dX10_commit_16 : decode cX10_commit 16 = .ok (.ireturn, 1) := dko_172 (dk_t 2 16 [172, 42, 42, 180, 0, 57, 182, 0, 225, 60, 27] dwX10_commit_14 rfl rfl)
theorem dX10_commit_17 : decode cX10_commit 17 = .ok (.aload_n 0, 1) := dko_42 (dk_t 3 17 [42, 42, 180, 0, 57, 182, 0, 225, 60, 27] dwX10_commit_14 rfl rfl)
theorem dX10_commit_18 : decode cX10_commit 18 = .ok (.aload_n 0, 1) := dko_42 (dk_t 4 18 [42, 180, 0, 57, 182, 0, 225, 60, 27] dwX10_commit_14 rfl rfl)
theorem dX10_commit_19 : decode cX10_commit 19 = .ok (.getfield 57, 3) := dko_180 (dk_t 5 19 [180, 0, 57, 182, 0, 225, 60, 27] dwX10_commit_14 rfl rfl)
theorem dX10_commit_22 : decode cX10_commit 22 = .ok (.invokevirtual 225, 3) := dko_182 (dk_t 8 22 [182, 0, 225, 60, 27] dwX10_commit_14 rfl rfl)
theorem dX10_commit_25 : decode cX10_commit 25 = .ok (.istore_n 1, 1) := dko_60 (dk_t 11 25 [60, 27] dwX10_commit_14 rfl rfl)
theorem dX10_commit_26 : decode cX10_commit 26 = .ok (.iload_n 1, 1) := dko_27 (dk_t 12 26 [27] dwX10_commit_14 rfl rfl)
theorem dwX10_commit_27 : dkW cX10_commit 27 [154, 0, 14, 42, 180, 0, 37, 42, 180, 0, 41, 182, 0, 195] = true := by decide +kernel
theorem dX10_commit_27 : decode cX10_commit 27 = .ok (.ifCond .ne 14, 3) := dko_154 dwX10_commit_27
theorem dX10_commit_30 : decode cX10_commit 30 = .ok (.aload_n 0, 1) := dko_42 (dk_t 3 30 [42, 180, 0, 37, 42, 180, 0, 41, 182, 0, 195] dwX10_commit_27 rfl rfl)
theorem dX10_commit_31 : decode cX10_commit 31 = .ok (.getfield 37, 3) := dko_180 (dk_t 4 31 [180, 0, 37, 42, 180, 0, 41, 182, 0, 195] dwX10_commit_27 rfl rfl)
theorem dX10_commit_34 : decode cX10_commit 34 = .ok (.aload_n 0, 1) := dko_42 (dk_t 7 34 [42, 180, 0, 41, 182, 0, 195] dwX10_commit_27 rfl rfl)
theorem dX10_commit_35 : decode cX10_commit 35 = .ok (.getfield 41, 3) := dko_180 (dk_t 8 35 [180, 0, 41, 182, 0, 195] dwX10_commit_27 rfl rfl)
theorem dX10_commit_38 : decode cX10_commit 38 = .ok (.invokevirtual 195, 3) := dko_182 (dk_t 11 38 [182, 0, 195] dwX10_commit_27 rfl rfl)
theorem dwX10_commit_41 : dkW cX10_commit 41 [42, 182, 0, 229, 27, 153, 0, 13, 42, 180, 0, 64] = true := by decide +kernel
theorem dX10_commit_41 : decode cX10_commit 41 = .ok (.aload_n 0, 1) := dko_42 dwX10_commit_41
theorem dX10_commit_42 : decode cX10_commit 42 = .ok (.invokevirtual 229, 3) := dko_182 (dk_t 1 42 [182, 0, 229, 27, 153, 0, 13, 42, 180, 0, 64] dwX10_commit_41 rfl rfl)
theorem dX10_commit_45 : decode cX10_commit 45 = .ok (.iload_n 1, 1) := dko_27 (dk_t 4 45 [27, 153, 0, 13, 42, 180, 0, 64] dwX10_commit_41 rfl rfl)
theorem dX10_commit_46 : decode cX10_commit 46 = .ok (.ifCond .eq 13, 3) := dko_153 (dk_t 5 46 [153, 0, 13, 42, 180, 0, 64] dwX10_commit_41 rfl rfl)
theorem dX10_commit_49 : decode cX10_commit 49 = .ok (.aload_n 0, 1) := dko_42 (dk_t 8 49 [42, 180, 0, 64] dwX10_commit_41 rfl rfl)
theorem dX10_commit_50 : decode cX10_commit 50 = .ok (.getfield 64, 3) := dko_180 (dk_t 9 50 [180, 0, 64] dwX10_commit_41 rfl rfl)
theorem dwX10_commit_53 : dkW cX10_commit 53 [182, 0, 232, 167, 0, 5, 16, 251, 172] = true := by decide +kernel
theorem dX10_commit_53 : decode cX10_commit 53 = .ok (.invokevirtual 232, 3) := dko_182 dwX10_commit_53
theorem dX10_commit_56 : decode cX10_commit 56 = .ok (.goto 5, 3) := dko_167 (dk_t 3 56 [167, 0, 5, 16, 251, 172] dwX10_commit_53 rfl rfl)
theorem dX10_commit_59 : decode cX10_commit 59 = .ok (.bipush (-5), 2) := dko_16 (dk_t 6 59 [16, 251, 172] dwX10_commit_53 rfl rfl)
theorem dX10_commit_61 : decode cX10_commit 61 = .ok (.ireturn, 1) := dko_172 (dk_t 8 61 [172] dwX10_commit_53 rfl rfl)
theorem dwX10_abort_0 : dkW cX10_abort 0 [42, 180, 0, 123, 154, 0, 6, 16, 253, 172, 42, 180, 0, 57] = true := by decide +kernel
theorem dX10_abort_0 : decode cX10_abort 0 = .ok (.aload_n 0, 1) := dko_42 dwX10_abort_0
theorem dX10_abort_1 : decode cX10_abort 1 = .ok (.getfield 123, 3) := dko_180 (dk_t 1 1 [180, 0, 123, 154, 0, 6, 16, 253, 172, 42, 180, 0, 57] dwX10_abort_0 rfl rfl)
theorem dX10_abort_4 : decode cX10_abort 4 = .ok (.ifCond .ne 6, 3) := dko_154 (dk_t 4 4 [154, 0, 6, 16, 253, 172, 42, 180, 0, 57] dwX10_abort_0 rfl rfl)
theorem dX10_abort_7 : decode cX10_abort 7 = .ok (.bipush (-3), 2) := dko_16 (dk_t 7 7 [16, 253, 172, 42, 180, 0, 57] dwX10_abort_0 rfl rfl)
theorem dX10_abort_9 : decode cX10_abort 9 = .ok (.ireturn, 1) := dko_172 (dk_t 9 9 [172, 42, 180, 0, 57] dwX10_abort_0 rfl rfl)
theorem dX10_abort_10 : decode cX10_abort 10 = .ok (.aload_n 0, 1) := dko_42 (dk_t 10 10 [42, 180, 0, 57] dwX10_abort_0 rfl rfl)
theorem dX10_abort_11 : decode cX10_abort 11 = .ok (.getfield 57, 3) := dko_180 (dk_t 11 11 [180, 0, 57] dwX10_abort_0 rfl rfl)
theorem dwX10_abort_14 : dkW cX10_abort 14 [182, 0, 232, 60, 42, 180, 0, 37, 42, 180, 0, 41] = true := by decide +kernel
theorem dX10_abort_14 : decode cX10_abort 14 = .ok (.invokevirtual 232, 3) := dko_182 dwX10_abort_14
theorem dX10_abort_17 : decode cX10_abort 17 = .ok (.istore_n 1, 1) := dko_60 (dk_t 3 17 [60, 42, 180, 0, 37, 42, 180, 0, 41] dwX10_abort_14 rfl rfl)
theorem dX10_abort_18 : decode cX10_abort 18 = .ok (.aload_n 0, 1) := dko_42 (dk_t 4 18 [42, 180, 0, 37, 42, 180, 0, 41] dwX10_abort_14 rfl rfl)
theorem dX10_abort_19 : decode cX10_abort 19 = .ok (.getfield 37, 3) := dko_180 (dk_t 5 19 [180, 0, 37, 42, 180, 0, 41] dwX10_abort_14 rfl rfl)
theorem dX10_abort_22 : decode cX10_abort 22 = .ok (.aload_n 0, 1) := dko_42 (dk_t 8 22 [42, 180, 0, 41] dwX10_abort_14 rfl rfl)
theorem dX10_abort_23 : decode cX10_abort 23 = .ok (.getfield 41, 3) := dko_180 (dk_t 9 23 [180, 0, 41] dwX10_abort_14 rfl rfl)
theorem dwX10_abort_26 : dkW cX10_abort 26 [182, 0, 195, 42, 182, 0, 229, 42, 180, 0, 99, 6, 92, 46] = true := by decide +kernel
theorem dX10_abort_26 : decode cX10_abort 26 = .ok (.invokevirtual 195, 3) := dko_182 dwX10_abort_26
theorem dX10_abort_29 : decode cX10_abort 29 = .ok (.aload_n 0, 1) := dko_42 (dk_t 3 29 [42, 182, 0, 229, 42, 180, 0, 99, 6, 92, 46] dwX10_abort_26 rfl rfl)
theorem dX10_abort_30 : decode cX10_abort 30 = .ok (.invokevirtual 229, 3) := dko_182 (dk_t 4 30 [182, 0, 229, 42, 180, 0, 99, 6, 92, 46] dwX10_abort_26 rfl rfl)
theorem dX10_abort_33 : decode cX10_abort 33 = .ok (.aload_n 0, 1) := dko_42 (dk_t 7 33 [42, 180, 0, 99, 6, 92, 46] dwX10_abort_26 rfl rfl)
theorem dX10_abort_34 : decode cX10_abort 34 = .ok (.getfield 99, 3) := dko_180 (dk_t 8 34 [180, 0, 99, 6, 92, 46] dwX10_abort_26 rfl rfl)
theorem dX10_abort_37 : decode cX10_abort 37 = .ok (.iconst 3, 1) := dko_6 (dk_t 11 37 [6, 92, 46] dwX10_abort_26 rfl rfl)
theorem dX10_abort_38 : decode cX10_abort 38 = .ok (.dup2, 1) := dko_92 (dk_t 12 38 [92, 46] dwX10_abort_26 rfl rfl)
theorem dX10_abort_39 : decode cX10_abort 39 = .ok (.iaload, 1) := dko_46 (dk_t 13 39 [46] dwX10_abort_26 rfl rfl)
theorem dwX10_abort_40 : dkW cX10_abort 40 [4, 96, 79, 27, 172] = true := by decide +kernel
theorem dX10_abort_40 : decode cX10_abort 40 = .ok (.iconst 1, 1) := dko_4 dwX10_abort_40
theorem dX10_abort_41 : decode cX10_abort 41 = .ok (.iadd, 1) := dko_96 (dk_t 1 41 [96, 79, 27, 172] dwX10_abort_40 rfl rfl)
theorem dX10_abort_42 : decode cX10_abort 42 = .ok (.iastore, 1) := dko_79 (dk_t 2 42 [79, 27, 172] dwX10_abort_40 rfl rfl)
theorem dX10_abort_43 : decode cX10_abort 43 = .ok (.iload_n 1, 1) := dko_27 (dk_t 3 43 [27, 172] dwX10_abort_40 rfl rfl)
theorem dX10_abort_44 : decode cX10_abort 44 = .ok (.ireturn, 1) := dko_172 (dk_t 4 44 [172] dwX10_abort_40 rfl rfl)
theorem dwX10_mark_0 : dkW cX10_mark 0 [42, 180, 0, 123, 154, 0, 6, 16, 253, 172, 42, 180, 0, 233] = true := by decide +kernel
theorem dX10_mark_0 : decode cX10_mark 0 = .ok (.aload_n 0, 1) := dko_42 dwX10_mark_0
theorem dX10_mark_1 : decode cX10_mark 1 = .ok (.getfield 123, 3) := dko_180 (dk_t 1 1 [180, 0, 123, 154, 0, 6, 16, 253, 172, 42, 180, 0, 233] dwX10_mark_0 rfl rfl)
theorem dX10_mark_4 : decode cX10_mark 4 = .ok (.ifCond .ne 6, 3) := dko_154 (dk_t 4 4 [154, 0, 6, 16, 253, 172, 42, 180, 0, 233] dwX10_mark_0 rfl rfl)
theorem dX10_mark_7 : decode cX10_mark 7 = .ok (.bipush (-3), 2) := dko_16 (dk_t 7 7 [16, 253, 172, 42, 180, 0, 233] dwX10_mark_0 rfl rfl)
theorem dX10_mark_9 : decode cX10_mark 9 = .ok (.ireturn, 1) := dko_172 (dk_t 9 9 [172, 42, 180, 0, 233] dwX10_mark_0 rfl rfl)
theorem dX10_mark_10 : decode cX10_mark 10 = .ok (.aload_n 0, 1) := dko_42 (dk_t 10 10 [42, 180, 0, 233] dwX10_mark_0 rfl rfl)
theorem dX10_mark_11 : decode cX10_mark 11 = .ok (.getfield 233, 3) := dko_180 (dk_t 11 11 [180, 0, 233] dwX10_mark_0 rfl rfl)
theorem dwX10_mark_14 : dkW cX10_mark 14 [16, 8, 161, 0, 6, 16, 252, 172, 42, 180, 0, 233, 60, 42] = true := by decide +kernel
theorem dX10_mark_14 : decode cX10_mark 14 = .ok (.bipush 8, 2) := dko_16 dwX10_mark_14
theorem dX10_mark_16 : decode cX10_mark 16 = .ok (.if_icmp .lt 6, 3) := dko_161 (dk_t 2 16 [161, 0, 6, 16, 252, 172, 42, 180, 0, 233, 60, 42] dwX10_mark_14 rfl rfl)
theorem dX10_mark_19 : decode cX10_mark 19 = .ok (.bipush (-4), 2) := dko_16 (dk_t 5 19 [16, 252, 172, 42, 180, 0, 233, 60, 42] dwX10_mark_14 rfl rfl)
theorem dX10_mark_21 : decode cX10_mark 21 = .ok (.ireturn, 1) := dko_172 (dk_t 7 21 [172, 42, 180, 0, 233, 60, 42] dwX10_mark_14 rfl rfl)
theorem dX10_mark_22 : decode cX10_mark 22 = .ok (.aload_n 0, 1) := dko_42 (dk_t 8 22 [42, 180, 0, 233, 60, 42] dwX10_mark_14 rfl rfl)
theorem dX10_mark_23 : decode cX10_mark 23 = .ok (.getfield 233, 3) := dko_180 (dk_t 9 23 [180, 0, 233, 60, 42] dwX10_mark_14 rfl rfl)
theorem dX10_mark_26 : decode cX10_mark 26 = .ok (.istore_n 1, 1) := dko_60 (dk_t 12 26 [60, 42] dwX10_mark_14 rfl rfl)
theorem dX10_mark_27 : decode cX10_mark 27 = .ok (.aload_n 0, 1) := dko_42 (dk_t 13 27 [42] dwX10_mark_14 rfl rfl)
theorem dwX10_mark_28 : dkW cX10_mark 28 [89, 180, 0, 233, 4, 96, 181, 0, 233, 42, 27, 182, 0, 236] = true := by decide +kernel
theorem dX10_mark_28 : decode cX10_mark 28 = .ok (.dup, 1) := dko_89 dwX10_mark_28
theorem dX10_mark_29 : decode cX10_mark 29 = .ok (.getfield 233, 3) := dko_180 (dk_t 1 29 [180, 0, 233, 4, 96, 181, 0, 233, 42, 27, 182, 0, 236] dwX10_mark_28 rfl rfl)
theorem dX10_mark_32 : decode cX10_mark 32 = .ok (.iconst 1, 1) := dko_4 (dk_t 4 32 [4, 96, 181, 0, 233, 42, 27, 182, 0, 236] dwX10_mark_28 rfl rfl)
theorem dX10_mark_33 : decode cX10_mark 33 = .ok (.iadd, 1) := dko_96 (dk_t 5 33 [96, 181, 0, 233, 42, 27, 182, 0, 236] dwX10_mark_28 rfl rfl)
theorem dX10_mark_34 : decode cX10_mark 34 = .ok (.putfield 233, 3) := dko_181 (dk_t 6 34 [181, 0, 233, 42, 27, 182, 0, 236] dwX10_mark_28 rfl rfl)
theorem dX10_mark_37 : decode cX10_mark 37 = .ok (.aload_n 0, 1) := dko_42 (dk_t 9 37 [42, 27, 182, 0, 236] dwX10_mark_28 rfl rfl)
theorem dX10_mark_38 : decode cX10_mark 38 = .ok (.iload_n 1, 1) := dko_27 (dk_t 10 38 [27, 182, 0, 236] dwX10_mark_28 rfl rfl)
theorem dX10_mark_39 : decode cX10_mark 39 = .ok (.invokevirtual 236, 3) := dko_182 (dk_t 11 39 [182, 0, 236] dwX10_mark_28 rfl rfl)
theorem dwX10_mark_42 : dkW cX10_mark 42 [77, 44, 198, 0, 11, 44, 42, 180, 0, 37, 182, 0, 195, 27] = true := by decide +kernel
theorem dX10_mark_42 : decode cX10_mark 42 = .ok (.astore_n 2, 1) := dko_77 dwX10_mark_42
theorem dX10_mark_43 : decode cX10_mark 43 = .ok (.aload_n 2, 1) := dko_44 (dk_t 1 43 [44, 198, 0, 11, 44, 42, 180, 0, 37, 182, 0, 195, 27] dwX10_mark_42 rfl rfl)
theorem dX10_mark_44 : decode cX10_mark 44 = .ok (.ifnull 11, 3) := dko_198 (dk_t 2 44 [198, 0, 11, 44, 42, 180, 0, 37, 182, 0, 195, 27] dwX10_mark_42 rfl rfl)
theorem dX10_mark_47 : decode cX10_mark 47 = .ok (.aload_n 2, 1) := dko_44 (dk_t 5 47 [44, 42, 180, 0, 37, 182, 0, 195, 27] dwX10_mark_42 rfl rfl)
theorem dX10_mark_48 : decode cX10_mark 48 = .ok (.aload_n 0, 1) := dko_42 (dk_t 6 48 [42, 180, 0, 37, 182, 0, 195, 27] dwX10_mark_42 rfl rfl)
theorem dX10_mark_49 : decode cX10_mark 49 = .ok (.getfield 37, 3) := dko_180 (dk_t 7 49 [180, 0, 37, 182, 0, 195, 27] dwX10_mark_42 rfl rfl)
theorem dX10_mark_52 : decode cX10_mark 52 = .ok (.invokevirtual 195, 3) := dko_182 (dk_t 10 52 [182, 0, 195, 27] dwX10_mark_42 rfl rfl)
theorem dX10_mark_55 : decode cX10_mark 55 = .ok (.iload_n 1, 1) := dko_27 (dk_t 13 55 [27] dwX10_mark_42 rfl rfl)
theorem dwX10_mark_56 : dkW cX10_mark 56 [172] = true := by decide +kernel
theorem dX10_mark_56 : decode cX10_mark 56 = .ok (.ireturn, 1) := dko_172 dwX10_mark_56
theorem dwX10_back_0 : dkW cX10_back 0 [42, 180, 0, 91, 182, 0, 113, 42, 180, 0, 123, 154, 0, 6] = true := by decide +kernel
theorem dX10_back_0 : decode cX10_back 0 = .ok (.aload_n 0, 1) := dko_42 dwX10_back_0
theorem dX10_back_1 : decode cX10_back 1 = .ok (.getfield 91, 3) := dko_180 (dk_t 1 1 [180, 0, 91, 182, 0, 113, 42, 180, 0, 123, 154, 0, 6] dwX10_back_0 rfl rfl)
theorem dX10_back_4 : decode cX10_back 4 = .ok (.invokevirtual 113, 3) := dko_182 (dk_t 4 4 [182, 0, 113, 42, 180, 0, 123, 154, 0, 6] dwX10_back_0 rfl rfl)
theorem dX10_back_7 : decode cX10_back 7 = .ok (.aload_n 0, 1) := dko_42 (dk_t 7 7 [42, 180, 0, 123, 154, 0, 6] dwX10_back_0 rfl rfl)
theorem dX10_back_8 : decode cX10_back 8 = .ok (.getfield 123, 3) := dko_180 (dk_t 8 8 [180, 0, 123, 154, 0, 6] dwX10_back_0 rfl rfl)
theorem dX10_back_11 : decode cX10_back 11 = .ok (.ifCond .ne 6, 3) := dko_154 (dk_t 11 11 [154, 0, 6] dwX10_back_0 rfl rfl)
theorem dwX10_back_14 : dkW cX10_back 14 [16, 253, 172, 42, 27, 182, 0, 236, 77, 44, 199, 0, 6] = true := by decide +kernel
theorem dX10_back_14 : decode cX10_back 14 = .ok (.bipush (-3), 2) := dko_16 dwX10_back_14
theorem dX10_back_16 : decode cX10_back 16 = .ok (.ireturn, 1) := dko_172 (dk_t 2 16 [172, 42, 27, 182, 0, 236, 77, 44, 199, 0, 6] dwX10_back_14 rfl rfl)
theorem dX10_back_17 : decode cX10_back 17 = .ok (.aload_n 0, 1) := dko_42 (dk_t 3 17 [42, 27, 182, 0, 236, 77, 44, 199, 0, 6] dwX10_back_14 rfl rfl)
theorem dX10_back_18 : decode cX10_back 18 = .ok (.iload_n 1, 1) := dko_27 (dk_t 4 18 [27, 182, 0, 236, 77, 44, 199, 0, 6] dwX10_back_14 rfl rfl)
theorem dX10_back_19 : decode cX10_back 19 = .ok (.invokevirtual 236, 3) := dko_182 (dk_t 5 19 [182, 0, 236, 77, 44, 199, 0, 6] dwX10_back_14 rfl rfl)
theorem dX10_back_22 : decode cX10_back 22 = .ok (.astore_n 2, 1) := dko_77 (dk_t 8 22 [77, 44, 199, 0, 6] dwX10_back_14 rfl rfl)
theorem dX10_back_23 : decode cX10_back 23 = .ok (.aload_n 2, 1) := dko_44 (dk_t 9 23 [44, 199, 0, 6] dwX10_back_14 rfl rfl)
theorem dX10_back_24 : decode cX10_back 24 = .ok (.ifnonnull 6, 3) := dko_199 (dk_t 10 24 [199, 0, 6] dwX10_back_14 rfl rfl)
theorem dwX10_back_27 : dkW cX10_back 27 [16, 254, 172, 42, 42, 180, 0, 61, 42, 180, 0, 47, 44, 5] = true := by decide +kernel
theorem dX10_back_27 : decode cX10_back 27 = .ok (.bipush (-2), 2) := dko_16 dwX10_back_27
theorem dX10_back_29 : decode cX10_back 29 = .ok (.ireturn, 1) := dko_172 (dk_t 2 29 [172, 42, 42, 180, 0, 61, 42, 180, 0, 47, 44, 5] dwX10_back_27 rfl rfl)
theorem dX10_back_30 : decode cX10_back 30 = .ok (.aload_n 0, 1) := dko_42 (dk_t 3 30 [42, 42, 180, 0, 61, 42, 180, 0, 47, 44, 5] dwX10_back_27 rfl rfl)
theorem dX10_back_31 : decode cX10_back 31 = .ok (.aload_n 0, 1) := dko_42 (dk_t 4 31 [42, 180, 0, 61, 42, 180, 0, 47, 44, 5] dwX10_back_27 rfl rfl)
theorem dX10_back_32 : decode cX10_back 32 = .ok (.getfield 61, 3) := dko_180 (dk_t 5 32 [180, 0, 61, 42, 180, 0, 47, 44, 5] dwX10_back_27 rfl rfl)
theorem dX10_back_35 : decode cX10_back 35 = .ok (.aload_n 0, 1) := dko_42 (dk_t 8 35 [42, 180, 0, 47, 44, 5] dwX10_back_27 rfl rfl)
theorem dX10_back_36 : decode cX10_back 36 = .ok (.getfield 47, 3) := dko_180 (dk_t 9 36 [180, 0, 47, 44, 5] dwX10_back_27 rfl rfl)
theorem dX10_back_39 : decode cX10_back 39 = .ok (.aload_n 2, 1) := dko_44 (dk_t 12 39 [44, 5] dwX10_back_27 rfl rfl)
theorem dX10_back_40 : decode cX10_back 40 = .ok (.iconst 2, 1) := dko_5 (dk_t 13 40 [5] dwX10_back_27 rfl rfl)
theorem dwX10_back_41 : dkW cX10_back 41 [182, 0, 240, 42, 180, 0, 61, 182, 0, 244, 62, 29, 2] = true := by decide +kernel
theorem dX10_back_41 : decode cX10_back 41 = .ok (.invokevirtual 240, 3) := dko_182 dwX10_back_41
theorem dX10_back_44 : decode cX10_back 44 = .ok (.aload_n 0, 1) := dko_42 (dk_t 3 44 [42, 180, 0, 61, 182, 0, 244, 62, 29, 2] dwX10_back_41 rfl rfl)
theorem dX10_back_45 : decode cX10_back 45 = .ok (.getfield 61, 3) := dko_180 (dk_t 4 45 [180, 0, 61, 182, 0, 244, 62, 29, 2] dwX10_back_41 rfl rfl)
theorem dX10_back_48 : decode cX10_back 48 = .ok (.invokevirtual 244, 3) := dko_182 (dk_t 7 48 [182, 0, 244, 62, 29, 2] dwX10_back_41 rfl rfl)
theorem dX10_back_51 : decode cX10_back 51 = .ok (.istore_n 3, 1) := dko_62 (dk_t 10 51 [62, 29, 2] dwX10_back_41 rfl rfl)
theorem dX10_back_52 : decode cX10_back 52 = .ok (.iload_n 3, 1) := dko_29 (dk_t 11 52 [29, 2] dwX10_back_41 rfl rfl)
theorem dX10_back_53 : decode cX10_back 53 = .ok (.iconst (-1), 1) := dko_2 (dk_t 12 53 [2] dwX10_back_41 rfl rfl)
theorem dwX10_back_54 : dkW cX10_back 54 [159, 0, 15, 42, 42, 180, 0, 61, 29, 182, 0, 247, 16, 251] = true := by decide +kernel
theorem dX10_back_54 : decode cX10_back 54 = .ok (.if_icmp .eq 15, 3) := dko_159 dwX10_back_54
theorem dX10_back_57 : decode cX10_back 57 = .ok (.aload_n 0, 1) := dko_42 (dk_t 3 57 [42, 42, 180, 0, 61, 29, 182, 0, 247, 16, 251] dwX10_back_54 rfl rfl)
theorem dX10_back_58 : decode cX10_back 58 = .ok (.aload_n 0, 1) := dko_42 (dk_t 4 58 [42, 180, 0, 61, 29, 182, 0, 247, 16, 251] dwX10_back_54 rfl rfl)
theorem dX10_back_59 : decode cX10_back 59 = .ok (.getfield 61, 3) := dko_180 (dk_t 5 59 [180, 0, 61, 29, 182, 0, 247, 16, 251] dwX10_back_54 rfl rfl)
theorem dX10_back_62 : decode cX10_back 62 = .ok (.iload_n 3, 1) := dko_29 (dk_t 8 62 [29, 182, 0, 247, 16, 251] dwX10_back_54 rfl rfl)
theorem dX10_back_63 : decode cX10_back 63 = .ok (.invokevirtual 247, 3) := dko_182 (dk_t 9 63 [182, 0, 247, 16, 251] dwX10_back_54 rfl rfl)
theorem dX10_back_66 : decode cX10_back 66 = .ok (.bipush (-5), 2) := dko_16 (dk_t 12 66 [16, 251] dwX10_back_54 rfl rfl)
theorem dwX10_back_68 : dkW cX10_back 68 [172, 42, 42, 180, 0, 61, 42, 180, 0, 37, 44, 4] = true := by decide +kernel
theorem dX10_back_68 : decode cX10_back 68 = .ok (.ireturn, 1) := dko_172 dwX10_back_68
theorem dX10_back_69 : decode cX10_back 69 = .ok (.aload_n 0, 1) := dko_42 (dk_t 1 69 [42, 42, 180, 0, 61, 42, 180, 0, 37, 44, 4] dwX10_back_68 rfl rfl)
theorem dX10_back_70 : decode cX10_back 70 = .ok (.aload_n 0, 1) := dko_42 (dk_t 2 70 [42, 180, 0, 61, 42, 180, 0, 37, 44, 4] dwX10_back_68 rfl rfl)
theorem dX10_back_71 : decode cX10_back 71 = .ok (.getfield 61, 3) := dko_180 (dk_t 3 71 [180, 0, 61, 42, 180, 0, 37, 44, 4] dwX10_back_68 rfl rfl)
theorem dX10_back_74 : decode cX10_back 74 = .ok (.aload_n 0, 1) := dko_42 (dk_t 6 74 [42, 180, 0, 37, 44, 4] dwX10_back_68 rfl rfl)
theorem dX10_back_75 : decode cX10_back 75 = .ok (.getfield 37, 3) := dko_180 (dk_t 7 75 [180, 0, 37, 44, 4] dwX10_back_68 rfl rfl)
theorem dX10_back_78 : decode cX10_back 78 = .ok (.aload_n 2, 1) := dko_44 (dk_t 10 78 [44, 4] dwX10_back_68 rfl rfl)
theorem dX10_back_79 : decode cX10_back 79 = .ok (.iconst 1, 1) := dko_4 (dk_t 11 79 [4] dwX10_back_68 rfl rfl)
theorem dwX10_back_80 : dkW cX10_back 80 [182, 0, 240, 42, 4, 182, 0, 251, 42, 180, 0, 37, 44] = true := by decide +kernel
theorem dX10_back_80 : decode cX10_back 80 = .ok (.invokevirtual 240, 3) := dko_182 dwX10_back_80
theorem dX10_back_83 : decode cX10_back 83 = .ok (.aload_n 0, 1) := dko_42 (dk_t 3 83 [42, 4, 182, 0, 251, 42, 180, 0, 37, 44] dwX10_back_80 rfl rfl)
theorem dX10_back_84 : decode cX10_back 84 = .ok (.iconst 1, 1) := dko_4 (dk_t 4 84 [4, 182, 0, 251, 42, 180, 0, 37, 44] dwX10_back_80 rfl rfl)
theorem dX10_back_85 : decode cX10_back 85 = .ok (.invokevirtual 251, 3) := dko_182 (dk_t 5 85 [182, 0, 251, 42, 180, 0, 37, 44] dwX10_back_80 rfl rfl)
theorem dX10_back_88 : decode cX10_back 88 = .ok (.aload_n 0, 1) := dko_42 (dk_t 8 88 [42, 180, 0, 37, 44] dwX10_back_80 rfl rfl)
theorem dX10_back_89 : decode cX10_back 89 = .ok (.getfield 37, 3) := dko_180 (dk_t 9 89 [180, 0, 37, 44] dwX10_back_80 rfl rfl)
theorem dX10_back_92 : decode cX10_back 92 = .ok (.aload_n 2, 1) := dko_44 (dk_t 12 92 [44] dwX10_back_80 rfl rfl)
theorem dwX10_back_93 : dkW cX10_back 93 [182, 0, 195, 42, 27, 4, 96, 181, 0, 233, 42, 42] = true := by decide +kernel
theorem dX10_back_93 : decode cX10_back 93 = .ok (.invokevirtual 195, 3) := dko_182 dwX10_back_93
theorem dX10_back_96 : decode cX10_back 96 = .ok (.aload_n 0, 1) := dko_42 (dk_t 3 96 [42, 27, 4, 96, 181, 0, 233, 42, 42] dwX10_back_93 rfl rfl)
theorem dX10_back_97 : decode cX10_back 97 = .ok (.iload_n 1, 1) := dko_27 (dk_t 4 97 [27, 4, 96, 181, 0, 233, 42, 42] dwX10_back_93 rfl rfl)
theorem dX10_back_98 : decode cX10_back 98 = .ok (.iconst 1, 1) := dko_4 (dk_t 5 98 [4, 96, 181, 0, 233, 42, 42] dwX10_back_93 rfl rfl)
theorem dX10_back_99 : decode cX10_back 99 = .ok (.iadd, 1) := dko_96 (dk_t 6 99 [96, 181, 0, 233, 42, 42] dwX10_back_93 rfl rfl)
theorem dX10_back_100 : decode cX10_back 100 = .ok (.putfield 233, 3) := dko_181 (dk_t 7 100 [181, 0, 233, 42, 42] dwX10_back_93 rfl rfl)
theorem dX10_back_103 : decode cX10_back 103 = .ok (.aload_n 0, 1) := dko_42 (dk_t 10 103 [42, 42] dwX10_back_93 rfl rfl)
theorem dX10_back_104 : decode cX10_back 104 = .ok (.aload_n 0, 1) := dko_42 (dk_t 11 104 [42] dwX10_back_93 rfl rfl)
theorem dwX10_back_105 : dkW cX10_back 105 [180, 0, 57, 42, 180, 0, 41, 42, 180, 0, 37, 4] = true := by decide +kernel
theorem dX10_back_105 : decode cX10_back 105 = .ok (.getfield 57, 3) := dko_180 dwX10_back_105
theorem dX10_back_108 : decode cX10_back 108 = .ok (.aload_n 0, 1) := dko_42 (dk_t 3 108 [42, 180, 0, 41, 42, 180, 0, 37, 4] dwX10_back_105 rfl rfl)
theorem dX10_back_109 : decode cX10_back 109 = .ok (.getfield 41, 3) := dko_180 (dk_t 4 109 [180, 0, 41, 42, 180, 0, 37, 4] dwX10_back_105 rfl rfl)
theorem dX10_back_112 : decode cX10_back 112 = .ok (.aload_n 0, 1) := dko_42 (dk_t 7 112 [42, 180, 0, 37, 4] dwX10_back_105 rfl rfl)
theorem dX10_back_113 : decode cX10_back 113 = .ok (.getfield 37, 3) := dko_180 (dk_t 8 113 [180, 0, 37, 4] dwX10_back_105 rfl rfl)
theorem dX10_back_116 : decode cX10_back 116 = .ok (.iconst 1, 1) := dko_4 (dk_t 11 116 [4] dwX10_back_105 rfl rfl)
theorem dwX10_back_117 : dkW cX10_back 117 [182, 0, 240, 42, 180, 0, 57, 182, 0, 232, 172] = true := by decide +kernel
theorem dX10_back_117 : decode cX10_back 117 = .ok (.invokevirtual 240, 3) := dko_182 dwX10_back_117
theorem dX10_back_120 : decode cX10_back 120 = .ok (.aload_n 0, 1) := dko_42 (dk_t 3 120 [42, 180, 0, 57, 182, 0, 232, 172] dwX10_back_117 rfl rfl)
theorem dX10_back_121 : decode cX10_back 121 = .ok (.getfield 57, 3) := dko_180 (dk_t 4 121 [180, 0, 57, 182, 0, 232, 172] dwX10_back_117 rfl rfl)
theorem dX10_back_124 : decode cX10_back 124 = .ok (.invokevirtual 232, 3) := dko_182 (dk_t 7 124 [182, 0, 232, 172] dwX10_back_117 rfl rfl)
theorem dX10_back_127 : decode cX10_back 127 = .ok (.ireturn, 1) := dko_172 (dk_t 10 127 [172] dwX10_back_117 rfl rfl)
theorem dwX10_value_0 : dkW cX10_value 0 [42, 180, 0, 37, 27, 28, 182, 0, 191, 153, 0, 10, 29] = true := by decide +kernel
theorem dX10_value_0 : decode cX10_value 0 = .ok (.aload_n 0, 1) := dko_42 dwX10_value_0
theorem dX10_value_1 : decode cX10_value 1 = .ok (.getfield 37, 3) := dko_180 (dk_t 1 1 [180, 0, 37, 27, 28, 182, 0, 191, 153, 0, 10, 29] dwX10_value_0 rfl rfl)
theorem dX10_value_4 : decode cX10_value 4 = .ok (.iload_n 1, 1) := dko_27 (dk_t 4 4 [27, 28, 182, 0, 191, 153, 0, 10, 29] dwX10_value_0 rfl rfl)
theorem dX10_value_5 : decode cX10_value 5 = .ok (.iload_n 2, 1) := dko_28 (dk_t 5 5 [28, 182, 0, 191, 153, 0, 10, 29] dwX10_value_0 rfl rfl)
theorem dX10_value_6 : decode cX10_value 6 = .ok (.invokevirtual 191, 3) := dko_182 (dk_t 6 6 [182, 0, 191, 153, 0, 10, 29] dwX10_value_0 rfl rfl)
theorem dX10_value_9 : decode cX10_value 9 = .ok (.ifCond .eq 10, 3) := dko_153 (dk_t 9 9 [153, 0, 10, 29] dwX10_value_0 rfl rfl)
theorem dX10_value_12 : decode cX10_value 12 = .ok (.iload_n 3, 1) := dko_29 (dk_t 12 12 [29] dwX10_value_0 rfl rfl)
theorem dwX10_value_13 : dkW cX10_value 13 [184, 0, 255, 154, 0, 14, 187, 1, 2, 89, 19, 1, 4] = true := by decide +kernel
theorem dX10_value_13 : decode cX10_value 13 = .ok (.invokestatic 255, 3) := dko_184 dwX10_value_13
theorem dX10_value_16 : decode cX10_value 16 = .ok (.ifCond .ne 14, 3) := dko_154 (dk_t 3 16 [154, 0, 14, 187, 1, 2, 89, 19, 1, 4] dwX10_value_13 rfl rfl)
theorem dX10_value_19 : decode cX10_value 19 = .ok (.new 258, 3) := dko_187 (dk_t 6 19 [187, 1, 2, 89, 19, 1, 4] dwX10_value_13 rfl rfl)
theorem dX10_value_22 : decode cX10_value 22 = .ok (.dup, 1) := dko_89 (dk_t 9 22 [89, 19, 1, 4] dwX10_value_13 rfl rfl)
theorem dX10_value_23 : decode cX10_value 23 = .ok (.ldc_w 260, 3) := dko_19 (dk_t 10 23 [19, 1, 4] dwX10_value_13 rfl rfl)
theorem dwX10_value_26 : dkW cX10_value 26 [183, 1, 6, 191, 42, 180, 0, 37, 27, 28, 29, 182, 1, 9] = true := by decide +kernel
theorem dX10_value_26 : decode cX10_value 26 = .ok (.invokespecial 262, 3) := dko_183 dwX10_value_26
theorem dX10_value_29 : decode cX10_value 29 = .ok (.athrow, 1) := dko_191 (dk_t 3 29 [191, 42, 180, 0, 37, 27, 28, 29, 182, 1, 9] dwX10_value_26 rfl rfl)
theorem dX10_value_30 : decode cX10_value 30 = .ok (.aload_n 0, 1) := dko_42 (dk_t 4 30 [42, 180, 0, 37, 27, 28, 29, 182, 1, 9] dwX10_value_26 rfl rfl)
theorem dX10_value_31 : decode cX10_value 31 = .ok (.getfield 37, 3) := dko_180 (dk_t 5 31 [180, 0, 37, 27, 28, 29, 182, 1, 9] dwX10_value_26 rfl rfl)
theorem dX10_value_34 : decode cX10_value 34 = .ok (.iload_n 1, 1) := dko_27 (dk_t 8 34 [27, 28, 29, 182, 1, 9] dwX10_value_26 rfl rfl)
theorem dX10_value_35 : decode cX10_value 35 = .ok (.iload_n 2, 1) := dko_28 (dk_t 9 35 [28, 29, 182, 1, 9] dwX10_value_26 rfl rfl)
theorem dX10_value_36 : decode cX10_value 36 = .ok (.iload_n 3, 1) := dko_29 (dk_t 10 36 [29, 182, 1, 9] dwX10_value_26 rfl rfl)
theorem dX10_value_37 : decode cX10_value 37 = .ok (.invokevirtual 265, 3) := dko_182 (dk_t 11 37 [182, 1, 9] dwX10_value_26 rfl rfl)
theorem dwX10_value_40 : dkW cX10_value 40 [172] = true := by decide +kernel
theorem dX10_value_40 : decode cX10_value 40 = .ok (.ireturn, 1) := dko_172 dwX10_value_40
theorem dwX10_rows_0 : dkW cX10_rows 0 [27, 184, 0, 179, 154, 0, 5, 2, 172, 28] = true := by decide +kernel
theorem dX10_rows_0 : decode cX10_rows 0 = .ok (.iload_n 1, 1) := dko_27 dwX10_rows_0
theorem dX10_rows_1 : decode cX10_rows 1 = .ok (.invokestatic 179, 3) := dko_184 (dk_t 1 1 [184, 0, 179, 154, 0, 5, 2, 172, 28] dwX10_rows_0 rfl rfl)
theorem dX10_rows_4 : decode cX10_rows 4 = .ok (.ifCond .ne 5, 3) := dko_154 (dk_t 4 4 [154, 0, 5, 2, 172, 28] dwX10_rows_0 rfl rfl)
theorem dX10_rows_7 : decode cX10_rows 7 = .ok (.iconst (-1), 1) := dko_2 (dk_t 7 7 [2, 172, 28] dwX10_rows_0 rfl rfl)
theorem dX10_rows_8 : decode cX10_rows 8 = .ok (.ireturn, 1) := dko_172 (dk_t 8 8 [172, 28] dwX10_rows_0 rfl rfl)
theorem dX10_rows_9 : decode cX10_rows 9 = .ok (.iload_n 2, 1) := dko_28 (dk_t 9 9 [28] dwX10_rows_0 rfl rfl)
theorem dX10_rows_10 : decode cX10_rows 10 = .ok (.lookupswitch 44 #[(0, 26), (1, 35)], 26) := by decide +kernel
theorem dwX10_rows_36 : dkW cX10_rows 36 [42, 180, 0, 37, 27, 182, 1, 13, 172, 42, 180, 0, 37, 27] = true := by decide +kernel
theorem dX10_rows_36 : decode cX10_rows 36 = .ok (.aload_n 0, 1) := dko_42 dwX10_rows_36
theorem dX10_rows_37 : decode cX10_rows 37 = .ok (.getfield 37, 3) := dko_180 (dk_t 1 37 [180, 0, 37, 27, 182, 1, 13, 172, 42, 180, 0, 37, 27] dwX10_rows_36 rfl rfl)
theorem dX10_rows_40 : decode cX10_rows 40 = .ok (.iload_n 1, 1) := dko_27 (dk_t 4 40 [27, 182, 1, 13, 172, 42, 180, 0, 37, 27] dwX10_rows_36 rfl rfl)
theorem dX10_rows_41 : decode cX10_rows 41 = .ok (.invokevirtual 269, 3) := dko_182 (dk_t 5 41 [182, 1, 13, 172, 42, 180, 0, 37, 27] dwX10_rows_36 rfl rfl)
theorem dX10_rows_44 : decode cX10_rows 44 = .ok (.ireturn, 1) := dko_172 (dk_t 8 44 [172, 42, 180, 0, 37, 27] dwX10_rows_36 rfl rfl)
theorem dX10_rows_45 : decode cX10_rows 45 = .ok (.aload_n 0, 1) := dko_42 (dk_t 9 45 [42, 180, 0, 37, 27] dwX10_rows_36 rfl rfl)
theorem dX10_rows_46 : decode cX10_rows 46 = .ok (.getfield 37, 3) := dko_180 (dk_t 10 46 [180, 0, 37, 27] dwX10_rows_36 rfl rfl)
theorem dX10_rows_49 : decode cX10_rows 49 = .ok (.iload_n 1, 1) := dko_27 (dk_t 13 49 [27] dwX10_rows_36 rfl rfl)
theorem dwX10_rows_50 : dkW cX10_rows 50 [182, 1, 15, 172, 2, 172] = true := by decide +kernel
theorem dX10_rows_50 : decode cX10_rows 50 = .ok (.invokevirtual 271, 3) := dko_182 dwX10_rows_50
theorem dX10_rows_53 : decode cX10_rows 53 = .ok (.ireturn, 1) := dko_172 (dk_t 3 53 [172, 2, 172] dwX10_rows_50 rfl rfl)
theorem dX10_rows_54 : decode cX10_rows 54 = .ok (.iconst (-1), 1) := dko_2 (dk_t 4 54 [2, 172] dwX10_rows_50 rfl rfl)
theorem dX10_rows_55 : decode cX10_rows 55 = .ok (.ireturn, 1) := dko_172 (dk_t 5 55 [172] dwX10_rows_50 rfl rfl)
theorem dwX10_told_0 : dkW cX10_told 0 [42, 180, 0, 30, 27, 182, 0, 159, 78, 45, 199, 0, 7] = true := by decide +kernel
theorem dX10_told_0 : decode cX10_told 0 = .ok (.aload_n 0, 1) := dko_42 dwX10_told_0
theorem dX10_told_1 : decode cX10_told 1 = .ok (.getfield 30, 3) := dko_180 (dk_t 1 1 [180, 0, 30, 27, 182, 0, 159, 78, 45, 199, 0, 7] dwX10_told_0 rfl rfl)
theorem dX10_told_4 : decode cX10_told 4 = .ok (.iload_n 1, 1) := dko_27 (dk_t 4 4 [27, 182, 0, 159, 78, 45, 199, 0, 7] dwX10_told_0 rfl rfl)
theorem dX10_told_5 : decode cX10_told 5 = .ok (.invokevirtual 159, 3) := dko_182 (dk_t 5 5 [182, 0, 159, 78, 45, 199, 0, 7] dwX10_told_0 rfl rfl)
theorem dX10_told_8 : decode cX10_told 8 = .ok (.astore_n 3, 1) := dko_78 (dk_t 8 8 [78, 45, 199, 0, 7] dwX10_told_0 rfl rfl)
theorem dX10_told_9 : decode cX10_told 9 = .ok (.aload_n 3, 1) := dko_45 (dk_t 9 9 [45, 199, 0, 7] dwX10_told_0 rfl rfl)
theorem dX10_told_10 : decode cX10_told 10 = .ok (.ifnonnull 7, 3) := dko_199 (dk_t 10 10 [199, 0, 7] dwX10_told_0 rfl rfl)
theorem dwX10_told_13 : dkW cX10_told 13 [19, 1, 18, 172, 28] = true := by decide +kernel
theorem dX10_told_13 : decode cX10_told 13 = .ok (.ldc_w 274, 3) := dko_19 dwX10_told_13
theorem dX10_told_16 : decode cX10_told 16 = .ok (.ireturn, 1) := dko_172 (dk_t 3 16 [172, 28] dwX10_told_13 rfl rfl)
theorem dX10_told_17 : decode cX10_told 17 = .ok (.iload_n 2, 1) := dko_28 (dk_t 4 17 [28] dwX10_told_13 rfl rfl)
theorem dX10_told_18 : decode cX10_told 18 = .ok (.tableswitch 116 0 9 #[54, 59, 64, 69, 74, 79, 84, 97, 102, 107], 54) := by decide +kernel
theorem dwX10_told_72 : dkW cX10_told 72 [45, 180, 0, 140, 172, 45, 180, 1, 19, 172, 45, 180, 1, 22] = true := by decide +kernel
theorem dX10_told_72 : decode cX10_told 72 = .ok (.aload_n 3, 1) := dko_45 dwX10_told_72
theorem dX10_told_73 : decode cX10_told 73 = .ok (.getfield 140, 3) := dko_180 (dk_t 1 73 [180, 0, 140, 172, 45, 180, 1, 19, 172, 45, 180, 1, 22] dwX10_told_72 rfl rfl)
theorem dX10_told_76 : decode cX10_told 76 = .ok (.ireturn, 1) := dko_172 (dk_t 4 76 [172, 45, 180, 1, 19, 172, 45, 180, 1, 22] dwX10_told_72 rfl rfl)
theorem dX10_told_77 : decode cX10_told 77 = .ok (.aload_n 3, 1) := dko_45 (dk_t 5 77 [45, 180, 1, 19, 172, 45, 180, 1, 22] dwX10_told_72 rfl rfl)
theorem dX10_told_78 : decode cX10_told 78 = .ok (.getfield 275, 3) := dko_180 (dk_t 6 78 [180, 1, 19, 172, 45, 180, 1, 22] dwX10_told_72 rfl rfl)
theorem dX10_told_81 : decode cX10_told 81 = .ok (.ireturn, 1) := dko_172 (dk_t 9 81 [172, 45, 180, 1, 22] dwX10_told_72 rfl rfl)
theorem dX10_told_82 : decode cX10_told 82 = .ok (.aload_n 3, 1) := dko_45 (dk_t 10 82 [45, 180, 1, 22] dwX10_told_72 rfl rfl)
theorem dX10_told_83 : decode cX10_told 83 = .ok (.getfield 278, 3) := dko_180 (dk_t 11 83 [180, 1, 22] dwX10_told_72 rfl rfl)
theorem dwX10_told_86 : dkW cX10_told 86 [172, 45, 180, 1, 25, 172, 45, 180, 1, 28, 172, 45] = true := by decide +kernel
theorem dX10_told_86 : decode cX10_told 86 = .ok (.ireturn, 1) := dko_172 dwX10_told_86
theorem dX10_told_87 : decode cX10_told 87 = .ok (.aload_n 3, 1) := dko_45 (dk_t 1 87 [45, 180, 1, 25, 172, 45, 180, 1, 28, 172, 45] dwX10_told_86 rfl rfl)
theorem dX10_told_88 : decode cX10_told 88 = .ok (.getfield 281, 3) := dko_180 (dk_t 2 88 [180, 1, 25, 172, 45, 180, 1, 28, 172, 45] dwX10_told_86 rfl rfl)
theorem dX10_told_91 : decode cX10_told 91 = .ok (.ireturn, 1) := dko_172 (dk_t 5 91 [172, 45, 180, 1, 28, 172, 45] dwX10_told_86 rfl rfl)
theorem dX10_told_92 : decode cX10_told 92 = .ok (.aload_n 3, 1) := dko_45 (dk_t 6 92 [45, 180, 1, 28, 172, 45] dwX10_told_86 rfl rfl)
theorem dX10_told_93 : decode cX10_told 93 = .ok (.getfield 284, 3) := dko_180 (dk_t 7 93 [180, 1, 28, 172, 45] dwX10_told_86 rfl rfl)
theorem dX10_told_96 : decode cX10_told 96 = .ok (.ireturn, 1) := dko_172 (dk_t 10 96 [172, 45] dwX10_told_86 rfl rfl)
theorem dX10_told_97 : decode cX10_told 97 = .ok (.aload_n 3, 1) := dko_45 (dk_t 11 97 [45] dwX10_told_86 rfl rfl)
theorem dwX10_told_98 : dkW cX10_told 98 [180, 1, 31, 172, 45, 180, 0, 170, 153, 0, 7, 4] = true := by decide +kernel
theorem dX10_told_98 : decode cX10_told 98 = .ok (.getfield 287, 3) := dko_180 dwX10_told_98
theorem dX10_told_101 : decode cX10_told 101 = .ok (.ireturn, 1) := dko_172 (dk_t 3 101 [172, 45, 180, 0, 170, 153, 0, 7, 4] dwX10_told_98 rfl rfl)
theorem dX10_told_102 : decode cX10_told 102 = .ok (.aload_n 3, 1) := dko_45 (dk_t 4 102 [45, 180, 0, 170, 153, 0, 7, 4] dwX10_told_98 rfl rfl)
theorem dX10_told_103 : decode cX10_told 103 = .ok (.getfield 170, 3) := dko_180 (dk_t 5 103 [180, 0, 170, 153, 0, 7, 4] dwX10_told_98 rfl rfl)
theorem dX10_told_106 : decode cX10_told 106 = .ok (.ifCond .eq 7, 3) := dko_153 (dk_t 8 106 [153, 0, 7, 4] dwX10_told_98 rfl rfl)
theorem dX10_told_109 : decode cX10_told 109 = .ok (.iconst 1, 1) := dko_4 (dk_t 11 109 [4] dwX10_told_98 rfl rfl)
theorem dwX10_told_110 : dkW cX10_told 110 [167, 0, 4, 3, 172, 45, 180, 1, 34, 172, 45, 180, 1, 37] = true := by decide +kernel
theorem dX10_told_110 : decode cX10_told 110 = .ok (.goto 4, 3) := dko_167 dwX10_told_110
theorem dX10_told_113 : decode cX10_told 113 = .ok (.iconst 0, 1) := dko_3 (dk_t 3 113 [3, 172, 45, 180, 1, 34, 172, 45, 180, 1, 37] dwX10_told_110 rfl rfl)
theorem dX10_told_114 : decode cX10_told 114 = .ok (.ireturn, 1) := dko_172 (dk_t 4 114 [172, 45, 180, 1, 34, 172, 45, 180, 1, 37] dwX10_told_110 rfl rfl)
theorem dX10_told_115 : decode cX10_told 115 = .ok (.aload_n 3, 1) := dko_45 (dk_t 5 115 [45, 180, 1, 34, 172, 45, 180, 1, 37] dwX10_told_110 rfl rfl)
theorem dX10_told_116 : decode cX10_told 116 = .ok (.getfield 290, 3) := dko_180 (dk_t 6 116 [180, 1, 34, 172, 45, 180, 1, 37] dwX10_told_110 rfl rfl)
theorem dX10_told_119 : decode cX10_told 119 = .ok (.ireturn, 1) := dko_172 (dk_t 9 119 [172, 45, 180, 1, 37] dwX10_told_110 rfl rfl)
theorem dX10_told_120 : decode cX10_told 120 = .ok (.aload_n 3, 1) := dko_45 (dk_t 10 120 [45, 180, 1, 37] dwX10_told_110 rfl rfl)
theorem dX10_told_121 : decode cX10_told 121 = .ok (.getfield 293, 3) := dko_180 (dk_t 11 121 [180, 1, 37] dwX10_told_110 rfl rfl)
theorem dwX10_told_124 : dkW cX10_told 124 [172, 42, 180, 0, 57, 27, 182, 1, 40, 172, 19, 1, 18, 172] = true := by decide +kernel
theorem dX10_told_124 : decode cX10_told 124 = .ok (.ireturn, 1) := dko_172 dwX10_told_124
theorem dX10_told_125 : decode cX10_told 125 = .ok (.aload_n 0, 1) := dko_42 (dk_t 1 125 [42, 180, 0, 57, 27, 182, 1, 40, 172, 19, 1, 18, 172] dwX10_told_124 rfl rfl)
theorem dX10_told_126 : decode cX10_told 126 = .ok (.getfield 57, 3) := dko_180 (dk_t 2 126 [180, 0, 57, 27, 182, 1, 40, 172, 19, 1, 18, 172] dwX10_told_124 rfl rfl)
theorem dX10_told_129 : decode cX10_told 129 = .ok (.iload_n 1, 1) := dko_27 (dk_t 5 129 [27, 182, 1, 40, 172, 19, 1, 18, 172] dwX10_told_124 rfl rfl)
theorem dX10_told_130 : decode cX10_told 130 = .ok (.invokevirtual 296, 3) := dko_182 (dk_t 6 130 [182, 1, 40, 172, 19, 1, 18, 172] dwX10_told_124 rfl rfl)
theorem dX10_told_133 : decode cX10_told 133 = .ok (.ireturn, 1) := dko_172 (dk_t 9 133 [172, 19, 1, 18, 172] dwX10_told_124 rfl rfl)
theorem dX10_told_134 : decode cX10_told 134 = .ok (.ldc_w 274, 3) := dko_19 (dk_t 10 134 [19, 1, 18, 172] dwX10_told_124 rfl rfl)
theorem dX10_told_137 : decode cX10_told 137 = .ok (.ireturn, 1) := dko_172 (dk_t 13 137 [172] dwX10_told_124 rfl rfl)
theorem dwX10_queue_0 : dkW cX10_queue 0 [27, 155, 0, 14, 27, 42, 180, 0, 57, 182, 0, 232] = true := by decide +kernel
theorem dX10_queue_0 : decode cX10_queue 0 = .ok (.iload_n 1, 1) := dko_27 dwX10_queue_0
theorem dX10_queue_1 : decode cX10_queue 1 = .ok (.ifCond .lt 14, 3) := dko_155 (dk_t 1 1 [155, 0, 14, 27, 42, 180, 0, 57, 182, 0, 232] dwX10_queue_0 rfl rfl)
theorem dX10_queue_4 : decode cX10_queue 4 = .ok (.iload_n 1, 1) := dko_27 (dk_t 4 4 [27, 42, 180, 0, 57, 182, 0, 232] dwX10_queue_0 rfl rfl)
theorem dX10_queue_5 : decode cX10_queue 5 = .ok (.aload_n 0, 1) := dko_42 (dk_t 5 5 [42, 180, 0, 57, 182, 0, 232] dwX10_queue_0 rfl rfl)
theorem dX10_queue_6 : decode cX10_queue 6 = .ok (.getfield 57, 3) := dko_180 (dk_t 6 6 [180, 0, 57, 182, 0, 232] dwX10_queue_0 rfl rfl)
theorem dX10_queue_9 : decode cX10_queue 9 = .ok (.invokevirtual 232, 3) := dko_182 (dk_t 9 9 [182, 0, 232] dwX10_queue_0 rfl rfl)
theorem dwX10_queue_12 : dkW cX10_queue 12 [161, 0, 14, 187, 1, 2, 89, 19, 1, 43, 183, 1, 6, 191] = true := by decide +kernel
theorem dX10_queue_12 : decode cX10_queue 12 = .ok (.if_icmp .lt 14, 3) := dko_161 dwX10_queue_12
theorem dX10_queue_15 : decode cX10_queue 15 = .ok (.new 258, 3) := dko_187 (dk_t 3 15 [187, 1, 2, 89, 19, 1, 43, 183, 1, 6, 191] dwX10_queue_12 rfl rfl)
theorem dX10_queue_18 : decode cX10_queue 18 = .ok (.dup, 1) := dko_89 (dk_t 6 18 [89, 19, 1, 43, 183, 1, 6, 191] dwX10_queue_12 rfl rfl)
theorem dX10_queue_19 : decode cX10_queue 19 = .ok (.ldc_w 299, 3) := dko_19 (dk_t 7 19 [19, 1, 43, 183, 1, 6, 191] dwX10_queue_12 rfl rfl)
theorem dX10_queue_22 : decode cX10_queue 22 = .ok (.invokespecial 262, 3) := dko_183 (dk_t 10 22 [183, 1, 6, 191] dwX10_queue_12 rfl rfl)
theorem dX10_queue_25 : decode cX10_queue 25 = .ok (.athrow, 1) := dko_191 (dk_t 13 25 [191] dwX10_queue_12 rfl rfl)
theorem dwX10_queue_26 : dkW cX10_queue 26 [28] = true := by decide +kernel
theorem dX10_queue_26 : decode cX10_queue 26 = .ok (.iload_n 2, 1) := dko_28 dwX10_queue_26
theorem dX10_queue_27 : decode cX10_queue 27 = .ok (.tableswitch 86 0 4 #[33, 42, 51, 60, 69], 33) := by decide +kernel
theorem dwX10_queue_60 : dkW cX10_queue 60 [42, 180, 0, 57, 27, 182, 1, 45, 172, 42, 180, 0, 57, 27] = true := by decide +kernel
theorem dX10_queue_60 : decode cX10_queue 60 = .ok (.aload_n 0, 1) := dko_42 dwX10_queue_60
theorem dX10_queue_61 : decode cX10_queue 61 = .ok (.getfield 57, 3) := dko_180 (dk_t 1 61 [180, 0, 57, 27, 182, 1, 45, 172, 42, 180, 0, 57, 27] dwX10_queue_60 rfl rfl)
theorem dX10_queue_64 : decode cX10_queue 64 = .ok (.iload_n 1, 1) := dko_27 (dk_t 4 64 [27, 182, 1, 45, 172, 42, 180, 0, 57, 27] dwX10_queue_60 rfl rfl)
theorem dX10_queue_65 : decode cX10_queue 65 = .ok (.invokevirtual 301, 3) := dko_182 (dk_t 5 65 [182, 1, 45, 172, 42, 180, 0, 57, 27] dwX10_queue_60 rfl rfl)
theorem dX10_queue_68 : decode cX10_queue 68 = .ok (.ireturn, 1) := dko_172 (dk_t 8 68 [172, 42, 180, 0, 57, 27] dwX10_queue_60 rfl rfl)
theorem dX10_queue_69 : decode cX10_queue 69 = .ok (.aload_n 0, 1) := dko_42 (dk_t 9 69 [42, 180, 0, 57, 27] dwX10_queue_60 rfl rfl)
theorem dX10_queue_70 : decode cX10_queue 70 = .ok (.getfield 57, 3) := dko_180 (dk_t 10 70 [180, 0, 57, 27] dwX10_queue_60 rfl rfl)
theorem dX10_queue_73 : decode cX10_queue 73 = .ok (.iload_n 1, 1) := dko_27 (dk_t 13 73 [27] dwX10_queue_60 rfl rfl)
theorem dwX10_queue_74 : dkW cX10_queue 74 [182, 0, 147, 172, 42, 180, 0, 57, 27, 182, 1, 47, 172, 42] = true := by decide +kernel
theorem dX10_queue_74 : decode cX10_queue 74 = .ok (.invokevirtual 147, 3) := dko_182 dwX10_queue_74
theorem dX10_queue_77 : decode cX10_queue 77 = .ok (.ireturn, 1) := dko_172 (dk_t 3 77 [172, 42, 180, 0, 57, 27, 182, 1, 47, 172, 42] dwX10_queue_74 rfl rfl)
theorem dX10_queue_78 : decode cX10_queue 78 = .ok (.aload_n 0, 1) := dko_42 (dk_t 4 78 [42, 180, 0, 57, 27, 182, 1, 47, 172, 42] dwX10_queue_74 rfl rfl)
theorem dX10_queue_79 : decode cX10_queue 79 = .ok (.getfield 57, 3) := dko_180 (dk_t 5 79 [180, 0, 57, 27, 182, 1, 47, 172, 42] dwX10_queue_74 rfl rfl)
theorem dX10_queue_82 : decode cX10_queue 82 = .ok (.iload_n 1, 1) := dko_27 (dk_t 8 82 [27, 182, 1, 47, 172, 42] dwX10_queue_74 rfl rfl)
theorem dX10_queue_83 : decode cX10_queue 83 = .ok (.invokevirtual 303, 3) := dko_182 (dk_t 9 83 [182, 1, 47, 172, 42] dwX10_queue_74 rfl rfl)
theorem dX10_queue_86 : decode cX10_queue 86 = .ok (.ireturn, 1) := dko_172 (dk_t 12 86 [172, 42] dwX10_queue_74 rfl rfl)
theorem dX10_queue_87 : decode cX10_queue 87 = .ok (.aload_n 0, 1) := dko_42 (dk_t 13 87 [42] dwX10_queue_74 rfl rfl)
theorem dwX10_queue_88 : dkW cX10_queue 88 [180, 0, 57, 27, 182, 1, 50, 172, 42, 180, 0, 57, 27] = true := by decide +kernel
theorem dX10_queue_88 : decode cX10_queue 88 = .ok (.getfield 57, 3) := dko_180 dwX10_queue_88
theorem dX10_queue_91 : decode cX10_queue 91 = .ok (.iload_n 1, 1) := dko_27 (dk_t 3 91 [27, 182, 1, 50, 172, 42, 180, 0, 57, 27] dwX10_queue_88 rfl rfl)
theorem dX10_queue_92 : decode cX10_queue 92 = .ok (.invokevirtual 306, 3) := dko_182 (dk_t 4 92 [182, 1, 50, 172, 42, 180, 0, 57, 27] dwX10_queue_88 rfl rfl)
theorem dX10_queue_95 : decode cX10_queue 95 = .ok (.ireturn, 1) := dko_172 (dk_t 7 95 [172, 42, 180, 0, 57, 27] dwX10_queue_88 rfl rfl)
theorem dX10_queue_96 : decode cX10_queue 96 = .ok (.aload_n 0, 1) := dko_42 (dk_t 8 96 [42, 180, 0, 57, 27] dwX10_queue_88 rfl rfl)
theorem dX10_queue_97 : decode cX10_queue 97 = .ok (.getfield 57, 3) := dko_180 (dk_t 9 97 [180, 0, 57, 27] dwX10_queue_88 rfl rfl)
theorem dX10_queue_100 : decode cX10_queue 100 = .ok (.iload_n 1, 1) := dko_27 (dk_t 12 100 [27] dwX10_queue_88 rfl rfl)
theorem dwX10_queue_101 : dkW cX10_queue 101 [182, 1, 53, 153, 0, 7, 4, 167, 0, 4, 3, 172] = true := by decide +kernel
theorem dX10_queue_101 : decode cX10_queue 101 = .ok (.invokevirtual 309, 3) := dko_182 dwX10_queue_101
theorem dX10_queue_104 : decode cX10_queue 104 = .ok (.ifCond .eq 7, 3) := dko_153 (dk_t 3 104 [153, 0, 7, 4, 167, 0, 4, 3, 172] dwX10_queue_101 rfl rfl)
theorem dX10_queue_107 : decode cX10_queue 107 = .ok (.iconst 1, 1) := dko_4 (dk_t 6 107 [4, 167, 0, 4, 3, 172] dwX10_queue_101 rfl rfl)
theorem dX10_queue_108 : decode cX10_queue 108 = .ok (.goto 4, 3) := dko_167 (dk_t 7 108 [167, 0, 4, 3, 172] dwX10_queue_101 rfl rfl)
theorem dX10_queue_111 : decode cX10_queue 111 = .ok (.iconst 0, 1) := dko_3 (dk_t 10 111 [3, 172] dwX10_queue_101 rfl rfl)
theorem dX10_queue_112 : decode cX10_queue 112 = .ok (.ireturn, 1) := dko_172 (dk_t 11 112 [172] dwX10_queue_101 rfl rfl)
theorem dwX10_queue_113 : dkW cX10_queue 113 [19, 1, 18, 172] = true := by decide +kernel
theorem dX10_queue_113 : decode cX10_queue 113 = .ok (.ldc_w 274, 3) := dko_19 dwX10_queue_113
theorem dX10_queue_116 : decode cX10_queue 116 = .ok (.ireturn, 1) := dko_172 (dk_t 3 116 [172] dwX10_queue_113 rfl rfl)
theorem dwX10_group_0 : dkW cX10_group 0 [28, 153, 0, 10, 28, 4, 159, 0, 5, 2, 172, 27, 2] = true := by decide +kernel
theorem dX10_group_0 : decode cX10_group 0 = .ok (.iload_n 2, 1) := dko_28 dwX10_group_0
theorem dX10_group_1 : decode cX10_group 1 = .ok (.ifCond .eq 10, 3) := dko_153 (dk_t 1 1 [153, 0, 10, 28, 4, 159, 0, 5, 2, 172, 27, 2] dwX10_group_0 rfl rfl)
theorem dX10_group_4 : decode cX10_group 4 = .ok (.iload_n 2, 1) := dko_28 (dk_t 4 4 [28, 4, 159, 0, 5, 2, 172, 27, 2] dwX10_group_0 rfl rfl)
theorem dX10_group_5 : decode cX10_group 5 = .ok (.iconst 1, 1) := dko_4 (dk_t 5 5 [4, 159, 0, 5, 2, 172, 27, 2] dwX10_group_0 rfl rfl)
theorem dX10_group_6 : decode cX10_group 6 = .ok (.if_icmp .eq 5, 3) := dko_159 (dk_t 6 6 [159, 0, 5, 2, 172, 27, 2] dwX10_group_0 rfl rfl)
theorem dX10_group_9 : decode cX10_group 9 = .ok (.iconst (-1), 1) := dko_2 (dk_t 9 9 [2, 172, 27, 2] dwX10_group_0 rfl rfl)
theorem dX10_group_10 : decode cX10_group 10 = .ok (.ireturn, 1) := dko_172 (dk_t 10 10 [172, 27, 2] dwX10_group_0 rfl rfl)
theorem dX10_group_11 : decode cX10_group 11 = .ok (.iload_n 1, 1) := dko_27 (dk_t 11 11 [27, 2] dwX10_group_0 rfl rfl)
theorem dX10_group_12 : decode cX10_group 12 = .ok (.iconst (-1), 1) := dko_2 (dk_t 12 12 [2] dwX10_group_0 rfl rfl)
theorem dwX10_group_13 : dkW cX10_group 13 [160, 0, 11, 42, 180, 0, 57, 182, 1, 56, 172, 42] = true := by decide +kernel
theorem dX10_group_13 : decode cX10_group 13 = .ok (.if_icmp .ne 11, 3) := dko_160 dwX10_group_13
theorem dX10_group_16 : decode cX10_group 16 = .ok (.aload_n 0, 1) := dko_42 (dk_t 3 16 [42, 180, 0, 57, 182, 1, 56, 172, 42] dwX10_group_13 rfl rfl)
theorem dX10_group_17 : decode cX10_group 17 = .ok (.getfield 57, 3) := dko_180 (dk_t 4 17 [180, 0, 57, 182, 1, 56, 172, 42] dwX10_group_13 rfl rfl)
theorem dX10_group_20 : decode cX10_group 20 = .ok (.invokevirtual 312, 3) := dko_182 (dk_t 7 20 [182, 1, 56, 172, 42] dwX10_group_13 rfl rfl)
theorem dX10_group_23 : decode cX10_group 23 = .ok (.ireturn, 1) := dko_172 (dk_t 10 23 [172, 42] dwX10_group_13 rfl rfl)
theorem dX10_group_24 : decode cX10_group 24 = .ok (.aload_n 0, 1) := dko_42 (dk_t 11 24 [42] dwX10_group_13 rfl rfl)
theorem dwX10_group_25 : dkW cX10_group 25 [180, 0, 57, 27, 182, 1, 59, 62, 29, 2, 160, 0, 5, 2] = true := by decide +kernel
theorem dX10_group_25 : decode cX10_group 25 = .ok (.getfield 57, 3) := dko_180 dwX10_group_25
theorem dX10_group_28 : decode cX10_group 28 = .ok (.iload_n 1, 1) := dko_27 (dk_t 3 28 [27, 182, 1, 59, 62, 29, 2, 160, 0, 5, 2] dwX10_group_25 rfl rfl)
theorem dX10_group_29 : decode cX10_group 29 = .ok (.invokevirtual 315, 3) := dko_182 (dk_t 4 29 [182, 1, 59, 62, 29, 2, 160, 0, 5, 2] dwX10_group_25 rfl rfl)
theorem dX10_group_32 : decode cX10_group 32 = .ok (.istore_n 3, 1) := dko_62 (dk_t 7 32 [62, 29, 2, 160, 0, 5, 2] dwX10_group_25 rfl rfl)
theorem dX10_group_33 : decode cX10_group 33 = .ok (.iload_n 3, 1) := dko_29 (dk_t 8 33 [29, 2, 160, 0, 5, 2] dwX10_group_25 rfl rfl)
theorem dX10_group_34 : decode cX10_group 34 = .ok (.iconst (-1), 1) := dko_2 (dk_t 9 34 [2, 160, 0, 5, 2] dwX10_group_25 rfl rfl)
theorem dX10_group_35 : decode cX10_group 35 = .ok (.if_icmp .ne 5, 3) := dko_160 (dk_t 10 35 [160, 0, 5, 2] dwX10_group_25 rfl rfl)
theorem dX10_group_38 : decode cX10_group 38 = .ok (.iconst (-1), 1) := dko_2 (dk_t 13 38 [2] dwX10_group_25 rfl rfl)
theorem dwX10_group_39 : dkW cX10_group 39 [172, 42, 180, 0, 57, 29, 182, 1, 45, 54, 4, 28] = true := by decide +kernel
theorem dX10_group_39 : decode cX10_group 39 = .ok (.ireturn, 1) := dko_172 dwX10_group_39
theorem dX10_group_40 : decode cX10_group 40 = .ok (.aload_n 0, 1) := dko_42 (dk_t 1 40 [42, 180, 0, 57, 29, 182, 1, 45, 54, 4, 28] dwX10_group_39 rfl rfl)
theorem dX10_group_41 : decode cX10_group 41 = .ok (.getfield 57, 3) := dko_180 (dk_t 2 41 [180, 0, 57, 29, 182, 1, 45, 54, 4, 28] dwX10_group_39 rfl rfl)
theorem dX10_group_44 : decode cX10_group 44 = .ok (.iload_n 3, 1) := dko_29 (dk_t 5 44 [29, 182, 1, 45, 54, 4, 28] dwX10_group_39 rfl rfl)
theorem dX10_group_45 : decode cX10_group 45 = .ok (.invokevirtual 301, 3) := dko_182 (dk_t 6 45 [182, 1, 45, 54, 4, 28] dwX10_group_39 rfl rfl)
theorem dX10_group_48 : decode cX10_group 48 = .ok (.istore 4, 2) := dko_54 (dk_t 9 48 [54, 4, 28] dwX10_group_39 rfl rfl)
theorem dX10_group_50 : decode cX10_group 50 = .ok (.iload_n 2, 1) := dko_28 (dk_t 11 50 [28] dwX10_group_39 rfl rfl)
theorem dwX10_group_51 : dkW cX10_group 51 [154, 0, 8, 21, 4, 167, 0, 12, 42, 180, 0, 57, 21, 4] = true := by decide +kernel
theorem dX10_group_51 : decode cX10_group 51 = .ok (.ifCond .ne 8, 3) := dko_154 dwX10_group_51
theorem dX10_group_54 : decode cX10_group 54 = .ok (.iload 4, 2) := dko_21 (dk_t 3 54 [21, 4, 167, 0, 12, 42, 180, 0, 57, 21, 4] dwX10_group_51 rfl rfl)
theorem dX10_group_56 : decode cX10_group 56 = .ok (.goto 12, 3) := dko_167 (dk_t 5 56 [167, 0, 12, 42, 180, 0, 57, 21, 4] dwX10_group_51 rfl rfl)
theorem dX10_group_59 : decode cX10_group 59 = .ok (.aload_n 0, 1) := dko_42 (dk_t 8 59 [42, 180, 0, 57, 21, 4] dwX10_group_51 rfl rfl)
theorem dX10_group_60 : decode cX10_group 60 = .ok (.getfield 57, 3) := dko_180 (dk_t 9 60 [180, 0, 57, 21, 4] dwX10_group_51 rfl rfl)
theorem dX10_group_63 : decode cX10_group 63 = .ok (.iload 4, 2) := dko_21 (dk_t 12 63 [21, 4] dwX10_group_51 rfl rfl)
theorem dwX10_group_65 : dkW cX10_group 65 [182, 1, 40, 172] = true := by decide +kernel
theorem dX10_group_65 : decode cX10_group 65 = .ok (.invokevirtual 296, 3) := dko_182 dwX10_group_65
theorem dX10_group_68 : decode cX10_group 68 = .ok (.ireturn, 1) := dko_172 (dk_t 3 68 [172] dwX10_group_65 rfl rfl)
theorem dwX10_asked_0 : dkW cX10_asked 0 [28, 155, 0, 8, 28, 5, 164, 0, 5, 2, 172, 27, 2] = true := by decide +kernel
theorem dX10_asked_0 : decode cX10_asked 0 = .ok (.iload_n 2, 1) := dko_28 dwX10_asked_0
theorem dX10_asked_1 : decode cX10_asked 1 = .ok (.ifCond .lt 8, 3) := dko_155 (dk_t 1 1 [155, 0, 8, 28, 5, 164, 0, 5, 2, 172, 27, 2] dwX10_asked_0 rfl rfl)
theorem dX10_asked_4 : decode cX10_asked 4 = .ok (.iload_n 2, 1) := dko_28 (dk_t 4 4 [28, 5, 164, 0, 5, 2, 172, 27, 2] dwX10_asked_0 rfl rfl)
theorem dX10_asked_5 : decode cX10_asked 5 = .ok (.iconst 2, 1) := dko_5 (dk_t 5 5 [5, 164, 0, 5, 2, 172, 27, 2] dwX10_asked_0 rfl rfl)
theorem dX10_asked_6 : decode cX10_asked 6 = .ok (.if_icmp .le 5, 3) := dko_164 (dk_t 6 6 [164, 0, 5, 2, 172, 27, 2] dwX10_asked_0 rfl rfl)
theorem dX10_asked_9 : decode cX10_asked 9 = .ok (.iconst (-1), 1) := dko_2 (dk_t 9 9 [2, 172, 27, 2] dwX10_asked_0 rfl rfl)
theorem dX10_asked_10 : decode cX10_asked 10 = .ok (.ireturn, 1) := dko_172 (dk_t 10 10 [172, 27, 2] dwX10_asked_0 rfl rfl)
theorem dX10_asked_11 : decode cX10_asked 11 = .ok (.iload_n 1, 1) := dko_27 (dk_t 11 11 [27, 2] dwX10_asked_0 rfl rfl)
theorem dX10_asked_12 : decode cX10_asked 12 = .ok (.iconst (-1), 1) := dko_2 (dk_t 12 12 [2] dwX10_asked_0 rfl rfl)
theorem dwX10_asked_13 : dkW cX10_asked 13 [160, 0, 11, 42, 180, 0, 64, 182, 0, 232, 172, 27] = true := by decide +kernel
theorem dX10_asked_13 : decode cX10_asked 13 = .ok (.if_icmp .ne 11, 3) := dko_160 dwX10_asked_13
theorem dX10_asked_16 : decode cX10_asked 16 = .ok (.aload_n 0, 1) := dko_42 (dk_t 3 16 [42, 180, 0, 64, 182, 0, 232, 172, 27] dwX10_asked_13 rfl rfl)
theorem dX10_asked_17 : decode cX10_asked 17 = .ok (.getfield 64, 3) := dko_180 (dk_t 4 17 [180, 0, 64, 182, 0, 232, 172, 27] dwX10_asked_13 rfl rfl)
theorem dX10_asked_20 : decode cX10_asked 20 = .ok (.invokevirtual 232, 3) := dko_182 (dk_t 7 20 [182, 0, 232, 172, 27] dwX10_asked_13 rfl rfl)
theorem dX10_asked_23 : decode cX10_asked 23 = .ok (.ireturn, 1) := dko_172 (dk_t 10 23 [172, 27] dwX10_asked_13 rfl rfl)
theorem dX10_asked_24 : decode cX10_asked 24 = .ok (.iload_n 1, 1) := dko_27 (dk_t 11 24 [27] dwX10_asked_13 rfl rfl)
theorem dwX10_asked_25 : dkW cX10_asked 25 [155, 0, 14, 27, 42, 180, 0, 64, 182, 0, 232, 161, 0, 5] = true := by decide +kernel
theorem dX10_asked_25 : decode cX10_asked 25 = .ok (.ifCond .lt 14, 3) := dko_155 dwX10_asked_25
theorem dX10_asked_28 : decode cX10_asked 28 = .ok (.iload_n 1, 1) := dko_27 (dk_t 3 28 [27, 42, 180, 0, 64, 182, 0, 232, 161, 0, 5] dwX10_asked_25 rfl rfl)
theorem dX10_asked_29 : decode cX10_asked 29 = .ok (.aload_n 0, 1) := dko_42 (dk_t 4 29 [42, 180, 0, 64, 182, 0, 232, 161, 0, 5] dwX10_asked_25 rfl rfl)
theorem dX10_asked_30 : decode cX10_asked 30 = .ok (.getfield 64, 3) := dko_180 (dk_t 5 30 [180, 0, 64, 182, 0, 232, 161, 0, 5] dwX10_asked_25 rfl rfl)
theorem dX10_asked_33 : decode cX10_asked 33 = .ok (.invokevirtual 232, 3) := dko_182 (dk_t 8 33 [182, 0, 232, 161, 0, 5] dwX10_asked_25 rfl rfl)
theorem dX10_asked_36 : decode cX10_asked 36 = .ok (.if_icmp .lt 5, 3) := dko_161 (dk_t 11 36 [161, 0, 5] dwX10_asked_25 rfl rfl)
theorem dwX10_asked_39 : dkW cX10_asked 39 [2, 172, 28] = true := by decide +kernel
theorem dX10_asked_39 : decode cX10_asked 39 = .ok (.iconst (-1), 1) := dko_2 dwX10_asked_39
theorem dX10_asked_40 : decode cX10_asked 40 = .ok (.ireturn, 1) := dko_172 (dk_t 1 40 [172, 28] dwX10_asked_39 rfl rfl)
theorem dX10_asked_41 : decode cX10_asked 41 = .ok (.iload_n 2, 1) := dko_28 (dk_t 2 41 [28] dwX10_asked_39 rfl rfl)
theorem dX10_asked_42 : decode cX10_asked 42 = .ok (.lookupswitch 44 #[(0, 26), (1, 35)], 26) := by decide +kernel
theorem dwX10_asked_68 : dkW cX10_asked 68 [42, 180, 0, 64, 27, 182, 1, 45, 172, 42, 180, 0, 64, 27] = true := by decide +kernel
theorem dX10_asked_68 : decode cX10_asked 68 = .ok (.aload_n 0, 1) := dko_42 dwX10_asked_68
theorem dX10_asked_69 : decode cX10_asked 69 = .ok (.getfield 64, 3) := dko_180 (dk_t 1 69 [180, 0, 64, 27, 182, 1, 45, 172, 42, 180, 0, 64, 27] dwX10_asked_68 rfl rfl)
theorem dX10_asked_72 : decode cX10_asked 72 = .ok (.iload_n 1, 1) := dko_27 (dk_t 4 72 [27, 182, 1, 45, 172, 42, 180, 0, 64, 27] dwX10_asked_68 rfl rfl)
theorem dX10_asked_73 : decode cX10_asked 73 = .ok (.invokevirtual 301, 3) := dko_182 (dk_t 5 73 [182, 1, 45, 172, 42, 180, 0, 64, 27] dwX10_asked_68 rfl rfl)
theorem dX10_asked_76 : decode cX10_asked 76 = .ok (.ireturn, 1) := dko_172 (dk_t 8 76 [172, 42, 180, 0, 64, 27] dwX10_asked_68 rfl rfl)
theorem dX10_asked_77 : decode cX10_asked 77 = .ok (.aload_n 0, 1) := dko_42 (dk_t 9 77 [42, 180, 0, 64, 27] dwX10_asked_68 rfl rfl)
theorem dX10_asked_78 : decode cX10_asked 78 = .ok (.getfield 64, 3) := dko_180 (dk_t 10 78 [180, 0, 64, 27] dwX10_asked_68 rfl rfl)
theorem dX10_asked_81 : decode cX10_asked 81 = .ok (.iload_n 1, 1) := dko_27 (dk_t 13 81 [27] dwX10_asked_68 rfl rfl)
theorem dwX10_asked_82 : dkW cX10_asked 82 [182, 0, 147, 172, 42, 180, 0, 64, 27, 182, 1, 53] = true := by decide +kernel
theorem dX10_asked_82 : decode cX10_asked 82 = .ok (.invokevirtual 147, 3) := dko_182 dwX10_asked_82
theorem dX10_asked_85 : decode cX10_asked 85 = .ok (.ireturn, 1) := dko_172 (dk_t 3 85 [172, 42, 180, 0, 64, 27, 182, 1, 53] dwX10_asked_82 rfl rfl)
theorem dX10_asked_86 : decode cX10_asked 86 = .ok (.aload_n 0, 1) := dko_42 (dk_t 4 86 [42, 180, 0, 64, 27, 182, 1, 53] dwX10_asked_82 rfl rfl)
theorem dX10_asked_87 : decode cX10_asked 87 = .ok (.getfield 64, 3) := dko_180 (dk_t 5 87 [180, 0, 64, 27, 182, 1, 53] dwX10_asked_82 rfl rfl)
theorem dX10_asked_90 : decode cX10_asked 90 = .ok (.iload_n 1, 1) := dko_27 (dk_t 8 90 [27, 182, 1, 53] dwX10_asked_82 rfl rfl)
theorem dX10_asked_91 : decode cX10_asked 91 = .ok (.invokevirtual 309, 3) := dko_182 (dk_t 9 91 [182, 1, 53] dwX10_asked_82 rfl rfl)
theorem dwX10_asked_94 : dkW cX10_asked 94 [153, 0, 7, 4, 167, 0, 4, 3, 172] = true := by decide +kernel
theorem dX10_asked_94 : decode cX10_asked 94 = .ok (.ifCond .eq 7, 3) := dko_153 dwX10_asked_94
theorem dX10_asked_97 : decode cX10_asked 97 = .ok (.iconst 1, 1) := dko_4 (dk_t 3 97 [4, 167, 0, 4, 3, 172] dwX10_asked_94 rfl rfl)
theorem dX10_asked_98 : decode cX10_asked 98 = .ok (.goto 4, 3) := dko_167 (dk_t 4 98 [167, 0, 4, 3, 172] dwX10_asked_94 rfl rfl)
theorem dX10_asked_101 : decode cX10_asked 101 = .ok (.iconst 0, 1) := dko_3 (dk_t 7 101 [3, 172] dwX10_asked_94 rfl rfl)
theorem dX10_asked_102 : decode cX10_asked 102 = .ok (.ireturn, 1) := dko_172 (dk_t 8 102 [172] dwX10_asked_94 rfl rfl)
theorem dwX10_fresh_0 : dkW cX10_fresh 0 [42, 27, 182, 0, 236, 78, 45, 199, 0, 5, 2, 172, 28] = true := by decide +kernel
theorem dX10_fresh_0 : decode cX10_fresh 0 = .ok (.aload_n 0, 1) := dko_42 dwX10_fresh_0
theorem dX10_fresh_1 : decode cX10_fresh 1 = .ok (.iload_n 1, 1) := dko_27 (dk_t 1 1 [27, 182, 0, 236, 78, 45, 199, 0, 5, 2, 172, 28] dwX10_fresh_0 rfl rfl)
theorem dX10_fresh_2 : decode cX10_fresh 2 = .ok (.invokevirtual 236, 3) := dko_182 (dk_t 2 2 [182, 0, 236, 78, 45, 199, 0, 5, 2, 172, 28] dwX10_fresh_0 rfl rfl)
theorem dX10_fresh_5 : decode cX10_fresh 5 = .ok (.astore_n 3, 1) := dko_78 (dk_t 5 5 [78, 45, 199, 0, 5, 2, 172, 28] dwX10_fresh_0 rfl rfl)
theorem dX10_fresh_6 : decode cX10_fresh 6 = .ok (.aload_n 3, 1) := dko_45 (dk_t 6 6 [45, 199, 0, 5, 2, 172, 28] dwX10_fresh_0 rfl rfl)
theorem dX10_fresh_7 : decode cX10_fresh 7 = .ok (.ifnonnull 5, 3) := dko_199 (dk_t 7 7 [199, 0, 5, 2, 172, 28] dwX10_fresh_0 rfl rfl)
theorem dX10_fresh_10 : decode cX10_fresh 10 = .ok (.iconst (-1), 1) := dko_2 (dk_t 10 10 [2, 172, 28] dwX10_fresh_0 rfl rfl)
theorem dX10_fresh_11 : decode cX10_fresh 11 = .ok (.ireturn, 1) := dko_172 (dk_t 11 11 [172, 28] dwX10_fresh_0 rfl rfl)
theorem dX10_fresh_12 : decode cX10_fresh 12 = .ok (.iload_n 2, 1) := dko_28 (dk_t 12 12 [28] dwX10_fresh_0 rfl rfl)
theorem dX10_fresh_13 : decode cX10_fresh 13 = .ok (.lookupswitch 39 #[(0, 27), (1, 33)], 27) := by decide +kernel
theorem dwX10_fresh_40 : dkW cX10_fresh 40 [42, 45, 182, 1, 62, 172, 42, 45, 182, 1, 66, 172, 2, 172] = true := by decide +kernel
theorem dX10_fresh_40 : decode cX10_fresh 40 = .ok (.aload_n 0, 1) := dko_42 dwX10_fresh_40
theorem dX10_fresh_41 : decode cX10_fresh 41 = .ok (.aload_n 3, 1) := dko_45 (dk_t 1 41 [45, 182, 1, 62, 172, 42, 45, 182, 1, 66, 172, 2, 172] dwX10_fresh_40 rfl rfl)
theorem dX10_fresh_42 : decode cX10_fresh 42 = .ok (.invokevirtual 318, 3) := dko_182 (dk_t 2 42 [182, 1, 62, 172, 42, 45, 182, 1, 66, 172, 2, 172] dwX10_fresh_40 rfl rfl)
theorem dX10_fresh_45 : decode cX10_fresh 45 = .ok (.ireturn, 1) := dko_172 (dk_t 5 45 [172, 42, 45, 182, 1, 66, 172, 2, 172] dwX10_fresh_40 rfl rfl)
theorem dX10_fresh_46 : decode cX10_fresh 46 = .ok (.aload_n 0, 1) := dko_42 (dk_t 6 46 [42, 45, 182, 1, 66, 172, 2, 172] dwX10_fresh_40 rfl rfl)
theorem dX10_fresh_47 : decode cX10_fresh 47 = .ok (.aload_n 3, 1) := dko_45 (dk_t 7 47 [45, 182, 1, 66, 172, 2, 172] dwX10_fresh_40 rfl rfl)
theorem dX10_fresh_48 : decode cX10_fresh 48 = .ok (.invokevirtual 322, 3) := dko_182 (dk_t 8 48 [182, 1, 66, 172, 2, 172] dwX10_fresh_40 rfl rfl)
theorem dX10_fresh_51 : decode cX10_fresh 51 = .ok (.ireturn, 1) := dko_172 (dk_t 11 51 [172, 2, 172] dwX10_fresh_40 rfl rfl)
theorem dX10_fresh_52 : decode cX10_fresh 52 = .ok (.iconst (-1), 1) := dko_2 (dk_t 12 52 [2, 172] dwX10_fresh_40 rfl rfl)
theorem dX10_fresh_53 : decode cX10_fresh 53 = .ok (.ireturn, 1) := dko_172 (dk_t 13 53 [172] dwX10_fresh_40 rfl rfl)
theorem dwX10_question_0 : dkW cX10_question 0 [42, 180, 0, 30, 27, 182, 0, 159, 58, 4, 25, 4] = true := by decide +kernel
theorem dX10_question_0 : decode cX10_question 0 = .ok (.aload_n 0, 1) := dko_42 dwX10_question_0
theorem dX10_question_1 : decode cX10_question 1 = .ok (.getfield 30, 3) := dko_180 (dk_t 1 1 [180, 0, 30, 27, 182, 0, 159, 58, 4, 25, 4] dwX10_question_0 rfl rfl)
theorem dX10_question_4 : decode cX10_question 4 = .ok (.iload_n 1, 1) := dko_27 (dk_t 4 4 [27, 182, 0, 159, 58, 4, 25, 4] dwX10_question_0 rfl rfl)
theorem dX10_question_5 : decode cX10_question 5 = .ok (.invokevirtual 159, 3) := dko_182 (dk_t 5 5 [182, 0, 159, 58, 4, 25, 4] dwX10_question_0 rfl rfl)
theorem dX10_question_8 : decode cX10_question 8 = .ok (.astore 4, 2) := dko_58 (dk_t 8 8 [58, 4, 25, 4] dwX10_question_0 rfl rfl)
theorem dX10_question_10 : decode cX10_question 10 = .ok (.aload 4, 2) := dko_25 (dk_t 10 10 [25, 4] dwX10_question_0 rfl rfl)
theorem dwX10_question_12 : dkW cX10_question 12 [198, 0, 12, 25, 4, 28, 182, 1, 69, 154, 0, 7] = true := by decide +kernel
theorem dX10_question_12 : decode cX10_question 12 = .ok (.ifnull 12, 3) := dko_198 dwX10_question_12
theorem dX10_question_15 : decode cX10_question 15 = .ok (.aload 4, 2) := dko_25 (dk_t 3 15 [25, 4, 28, 182, 1, 69, 154, 0, 7] dwX10_question_12 rfl rfl)
theorem dX10_question_17 : decode cX10_question 17 = .ok (.iload_n 2, 1) := dko_28 (dk_t 5 17 [28, 182, 1, 69, 154, 0, 7] dwX10_question_12 rfl rfl)
theorem dX10_question_18 : decode cX10_question 18 = .ok (.invokevirtual 325, 3) := dko_182 (dk_t 6 18 [182, 1, 69, 154, 0, 7] dwX10_question_12 rfl rfl)
theorem dX10_question_21 : decode cX10_question 21 = .ok (.ifCond .ne 7, 3) := dko_154 (dk_t 9 21 [154, 0, 7] dwX10_question_12 rfl rfl)
theorem dwX10_question_24 : dkW cX10_question 24 [19, 1, 18, 172, 25, 4, 42, 180, 0, 37, 28, 182, 1, 72] = true := by decide +kernel
theorem dX10_question_24 : decode cX10_question 24 = .ok (.ldc_w 274, 3) := dko_19 dwX10_question_24
theorem dX10_question_27 : decode cX10_question 27 = .ok (.ireturn, 1) := dko_172 (dk_t 3 27 [172, 25, 4, 42, 180, 0, 37, 28, 182, 1, 72] dwX10_question_24 rfl rfl)
theorem dX10_question_28 : decode cX10_question 28 = .ok (.aload 4, 2) := dko_25 (dk_t 4 28 [25, 4, 42, 180, 0, 37, 28, 182, 1, 72] dwX10_question_24 rfl rfl)
theorem dX10_question_30 : decode cX10_question 30 = .ok (.aload_n 0, 1) := dko_42 (dk_t 6 30 [42, 180, 0, 37, 28, 182, 1, 72] dwX10_question_24 rfl rfl)
theorem dX10_question_31 : decode cX10_question 31 = .ok (.getfield 37, 3) := dko_180 (dk_t 7 31 [180, 0, 37, 28, 182, 1, 72] dwX10_question_24 rfl rfl)
theorem dX10_question_34 : decode cX10_question 34 = .ok (.iload_n 2, 1) := dko_28 (dk_t 10 34 [28, 182, 1, 72] dwX10_question_24 rfl rfl)
theorem dX10_question_35 : decode cX10_question 35 = .ok (.invokevirtual 328, 3) := dko_182 (dk_t 11 35 [182, 1, 72] dwX10_question_24 rfl rfl)
theorem dwX10_question_38 : dkW cX10_question 38 [54, 5, 29] = true := by decide +kernel
theorem dX10_question_38 : decode cX10_question 38 = .ok (.istore 5, 2) := dko_54 dwX10_question_38
theorem dX10_question_40 : decode cX10_question 40 = .ok (.iload_n 3, 1) := dko_29 (dk_t 2 40 [29] dwX10_question_38 rfl rfl)
theorem dX10_question_41 : decode cX10_question 41 = .ok (.lookupswitch 51 #[(0, 27), (1, 30)], 27) := by decide +kernel
theorem dwX10_question_68 : dkW cX10_question 68 [21, 5, 172, 25, 4, 42, 180, 0, 37, 28, 21, 5] = true := by decide +kernel
theorem dX10_question_68 : decode cX10_question 68 = .ok (.iload 5, 2) := dko_21 dwX10_question_68
theorem dX10_question_70 : decode cX10_question 70 = .ok (.ireturn, 1) := dko_172 (dk_t 2 70 [172, 25, 4, 42, 180, 0, 37, 28, 21, 5] dwX10_question_68 rfl rfl)
theorem dX10_question_71 : decode cX10_question 71 = .ok (.aload 4, 2) := dko_25 (dk_t 3 71 [25, 4, 42, 180, 0, 37, 28, 21, 5] dwX10_question_68 rfl rfl)
theorem dX10_question_73 : decode cX10_question 73 = .ok (.aload_n 0, 1) := dko_42 (dk_t 5 73 [42, 180, 0, 37, 28, 21, 5] dwX10_question_68 rfl rfl)
theorem dX10_question_74 : decode cX10_question 74 = .ok (.getfield 37, 3) := dko_180 (dk_t 6 74 [180, 0, 37, 28, 21, 5] dwX10_question_68 rfl rfl)
theorem dX10_question_77 : decode cX10_question 77 = .ok (.iload_n 2, 1) := dko_28 (dk_t 9 77 [28, 21, 5] dwX10_question_68 rfl rfl)
theorem dX10_question_78 : decode cX10_question 78 = .ok (.iload 5, 2) := dko_21 (dk_t 10 78 [21, 5] dwX10_question_68 rfl rfl)
theorem dwX10_question_80 : dkW cX10_question 80 [182, 1, 76, 153, 0, 7, 4, 167, 0, 4, 3, 172] = true := by decide +kernel
theorem dX10_question_80 : decode cX10_question 80 = .ok (.invokevirtual 332, 3) := dko_182 dwX10_question_80
theorem dX10_question_83 : decode cX10_question 83 = .ok (.ifCond .eq 7, 3) := dko_153 (dk_t 3 83 [153, 0, 7, 4, 167, 0, 4, 3, 172] dwX10_question_80 rfl rfl)
theorem dX10_question_86 : decode cX10_question 86 = .ok (.iconst 1, 1) := dko_4 (dk_t 6 86 [4, 167, 0, 4, 3, 172] dwX10_question_80 rfl rfl)
theorem dX10_question_87 : decode cX10_question 87 = .ok (.goto 4, 3) := dko_167 (dk_t 7 87 [167, 0, 4, 3, 172] dwX10_question_80 rfl rfl)
theorem dX10_question_90 : decode cX10_question 90 = .ok (.iconst 0, 1) := dko_3 (dk_t 10 90 [3, 172] dwX10_question_80 rfl rfl)
theorem dX10_question_91 : decode cX10_question 91 = .ok (.ireturn, 1) := dko_172 (dk_t 11 91 [172] dwX10_question_80 rfl rfl)
theorem dwX10_question_92 : dkW cX10_question 92 [19, 1, 18, 172] = true := by decide +kernel
theorem dX10_question_92 : decode cX10_question 92 = .ok (.ldc_w 274, 3) := dko_19 dwX10_question_92
theorem dX10_question_95 : decode cX10_question 95 = .ok (.ireturn, 1) := dko_172 (dk_t 3 95 [172] dwX10_question_92 rfl rfl)
theorem dwX10_first_0 : dkW cX10_first 0 [42, 180, 0, 123, 154, 0, 5, 2, 172, 42, 180, 0, 57] = true := by decide +kernel
theorem dX10_first_0 : decode cX10_first 0 = .ok (.aload_n 0, 1) := dko_42 dwX10_first_0
theorem dX10_first_1 : decode cX10_first 1 = .ok (.getfield 123, 3) := dko_180 (dk_t 1 1 [180, 0, 123, 154, 0, 5, 2, 172, 42, 180, 0, 57] dwX10_first_0 rfl rfl)
theorem dX10_first_4 : decode cX10_first 4 = .ok (.ifCond .ne 5, 3) := dko_154 (dk_t 4 4 [154, 0, 5, 2, 172, 42, 180, 0, 57] dwX10_first_0 rfl rfl)
theorem dX10_first_7 : decode cX10_first 7 = .ok (.iconst (-1), 1) := dko_2 (dk_t 7 7 [2, 172, 42, 180, 0, 57] dwX10_first_0 rfl rfl)
theorem dX10_first_8 : decode cX10_first 8 = .ok (.ireturn, 1) := dko_172 (dk_t 8 8 [172, 42, 180, 0, 57] dwX10_first_0 rfl rfl)
theorem dX10_first_9 : decode cX10_first 9 = .ok (.aload_n 0, 1) := dko_42 (dk_t 9 9 [42, 180, 0, 57] dwX10_first_0 rfl rfl)
theorem dX10_first_10 : decode cX10_first 10 = .ok (.getfield 57, 3) := dko_180 (dk_t 10 10 [180, 0, 57] dwX10_first_0 rfl rfl)
theorem dwX10_first_13 : dkW cX10_first 13 [182, 0, 244, 61, 27] = true := by decide +kernel
theorem dX10_first_13 : decode cX10_first 13 = .ok (.invokevirtual 244, 3) := dko_182 dwX10_first_13
theorem dX10_first_16 : decode cX10_first 16 = .ok (.istore_n 2, 1) := dko_61 (dk_t 3 16 [61, 27] dwX10_first_13 rfl rfl)
theorem dX10_first_17 : decode cX10_first 17 = .ok (.iload_n 1, 1) := dko_27 (dk_t 4 17 [27] dwX10_first_13 rfl rfl)
theorem dX10_first_18 : decode cX10_first 18 = .ok (.tableswitch 76 0 3 #[30, 48, 66, 68], 30) := by decide +kernel
theorem dwX10_first_48 : dkW cX10_first 48 [28, 2, 160, 0, 7, 2, 167, 0, 11, 42, 180, 0, 57, 28] = true := by decide +kernel
theorem dX10_first_48 : decode cX10_first 48 = .ok (.iload_n 2, 1) := dko_28 dwX10_first_48
theorem dX10_first_49 : decode cX10_first 49 = .ok (.iconst (-1), 1) := dko_2 (dk_t 1 49 [2, 160, 0, 7, 2, 167, 0, 11, 42, 180, 0, 57, 28] dwX10_first_48 rfl rfl)
theorem dX10_first_50 : decode cX10_first 50 = .ok (.if_icmp .ne 7, 3) := dko_160 (dk_t 2 50 [160, 0, 7, 2, 167, 0, 11, 42, 180, 0, 57, 28] dwX10_first_48 rfl rfl)
theorem dX10_first_53 : decode cX10_first 53 = .ok (.iconst (-1), 1) := dko_2 (dk_t 5 53 [2, 167, 0, 11, 42, 180, 0, 57, 28] dwX10_first_48 rfl rfl)
theorem dX10_first_54 : decode cX10_first 54 = .ok (.goto 11, 3) := dko_167 (dk_t 6 54 [167, 0, 11, 42, 180, 0, 57, 28] dwX10_first_48 rfl rfl)
theorem dX10_first_57 : decode cX10_first 57 = .ok (.aload_n 0, 1) := dko_42 (dk_t 9 57 [42, 180, 0, 57, 28] dwX10_first_48 rfl rfl)
theorem dX10_first_58 : decode cX10_first 58 = .ok (.getfield 57, 3) := dko_180 (dk_t 10 58 [180, 0, 57, 28] dwX10_first_48 rfl rfl)
theorem dX10_first_61 : decode cX10_first 61 = .ok (.iload_n 2, 1) := dko_28 (dk_t 13 61 [28] dwX10_first_48 rfl rfl)
theorem dwX10_first_62 : dkW cX10_first 62 [182, 1, 45, 172, 28, 2, 160, 0, 7, 2, 167, 0, 11, 42] = true := by decide +kernel
theorem dX10_first_62 : decode cX10_first 62 = .ok (.invokevirtual 301, 3) := dko_182 dwX10_first_62
theorem dX10_first_65 : decode cX10_first 65 = .ok (.ireturn, 1) := dko_172 (dk_t 3 65 [172, 28, 2, 160, 0, 7, 2, 167, 0, 11, 42] dwX10_first_62 rfl rfl)
theorem dX10_first_66 : decode cX10_first 66 = .ok (.iload_n 2, 1) := dko_28 (dk_t 4 66 [28, 2, 160, 0, 7, 2, 167, 0, 11, 42] dwX10_first_62 rfl rfl)
theorem dX10_first_67 : decode cX10_first 67 = .ok (.iconst (-1), 1) := dko_2 (dk_t 5 67 [2, 160, 0, 7, 2, 167, 0, 11, 42] dwX10_first_62 rfl rfl)
theorem dX10_first_68 : decode cX10_first 68 = .ok (.if_icmp .ne 7, 3) := dko_160 (dk_t 6 68 [160, 0, 7, 2, 167, 0, 11, 42] dwX10_first_62 rfl rfl)
theorem dX10_first_71 : decode cX10_first 71 = .ok (.iconst (-1), 1) := dko_2 (dk_t 9 71 [2, 167, 0, 11, 42] dwX10_first_62 rfl rfl)
theorem dX10_first_72 : decode cX10_first 72 = .ok (.goto 11, 3) := dko_167 (dk_t 10 72 [167, 0, 11, 42] dwX10_first_62 rfl rfl)
theorem dX10_first_75 : decode cX10_first 75 = .ok (.aload_n 0, 1) := dko_42 (dk_t 13 75 [42] dwX10_first_62 rfl rfl)
theorem dwX10_first_76 : dkW cX10_first 76 [180, 0, 57, 28, 182, 0, 147, 172, 28, 172, 42, 180, 0, 57] = true := by decide +kernel
theorem dX10_first_76 : decode cX10_first 76 = .ok (.getfield 57, 3) := dko_180 dwX10_first_76
theorem dX10_first_79 : decode cX10_first 79 = .ok (.iload_n 2, 1) := dko_28 (dk_t 3 79 [28, 182, 0, 147, 172, 28, 172, 42, 180, 0, 57] dwX10_first_76 rfl rfl)
theorem dX10_first_80 : decode cX10_first 80 = .ok (.invokevirtual 147, 3) := dko_182 (dk_t 4 80 [182, 0, 147, 172, 28, 172, 42, 180, 0, 57] dwX10_first_76 rfl rfl)
theorem dX10_first_83 : decode cX10_first 83 = .ok (.ireturn, 1) := dko_172 (dk_t 7 83 [172, 28, 172, 42, 180, 0, 57] dwX10_first_76 rfl rfl)
theorem dX10_first_84 : decode cX10_first 84 = .ok (.iload_n 2, 1) := dko_28 (dk_t 8 84 [28, 172, 42, 180, 0, 57] dwX10_first_76 rfl rfl)
theorem dX10_first_85 : decode cX10_first 85 = .ok (.ireturn, 1) := dko_172 (dk_t 9 85 [172, 42, 180, 0, 57] dwX10_first_76 rfl rfl)
theorem dX10_first_86 : decode cX10_first 86 = .ok (.aload_n 0, 1) := dko_42 (dk_t 10 86 [42, 180, 0, 57] dwX10_first_76 rfl rfl)
theorem dX10_first_87 : decode cX10_first 87 = .ok (.getfield 57, 3) := dko_180 (dk_t 11 87 [180, 0, 57] dwX10_first_76 rfl rfl)
theorem dwX10_first_90 : dkW cX10_first 90 [182, 1, 79, 172, 19, 1, 18, 172] = true := by decide +kernel
theorem dX10_first_90 : decode cX10_first 90 = .ok (.invokevirtual 335, 3) := dko_182 dwX10_first_90
theorem dX10_first_93 : decode cX10_first 93 = .ok (.ireturn, 1) := dko_172 (dk_t 3 93 [172, 19, 1, 18, 172] dwX10_first_90 rfl rfl)
theorem dX10_first_94 : decode cX10_first 94 = .ok (.ldc_w 274, 3) := dko_19 (dk_t 4 94 [19, 1, 18, 172] dwX10_first_90 rfl rfl)
theorem dX10_first_97 : decode cX10_first 97 = .ok (.ireturn, 1) := dko_172 (dk_t 7 97 [172] dwX10_first_90 rfl rfl)
theorem dwX10_all_0 : dkW cX10_all 0 [27, 155, 0, 8, 27, 5, 164, 0, 7, 19, 1, 18, 172, 42] = true := by decide +kernel
theorem dX10_all_0 : decode cX10_all 0 = .ok (.iload_n 1, 1) := dko_27 dwX10_all_0
theorem dX10_all_1 : decode cX10_all 1 = .ok (.ifCond .lt 8, 3) := dko_155 (dk_t 1 1 [155, 0, 8, 27, 5, 164, 0, 7, 19, 1, 18, 172, 42] dwX10_all_0 rfl rfl)
theorem dX10_all_4 : decode cX10_all 4 = .ok (.iload_n 1, 1) := dko_27 (dk_t 4 4 [27, 5, 164, 0, 7, 19, 1, 18, 172, 42] dwX10_all_0 rfl rfl)
theorem dX10_all_5 : decode cX10_all 5 = .ok (.iconst 2, 1) := dko_5 (dk_t 5 5 [5, 164, 0, 7, 19, 1, 18, 172, 42] dwX10_all_0 rfl rfl)
theorem dX10_all_6 : decode cX10_all 6 = .ok (.if_icmp .le 7, 3) := dko_164 (dk_t 6 6 [164, 0, 7, 19, 1, 18, 172, 42] dwX10_all_0 rfl rfl)
theorem dX10_all_9 : decode cX10_all 9 = .ok (.ldc_w 274, 3) := dko_19 (dk_t 9 9 [19, 1, 18, 172, 42] dwX10_all_0 rfl rfl)
theorem dX10_all_12 : decode cX10_all 12 = .ok (.ireturn, 1) := dko_172 (dk_t 12 12 [172, 42] dwX10_all_0 rfl rfl)
theorem dX10_all_13 : decode cX10_all 13 = .ok (.aload_n 0, 1) := dko_42 (dk_t 13 13 [42] dwX10_all_0 rfl rfl)
theorem dwX10_all_14 : dkW cX10_all 14 [42, 180, 0, 61, 42, 180, 0, 47, 42, 180, 0, 37, 3] = true := by decide +kernel
theorem dX10_all_14 : decode cX10_all 14 = .ok (.aload_n 0, 1) := dko_42 dwX10_all_14
theorem dX10_all_15 : decode cX10_all 15 = .ok (.getfield 61, 3) := dko_180 (dk_t 1 15 [180, 0, 61, 42, 180, 0, 47, 42, 180, 0, 37, 3] dwX10_all_14 rfl rfl)
theorem dX10_all_18 : decode cX10_all 18 = .ok (.aload_n 0, 1) := dko_42 (dk_t 4 18 [42, 180, 0, 47, 42, 180, 0, 37, 3] dwX10_all_14 rfl rfl)
theorem dX10_all_19 : decode cX10_all 19 = .ok (.getfield 47, 3) := dko_180 (dk_t 5 19 [180, 0, 47, 42, 180, 0, 37, 3] dwX10_all_14 rfl rfl)
theorem dX10_all_22 : decode cX10_all 22 = .ok (.aload_n 0, 1) := dko_42 (dk_t 8 22 [42, 180, 0, 37, 3] dwX10_all_14 rfl rfl)
theorem dX10_all_23 : decode cX10_all 23 = .ok (.getfield 37, 3) := dko_180 (dk_t 9 23 [180, 0, 37, 3] dwX10_all_14 rfl rfl)
theorem dX10_all_26 : decode cX10_all 26 = .ok (.iconst 0, 1) := dko_3 (dk_t 12 26 [3] dwX10_all_14 rfl rfl)
theorem dwX10_all_27 : dkW cX10_all 27 [182, 0, 240, 27, 154, 0, 11, 42, 180, 0, 61, 182, 1, 79] = true := by decide +kernel
theorem dX10_all_27 : decode cX10_all 27 = .ok (.invokevirtual 240, 3) := dko_182 dwX10_all_27
theorem dX10_all_30 : decode cX10_all 30 = .ok (.iload_n 1, 1) := dko_27 (dk_t 3 30 [27, 154, 0, 11, 42, 180, 0, 61, 182, 1, 79] dwX10_all_27 rfl rfl)
theorem dX10_all_31 : decode cX10_all 31 = .ok (.ifCond .ne 11, 3) := dko_154 (dk_t 4 31 [154, 0, 11, 42, 180, 0, 61, 182, 1, 79] dwX10_all_27 rfl rfl)
theorem dX10_all_34 : decode cX10_all 34 = .ok (.aload_n 0, 1) := dko_42 (dk_t 7 34 [42, 180, 0, 61, 182, 1, 79] dwX10_all_27 rfl rfl)
theorem dX10_all_35 : decode cX10_all 35 = .ok (.getfield 61, 3) := dko_180 (dk_t 8 35 [180, 0, 61, 182, 1, 79] dwX10_all_27 rfl rfl)
theorem dX10_all_38 : decode cX10_all 38 = .ok (.invokevirtual 335, 3) := dko_182 (dk_t 11 38 [182, 1, 79] dwX10_all_27 rfl rfl)
theorem dwX10_all_41 : dkW cX10_all 41 [172, 42, 180, 0, 61, 182, 0, 244, 61, 28, 2, 160, 0, 5] = true := by decide +kernel
theorem dX10_all_41 : decode cX10_all 41 = .ok (.ireturn, 1) := dko_172 dwX10_all_41
theorem dX10_all_42 : decode cX10_all 42 = .ok (.aload_n 0, 1) := dko_42 (dk_t 1 42 [42, 180, 0, 61, 182, 0, 244, 61, 28, 2, 160, 0, 5] dwX10_all_41 rfl rfl)
theorem dX10_all_43 : decode cX10_all 43 = .ok (.getfield 61, 3) := dko_180 (dk_t 2 43 [180, 0, 61, 182, 0, 244, 61, 28, 2, 160, 0, 5] dwX10_all_41 rfl rfl)
theorem dX10_all_46 : decode cX10_all 46 = .ok (.invokevirtual 244, 3) := dko_182 (dk_t 5 46 [182, 0, 244, 61, 28, 2, 160, 0, 5] dwX10_all_41 rfl rfl)
theorem dX10_all_49 : decode cX10_all 49 = .ok (.istore_n 2, 1) := dko_61 (dk_t 8 49 [61, 28, 2, 160, 0, 5] dwX10_all_41 rfl rfl)
theorem dX10_all_50 : decode cX10_all 50 = .ok (.iload_n 2, 1) := dko_28 (dk_t 9 50 [28, 2, 160, 0, 5] dwX10_all_41 rfl rfl)
theorem dX10_all_51 : decode cX10_all 51 = .ok (.iconst (-1), 1) := dko_2 (dk_t 10 51 [2, 160, 0, 5] dwX10_all_41 rfl rfl)
theorem dX10_all_52 : decode cX10_all 52 = .ok (.if_icmp .ne 5, 3) := dko_160 (dk_t 11 52 [160, 0, 5] dwX10_all_41 rfl rfl)
theorem dwX10_all_55 : dkW cX10_all 55 [2, 172, 27, 4, 160, 0, 14, 42, 180, 0, 61, 28] = true := by decide +kernel
theorem dX10_all_55 : decode cX10_all 55 = .ok (.iconst (-1), 1) := dko_2 dwX10_all_55
theorem dX10_all_56 : decode cX10_all 56 = .ok (.ireturn, 1) := dko_172 (dk_t 1 56 [172, 27, 4, 160, 0, 14, 42, 180, 0, 61, 28] dwX10_all_55 rfl rfl)
theorem dX10_all_57 : decode cX10_all 57 = .ok (.iload_n 1, 1) := dko_27 (dk_t 2 57 [27, 4, 160, 0, 14, 42, 180, 0, 61, 28] dwX10_all_55 rfl rfl)
theorem dX10_all_58 : decode cX10_all 58 = .ok (.iconst 1, 1) := dko_4 (dk_t 3 58 [4, 160, 0, 14, 42, 180, 0, 61, 28] dwX10_all_55 rfl rfl)
theorem dX10_all_59 : decode cX10_all 59 = .ok (.if_icmp .ne 14, 3) := dko_160 (dk_t 4 59 [160, 0, 14, 42, 180, 0, 61, 28] dwX10_all_55 rfl rfl)
theorem dX10_all_62 : decode cX10_all 62 = .ok (.aload_n 0, 1) := dko_42 (dk_t 7 62 [42, 180, 0, 61, 28] dwX10_all_55 rfl rfl)
theorem dX10_all_63 : decode cX10_all 63 = .ok (.getfield 61, 3) := dko_180 (dk_t 8 63 [180, 0, 61, 28] dwX10_all_55 rfl rfl)
theorem dX10_all_66 : decode cX10_all 66 = .ok (.iload_n 2, 1) := dko_28 (dk_t 11 66 [28] dwX10_all_55 rfl rfl)
theorem dwX10_all_67 : dkW cX10_all 67 [182, 1, 45, 167, 0, 11, 42, 180, 0, 61, 28, 182, 0, 147] = true := by decide +kernel
theorem dX10_all_67 : decode cX10_all 67 = .ok (.invokevirtual 301, 3) := dko_182 dwX10_all_67
theorem dX10_all_70 : decode cX10_all 70 = .ok (.goto 11, 3) := dko_167 (dk_t 3 70 [167, 0, 11, 42, 180, 0, 61, 28, 182, 0, 147] dwX10_all_67 rfl rfl)
theorem dX10_all_73 : decode cX10_all 73 = .ok (.aload_n 0, 1) := dko_42 (dk_t 6 73 [42, 180, 0, 61, 28, 182, 0, 147] dwX10_all_67 rfl rfl)
theorem dX10_all_74 : decode cX10_all 74 = .ok (.getfield 61, 3) := dko_180 (dk_t 7 74 [180, 0, 61, 28, 182, 0, 147] dwX10_all_67 rfl rfl)
theorem dX10_all_77 : decode cX10_all 77 = .ok (.iload_n 2, 1) := dko_28 (dk_t 10 77 [28, 182, 0, 147] dwX10_all_67 rfl rfl)
theorem dX10_all_78 : decode cX10_all 78 = .ok (.invokevirtual 147, 3) := dko_182 (dk_t 11 78 [182, 0, 147] dwX10_all_67 rfl rfl)
theorem dwX10_all_81 : dkW cX10_all 81 [172] = true := by decide +kernel
theorem dX10_all_81 : decode cX10_all 81 = .ok (.ireturn, 1) := dko_172 dwX10_all_81
theorem dwX10_verdict_0 : dkW cX10_verdict 0 [27, 5, 160, 0, 11, 42, 180, 0, 91, 182, 1, 82, 172, 42] = true := by decide +kernel
theorem dX10_verdict_0 : decode cX10_verdict 0 = .ok (.iload_n 1, 1) := dko_27 dwX10_verdict_0
theorem dX10_verdict_1 : decode cX10_verdict 1 = .ok (.iconst 2, 1) := dko_5 (dk_t 1 1 [5, 160, 0, 11, 42, 180, 0, 91, 182, 1, 82, 172, 42] dwX10_verdict_0 rfl rfl)
theorem dX10_verdict_2 : decode cX10_verdict 2 = .ok (.if_icmp .ne 11, 3) := dko_160 (dk_t 2 2 [160, 0, 11, 42, 180, 0, 91, 182, 1, 82, 172, 42] dwX10_verdict_0 rfl rfl)
theorem dX10_verdict_5 : decode cX10_verdict 5 = .ok (.aload_n 0, 1) := dko_42 (dk_t 5 5 [42, 180, 0, 91, 182, 1, 82, 172, 42] dwX10_verdict_0 rfl rfl)
theorem dX10_verdict_6 : decode cX10_verdict 6 = .ok (.getfield 91, 3) := dko_180 (dk_t 6 6 [180, 0, 91, 182, 1, 82, 172, 42] dwX10_verdict_0 rfl rfl)
theorem dX10_verdict_9 : decode cX10_verdict 9 = .ok (.invokevirtual 338, 3) := dko_182 (dk_t 9 9 [182, 1, 82, 172, 42] dwX10_verdict_0 rfl rfl)
theorem dX10_verdict_12 : decode cX10_verdict 12 = .ok (.ireturn, 1) := dko_172 (dk_t 12 12 [172, 42] dwX10_verdict_0 rfl rfl)
theorem dX10_verdict_13 : decode cX10_verdict 13 = .ok (.aload_n 0, 1) := dko_42 (dk_t 13 13 [42] dwX10_verdict_0 rfl rfl)
theorem dwX10_verdict_14 : dkW cX10_verdict 14 [180, 0, 91, 182, 1, 85, 154, 0, 7, 19, 1, 18, 172, 27] = true := by decide +kernel
theorem dX10_verdict_14 : decode cX10_verdict 14 = .ok (.getfield 91, 3) := dko_180 dwX10_verdict_14
theorem dX10_verdict_17 : decode cX10_verdict 17 = .ok (.invokevirtual 341, 3) := dko_182 (dk_t 3 17 [182, 1, 85, 154, 0, 7, 19, 1, 18, 172, 27] dwX10_verdict_14 rfl rfl)
theorem dX10_verdict_20 : decode cX10_verdict 20 = .ok (.ifCond .ne 7, 3) := dko_154 (dk_t 6 20 [154, 0, 7, 19, 1, 18, 172, 27] dwX10_verdict_14 rfl rfl)
theorem dX10_verdict_23 : decode cX10_verdict 23 = .ok (.ldc_w 274, 3) := dko_19 (dk_t 9 23 [19, 1, 18, 172, 27] dwX10_verdict_14 rfl rfl)
theorem dX10_verdict_26 : decode cX10_verdict 26 = .ok (.ireturn, 1) := dko_172 (dk_t 12 26 [172, 27] dwX10_verdict_14 rfl rfl)
theorem dX10_verdict_27 : decode cX10_verdict 27 = .ok (.iload_n 1, 1) := dko_27 (dk_t 13 27 [27] dwX10_verdict_14 rfl rfl)
theorem dX10_verdict_28 : decode cX10_verdict 28 = .ok (.lookupswitch 44 #[(0, 28), (1, 36)], 28) := by decide +kernel
theorem dwX10_verdict_56 : dkW cX10_verdict 56 [42, 180, 0, 91, 182, 1, 89, 172, 42, 180, 0, 91] = true := by decide +kernel
theorem dX10_verdict_56 : decode cX10_verdict 56 = .ok (.aload_n 0, 1) := dko_42 dwX10_verdict_56
theorem dX10_verdict_57 : decode cX10_verdict 57 = .ok (.getfield 91, 3) := dko_180 (dk_t 1 57 [180, 0, 91, 182, 1, 89, 172, 42, 180, 0, 91] dwX10_verdict_56 rfl rfl)
theorem dX10_verdict_60 : decode cX10_verdict 60 = .ok (.invokevirtual 345, 3) := dko_182 (dk_t 4 60 [182, 1, 89, 172, 42, 180, 0, 91] dwX10_verdict_56 rfl rfl)
theorem dX10_verdict_63 : decode cX10_verdict 63 = .ok (.ireturn, 1) := dko_172 (dk_t 7 63 [172, 42, 180, 0, 91] dwX10_verdict_56 rfl rfl)
theorem dX10_verdict_64 : decode cX10_verdict 64 = .ok (.aload_n 0, 1) := dko_42 (dk_t 8 64 [42, 180, 0, 91] dwX10_verdict_56 rfl rfl)
theorem dX10_verdict_65 : decode cX10_verdict 65 = .ok (.getfield 91, 3) := dko_180 (dk_t 9 65 [180, 0, 91] dwX10_verdict_56 rfl rfl)
theorem dwX10_verdict_68 : dkW cX10_verdict 68 [182, 1, 91, 172, 19, 1, 18, 172] = true := by decide +kernel
theorem dX10_verdict_68 : decode cX10_verdict 68 = .ok (.invokevirtual 347, 3) := dko_182 dwX10_verdict_68
theorem dX10_verdict_71 : decode cX10_verdict 71 = .ok (.ireturn, 1) := dko_172 (dk_t 3 71 [172, 19, 1, 18, 172] dwX10_verdict_68 rfl rfl)
theorem dX10_verdict_72 : decode cX10_verdict 72 = .ok (.ldc_w 274, 3) := dko_19 (dk_t 4 72 [19, 1, 18, 172] dwX10_verdict_68 rfl rfl)
theorem dX10_verdict_75 : decode cX10_verdict 75 = .ok (.ireturn, 1) := dko_172 (dk_t 7 75 [172] dwX10_verdict_68 rfl rfl)
theorem dwX10_letter_0 : dkW cX10_letter 0 [42, 180, 0, 91, 27, 182, 1, 93, 172] = true := by decide +kernel
theorem dX10_letter_0 : decode cX10_letter 0 = .ok (.aload_n 0, 1) := dko_42 dwX10_letter_0
theorem dX10_letter_1 : decode cX10_letter 1 = .ok (.getfield 91, 3) := dko_180 (dk_t 1 1 [180, 0, 91, 27, 182, 1, 93, 172] dwX10_letter_0 rfl rfl)
theorem dX10_letter_4 : decode cX10_letter 4 = .ok (.iload_n 1, 1) := dko_27 (dk_t 4 4 [27, 182, 1, 93, 172] dwX10_letter_0 rfl rfl)
theorem dX10_letter_5 : decode cX10_letter 5 = .ok (.invokevirtual 349, 3) := dko_182 (dk_t 5 5 [182, 1, 93, 172] dwX10_letter_0 rfl rfl)
theorem dX10_letter_8 : decode cX10_letter 8 = .ok (.ireturn, 1) := dko_172 (dk_t 8 8 [172] dwX10_letter_0 rfl rfl)
theorem dwX10_wouldSet_0 : dkW cX10_wouldSet 0 [42, 27, 28, 29, 21, 4, 182, 0, 210, 54, 5, 21, 5] = true := by decide +kernel
theorem dX10_wouldSet_0 : decode cX10_wouldSet 0 = .ok (.aload_n 0, 1) := dko_42 dwX10_wouldSet_0
theorem dX10_wouldSet_1 : decode cX10_wouldSet 1 = .ok (.iload_n 1, 1) := dko_27 (dk_t 1 1 [27, 28, 29, 21, 4, 182, 0, 210, 54, 5, 21, 5] dwX10_wouldSet_0 rfl rfl)
theorem dX10_wouldSet_2 : decode cX10_wouldSet 2 = .ok (.iload_n 2, 1) := dko_28 (dk_t 2 2 [28, 29, 21, 4, 182, 0, 210, 54, 5, 21, 5] dwX10_wouldSet_0 rfl rfl)
theorem dX10_wouldSet_3 : decode cX10_wouldSet 3 = .ok (.iload_n 3, 1) := dko_29 (dk_t 3 3 [29, 21, 4, 182, 0, 210, 54, 5, 21, 5] dwX10_wouldSet_0 rfl rfl)
theorem dX10_wouldSet_4 : decode cX10_wouldSet 4 = .ok (.iload 4, 2) := dko_21 (dk_t 4 4 [21, 4, 182, 0, 210, 54, 5, 21, 5] dwX10_wouldSet_0 rfl rfl)
theorem dX10_wouldSet_6 : decode cX10_wouldSet 6 = .ok (.invokevirtual 210, 3) := dko_182 (dk_t 6 6 [182, 0, 210, 54, 5, 21, 5] dwX10_wouldSet_0 rfl rfl)
theorem dX10_wouldSet_9 : decode cX10_wouldSet 9 = .ok (.istore 5, 2) := dko_54 (dk_t 9 9 [54, 5, 21, 5] dwX10_wouldSet_0 rfl rfl)
theorem dX10_wouldSet_11 : decode cX10_wouldSet 11 = .ok (.iload 5, 2) := dko_21 (dk_t 11 11 [21, 5] dwX10_wouldSet_0 rfl rfl)
theorem dwX10_wouldSet_13 : dkW cX10_wouldSet 13 [156, 0, 8, 21, 5, 167, 0, 7, 42, 182, 1, 96, 172] = true := by decide +kernel
theorem dX10_wouldSet_13 : decode cX10_wouldSet 13 = .ok (.ifCond .ge 8, 3) := dko_156 dwX10_wouldSet_13
theorem dX10_wouldSet_16 : decode cX10_wouldSet 16 = .ok (.iload 5, 2) := dko_21 (dk_t 3 16 [21, 5, 167, 0, 7, 42, 182, 1, 96, 172] dwX10_wouldSet_13 rfl rfl)
theorem dX10_wouldSet_18 : decode cX10_wouldSet 18 = .ok (.goto 7, 3) := dko_167 (dk_t 5 18 [167, 0, 7, 42, 182, 1, 96, 172] dwX10_wouldSet_13 rfl rfl)
theorem dX10_wouldSet_21 : decode cX10_wouldSet 21 = .ok (.aload_n 0, 1) := dko_42 (dk_t 8 21 [42, 182, 1, 96, 172] dwX10_wouldSet_13 rfl rfl)
theorem dX10_wouldSet_22 : decode cX10_wouldSet 22 = .ok (.invokevirtual 352, 3) := dko_182 (dk_t 9 22 [182, 1, 96, 172] dwX10_wouldSet_13 rfl rfl)
theorem dX10_wouldSet_25 : decode cX10_wouldSet 25 = .ok (.ireturn, 1) := dko_172 (dk_t 12 25 [172] dwX10_wouldSet_13 rfl rfl)
theorem dwX10_wouldCut_0 : dkW cX10_wouldCut 0 [42, 180, 0, 37, 27, 28, 182, 0, 191, 154, 0, 5, 2, 172] = true := by decide +kernel
theorem dX10_wouldCut_0 : decode cX10_wouldCut 0 = .ok (.aload_n 0, 1) := dko_42 dwX10_wouldCut_0
theorem dX10_wouldCut_1 : decode cX10_wouldCut 1 = .ok (.getfield 37, 3) := dko_180 (dk_t 1 1 [180, 0, 37, 27, 28, 182, 0, 191, 154, 0, 5, 2, 172] dwX10_wouldCut_0 rfl rfl)
theorem dX10_wouldCut_4 : decode cX10_wouldCut 4 = .ok (.iload_n 1, 1) := dko_27 (dk_t 4 4 [27, 28, 182, 0, 191, 154, 0, 5, 2, 172] dwX10_wouldCut_0 rfl rfl)
theorem dX10_wouldCut_5 : decode cX10_wouldCut 5 = .ok (.iload_n 2, 1) := dko_28 (dk_t 5 5 [28, 182, 0, 191, 154, 0, 5, 2, 172] dwX10_wouldCut_0 rfl rfl)
theorem dX10_wouldCut_6 : decode cX10_wouldCut 6 = .ok (.invokevirtual 191, 3) := dko_182 (dk_t 6 6 [182, 0, 191, 154, 0, 5, 2, 172] dwX10_wouldCut_0 rfl rfl)
theorem dX10_wouldCut_9 : decode cX10_wouldCut 9 = .ok (.ifCond .ne 5, 3) := dko_154 (dk_t 9 9 [154, 0, 5, 2, 172] dwX10_wouldCut_0 rfl rfl)
theorem dX10_wouldCut_12 : decode cX10_wouldCut 12 = .ok (.iconst (-1), 1) := dko_2 (dk_t 12 12 [2, 172] dwX10_wouldCut_0 rfl rfl)
theorem dX10_wouldCut_13 : decode cX10_wouldCut 13 = .ok (.ireturn, 1) := dko_172 (dk_t 13 13 [172] dwX10_wouldCut_0 rfl rfl)
theorem dwX10_wouldCut_14 : dkW cX10_wouldCut 14 [42, 180, 0, 44, 42, 180, 0, 37, 182, 0, 195, 42] = true := by decide +kernel
theorem dX10_wouldCut_14 : decode cX10_wouldCut 14 = .ok (.aload_n 0, 1) := dko_42 dwX10_wouldCut_14
theorem dX10_wouldCut_15 : decode cX10_wouldCut 15 = .ok (.getfield 44, 3) := dko_180 (dk_t 1 15 [180, 0, 44, 42, 180, 0, 37, 182, 0, 195, 42] dwX10_wouldCut_14 rfl rfl)
theorem dX10_wouldCut_18 : decode cX10_wouldCut 18 = .ok (.aload_n 0, 1) := dko_42 (dk_t 4 18 [42, 180, 0, 37, 182, 0, 195, 42] dwX10_wouldCut_14 rfl rfl)
theorem dX10_wouldCut_19 : decode cX10_wouldCut 19 = .ok (.getfield 37, 3) := dko_180 (dk_t 5 19 [180, 0, 37, 182, 0, 195, 42] dwX10_wouldCut_14 rfl rfl)
theorem dX10_wouldCut_22 : decode cX10_wouldCut 22 = .ok (.invokevirtual 195, 3) := dko_182 (dk_t 8 22 [182, 0, 195, 42] dwX10_wouldCut_14 rfl rfl)
theorem dX10_wouldCut_25 : decode cX10_wouldCut 25 = .ok (.aload_n 0, 1) := dko_42 (dk_t 11 25 [42] dwX10_wouldCut_14 rfl rfl)
theorem dwX10_wouldCut_26 : dkW cX10_wouldCut 26 [180, 0, 77, 42, 180, 0, 44, 42, 180, 0, 30, 27, 28] = true := by decide +kernel
theorem dX10_wouldCut_26 : decode cX10_wouldCut 26 = .ok (.getfield 77, 3) := dko_180 dwX10_wouldCut_26
theorem dX10_wouldCut_29 : decode cX10_wouldCut 29 = .ok (.aload_n 0, 1) := dko_42 (dk_t 3 29 [42, 180, 0, 44, 42, 180, 0, 30, 27, 28] dwX10_wouldCut_26 rfl rfl)
theorem dX10_wouldCut_30 : decode cX10_wouldCut 30 = .ok (.getfield 44, 3) := dko_180 (dk_t 4 30 [180, 0, 44, 42, 180, 0, 30, 27, 28] dwX10_wouldCut_26 rfl rfl)
theorem dX10_wouldCut_33 : decode cX10_wouldCut 33 = .ok (.aload_n 0, 1) := dko_42 (dk_t 7 33 [42, 180, 0, 30, 27, 28] dwX10_wouldCut_26 rfl rfl)
theorem dX10_wouldCut_34 : decode cX10_wouldCut 34 = .ok (.getfield 30, 3) := dko_180 (dk_t 8 34 [180, 0, 30, 27, 28] dwX10_wouldCut_26 rfl rfl)
theorem dX10_wouldCut_37 : decode cX10_wouldCut 37 = .ok (.iload_n 1, 1) := dko_27 (dk_t 11 37 [27, 28] dwX10_wouldCut_26 rfl rfl)
theorem dX10_wouldCut_38 : decode cX10_wouldCut 38 = .ok (.iload_n 2, 1) := dko_28 (dk_t 12 38 [28] dwX10_wouldCut_26 rfl rfl)
theorem dwX10_wouldCut_39 : dkW cX10_wouldCut 39 [182, 0, 214, 29] = true := by decide +kernel
theorem dX10_wouldCut_39 : decode cX10_wouldCut 39 = .ok (.invokevirtual 214, 3) := dko_182 dwX10_wouldCut_39
theorem dX10_wouldCut_42 : decode cX10_wouldCut 42 = .ok (.iload_n 3, 1) := dko_29 (dk_t 3 42 [29] dwX10_wouldCut_39 rfl rfl)
theorem dX10_wouldCut_43 : decode cX10_wouldCut 43 = .ok (.tableswitch 58 0 2 #[25, 41, 53], 25) := by decide +kernel
theorem dwX10_wouldCut_68 : dkW cX10_wouldCut 68 [42, 180, 0, 37, 182, 0, 222, 42, 180, 0, 44, 182, 0, 222] = true := by decide +kernel
theorem dX10_wouldCut_68 : decode cX10_wouldCut 68 = .ok (.aload_n 0, 1) := dko_42 dwX10_wouldCut_68
theorem dX10_wouldCut_69 : decode cX10_wouldCut 69 = .ok (.getfield 37, 3) := dko_180 (dk_t 1 69 [180, 0, 37, 182, 0, 222, 42, 180, 0, 44, 182, 0, 222] dwX10_wouldCut_68 rfl rfl)
theorem dX10_wouldCut_72 : decode cX10_wouldCut 72 = .ok (.invokevirtual 222, 3) := dko_182 (dk_t 4 72 [182, 0, 222, 42, 180, 0, 44, 182, 0, 222] dwX10_wouldCut_68 rfl rfl)
theorem dX10_wouldCut_75 : decode cX10_wouldCut 75 = .ok (.aload_n 0, 1) := dko_42 (dk_t 7 75 [42, 180, 0, 44, 182, 0, 222] dwX10_wouldCut_68 rfl rfl)
theorem dX10_wouldCut_76 : decode cX10_wouldCut 76 = .ok (.getfield 44, 3) := dko_180 (dk_t 8 76 [180, 0, 44, 182, 0, 222] dwX10_wouldCut_68 rfl rfl)
theorem dX10_wouldCut_79 : decode cX10_wouldCut 79 = .ok (.invokevirtual 222, 3) := dko_182 (dk_t 11 79 [182, 0, 222] dwX10_wouldCut_68 rfl rfl)
theorem dwX10_wouldCut_82 : dkW cX10_wouldCut 82 [100, 172, 42, 180, 0, 44, 42, 180, 0, 37, 182, 1, 99, 172] = true := by decide +kernel
theorem dX10_wouldCut_82 : decode cX10_wouldCut 82 = .ok (.isub, 1) := dko_100 dwX10_wouldCut_82
theorem dX10_wouldCut_83 : decode cX10_wouldCut 83 = .ok (.ireturn, 1) := dko_172 (dk_t 1 83 [172, 42, 180, 0, 44, 42, 180, 0, 37, 182, 1, 99, 172] dwX10_wouldCut_82 rfl rfl)
theorem dX10_wouldCut_84 : decode cX10_wouldCut 84 = .ok (.aload_n 0, 1) := dko_42 (dk_t 2 84 [42, 180, 0, 44, 42, 180, 0, 37, 182, 1, 99, 172] dwX10_wouldCut_82 rfl rfl)
theorem dX10_wouldCut_85 : decode cX10_wouldCut 85 = .ok (.getfield 44, 3) := dko_180 (dk_t 3 85 [180, 0, 44, 42, 180, 0, 37, 182, 1, 99, 172] dwX10_wouldCut_82 rfl rfl)
theorem dX10_wouldCut_88 : decode cX10_wouldCut 88 = .ok (.aload_n 0, 1) := dko_42 (dk_t 6 88 [42, 180, 0, 37, 182, 1, 99, 172] dwX10_wouldCut_82 rfl rfl)
theorem dX10_wouldCut_89 : decode cX10_wouldCut 89 = .ok (.getfield 37, 3) := dko_180 (dk_t 7 89 [180, 0, 37, 182, 1, 99, 172] dwX10_wouldCut_82 rfl rfl)
theorem dX10_wouldCut_92 : decode cX10_wouldCut 92 = .ok (.invokevirtual 355, 3) := dko_182 (dk_t 10 92 [182, 1, 99, 172] dwX10_wouldCut_82 rfl rfl)
theorem dX10_wouldCut_95 : decode cX10_wouldCut 95 = .ok (.ireturn, 1) := dko_172 (dk_t 13 95 [172] dwX10_wouldCut_82 rfl rfl)
theorem dwX10_wouldCut_96 : dkW cX10_wouldCut 96 [42, 182, 1, 96, 172, 2, 172] = true := by decide +kernel
theorem dX10_wouldCut_96 : decode cX10_wouldCut 96 = .ok (.aload_n 0, 1) := dko_42 dwX10_wouldCut_96
theorem dX10_wouldCut_97 : decode cX10_wouldCut 97 = .ok (.invokevirtual 352, 3) := dko_182 (dk_t 1 97 [182, 1, 96, 172, 2, 172] dwX10_wouldCut_96 rfl rfl)
theorem dX10_wouldCut_100 : decode cX10_wouldCut 100 = .ok (.ireturn, 1) := dko_172 (dk_t 4 100 [172, 2, 172] dwX10_wouldCut_96 rfl rfl)
theorem dX10_wouldCut_101 : decode cX10_wouldCut 101 = .ok (.iconst (-1), 1) := dko_2 (dk_t 5 101 [2, 172] dwX10_wouldCut_96 rfl rfl)
theorem dX10_wouldCut_102 : decode cX10_wouldCut 102 = .ok (.ireturn, 1) := dko_172 (dk_t 6 102 [172] dwX10_wouldCut_96 rfl rfl)
theorem dwX10_leans_0 : dkW cX10_leans 0 [42, 180, 0, 37, 27, 28, 182, 0, 191, 154, 0, 5, 2, 172] = true := by decide +kernel
theorem dX10_leans_0 : decode cX10_leans 0 = .ok (.aload_n 0, 1) := dko_42 dwX10_leans_0
theorem dX10_leans_1 : decode cX10_leans 1 = .ok (.getfield 37, 3) := dko_180 (dk_t 1 1 [180, 0, 37, 27, 28, 182, 0, 191, 154, 0, 5, 2, 172] dwX10_leans_0 rfl rfl)
theorem dX10_leans_4 : decode cX10_leans 4 = .ok (.iload_n 1, 1) := dko_27 (dk_t 4 4 [27, 28, 182, 0, 191, 154, 0, 5, 2, 172] dwX10_leans_0 rfl rfl)
theorem dX10_leans_5 : decode cX10_leans 5 = .ok (.iload_n 2, 1) := dko_28 (dk_t 5 5 [28, 182, 0, 191, 154, 0, 5, 2, 172] dwX10_leans_0 rfl rfl)
theorem dX10_leans_6 : decode cX10_leans 6 = .ok (.invokevirtual 191, 3) := dko_182 (dk_t 6 6 [182, 0, 191, 154, 0, 5, 2, 172] dwX10_leans_0 rfl rfl)
theorem dX10_leans_9 : decode cX10_leans 9 = .ok (.ifCond .ne 5, 3) := dko_154 (dk_t 9 9 [154, 0, 5, 2, 172] dwX10_leans_0 rfl rfl)
theorem dX10_leans_12 : decode cX10_leans 12 = .ok (.iconst (-1), 1) := dko_2 (dk_t 12 12 [2, 172] dwX10_leans_0 rfl rfl)
theorem dX10_leans_13 : decode cX10_leans 13 = .ok (.ireturn, 1) := dko_172 (dk_t 13 13 [172] dwX10_leans_0 rfl rfl)
theorem dwX10_leans_14 : dkW cX10_leans 14 [29] = true := by decide +kernel
theorem dX10_leans_14 : decode cX10_leans 14 = .ok (.iload_n 3, 1) := dko_29 dwX10_leans_14
theorem dX10_leans_15 : decode cX10_leans 15 = .ok (.lookupswitch 61 #[(0, 25), (1, 43)], 25) := by decide +kernel
theorem dwX10_leans_40 : dkW cX10_leans 40 [42, 180, 0, 84, 42, 180, 0, 37, 42, 180, 0, 30, 27, 28] = true := by decide +kernel
theorem dX10_leans_40 : decode cX10_leans 40 = .ok (.aload_n 0, 1) := dko_42 dwX10_leans_40
theorem dX10_leans_41 : decode cX10_leans 41 = .ok (.getfield 84, 3) := dko_180 (dk_t 1 41 [180, 0, 84, 42, 180, 0, 37, 42, 180, 0, 30, 27, 28] dwX10_leans_40 rfl rfl)
theorem dX10_leans_44 : decode cX10_leans 44 = .ok (.aload_n 0, 1) := dko_42 (dk_t 4 44 [42, 180, 0, 37, 42, 180, 0, 30, 27, 28] dwX10_leans_40 rfl rfl)
theorem dX10_leans_45 : decode cX10_leans 45 = .ok (.getfield 37, 3) := dko_180 (dk_t 5 45 [180, 0, 37, 42, 180, 0, 30, 27, 28] dwX10_leans_40 rfl rfl)
theorem dX10_leans_48 : decode cX10_leans 48 = .ok (.aload_n 0, 1) := dko_42 (dk_t 8 48 [42, 180, 0, 30, 27, 28] dwX10_leans_40 rfl rfl)
theorem dX10_leans_49 : decode cX10_leans 49 = .ok (.getfield 30, 3) := dko_180 (dk_t 9 49 [180, 0, 30, 27, 28] dwX10_leans_40 rfl rfl)
theorem dX10_leans_52 : decode cX10_leans 52 = .ok (.iload_n 1, 1) := dko_27 (dk_t 12 52 [27, 28] dwX10_leans_40 rfl rfl)
theorem dX10_leans_53 : decode cX10_leans 53 = .ok (.iload_n 2, 1) := dko_28 (dk_t 13 53 [28] dwX10_leans_40 rfl rfl)
theorem dwX10_leans_54 : dkW cX10_leans 54 [182, 1, 102, 172, 42, 180, 0, 84, 42, 180, 0, 37, 42] = true := by decide +kernel
theorem dX10_leans_54 : decode cX10_leans 54 = .ok (.invokevirtual 358, 3) := dko_182 dwX10_leans_54
theorem dX10_leans_57 : decode cX10_leans 57 = .ok (.ireturn, 1) := dko_172 (dk_t 3 57 [172, 42, 180, 0, 84, 42, 180, 0, 37, 42] dwX10_leans_54 rfl rfl)
theorem dX10_leans_58 : decode cX10_leans 58 = .ok (.aload_n 0, 1) := dko_42 (dk_t 4 58 [42, 180, 0, 84, 42, 180, 0, 37, 42] dwX10_leans_54 rfl rfl)
theorem dX10_leans_59 : decode cX10_leans 59 = .ok (.getfield 84, 3) := dko_180 (dk_t 5 59 [180, 0, 84, 42, 180, 0, 37, 42] dwX10_leans_54 rfl rfl)
theorem dX10_leans_62 : decode cX10_leans 62 = .ok (.aload_n 0, 1) := dko_42 (dk_t 8 62 [42, 180, 0, 37, 42] dwX10_leans_54 rfl rfl)
theorem dX10_leans_63 : decode cX10_leans 63 = .ok (.getfield 37, 3) := dko_180 (dk_t 9 63 [180, 0, 37, 42] dwX10_leans_54 rfl rfl)
theorem dX10_leans_66 : decode cX10_leans 66 = .ok (.aload_n 0, 1) := dko_42 (dk_t 12 66 [42] dwX10_leans_54 rfl rfl)
theorem dwX10_leans_67 : dkW cX10_leans 67 [180, 0, 30, 27, 28, 182, 1, 106, 172, 2, 172] = true := by decide +kernel
theorem dX10_leans_67 : decode cX10_leans 67 = .ok (.getfield 30, 3) := dko_180 dwX10_leans_67
theorem dX10_leans_70 : decode cX10_leans 70 = .ok (.iload_n 1, 1) := dko_27 (dk_t 3 70 [27, 28, 182, 1, 106, 172, 2, 172] dwX10_leans_67 rfl rfl)
theorem dX10_leans_71 : decode cX10_leans 71 = .ok (.iload_n 2, 1) := dko_28 (dk_t 4 71 [28, 182, 1, 106, 172, 2, 172] dwX10_leans_67 rfl rfl)
theorem dX10_leans_72 : decode cX10_leans 72 = .ok (.invokevirtual 362, 3) := dko_182 (dk_t 5 72 [182, 1, 106, 172, 2, 172] dwX10_leans_67 rfl rfl)
theorem dX10_leans_75 : decode cX10_leans 75 = .ok (.ireturn, 1) := dko_172 (dk_t 8 75 [172, 2, 172] dwX10_leans_67 rfl rfl)
theorem dX10_leans_76 : decode cX10_leans 76 = .ok (.iconst (-1), 1) := dko_2 (dk_t 9 76 [2, 172] dwX10_leans_67 rfl rfl)
theorem dX10_leans_77 : decode cX10_leans 77 = .ok (.ireturn, 1) := dko_172 (dk_t 10 77 [172] dwX10_leans_67 rfl rfl)
theorem dwX10_least_0 : dkW cX10_least 0 [42, 180, 0, 37, 27, 28, 182, 0, 191, 153, 0, 10, 29] = true := by decide +kernel
theorem dX10_least_0 : decode cX10_least 0 = .ok (.aload_n 0, 1) := dko_42 dwX10_least_0
theorem dX10_least_1 : decode cX10_least 1 = .ok (.getfield 37, 3) := dko_180 (dk_t 1 1 [180, 0, 37, 27, 28, 182, 0, 191, 153, 0, 10, 29] dwX10_least_0 rfl rfl)
theorem dX10_least_4 : decode cX10_least 4 = .ok (.iload_n 1, 1) := dko_27 (dk_t 4 4 [27, 28, 182, 0, 191, 153, 0, 10, 29] dwX10_least_0 rfl rfl)
theorem dX10_least_5 : decode cX10_least 5 = .ok (.iload_n 2, 1) := dko_28 (dk_t 5 5 [28, 182, 0, 191, 153, 0, 10, 29] dwX10_least_0 rfl rfl)
theorem dX10_least_6 : decode cX10_least 6 = .ok (.invokevirtual 191, 3) := dko_182 (dk_t 6 6 [182, 0, 191, 153, 0, 10, 29] dwX10_least_0 rfl rfl)
theorem dX10_least_9 : decode cX10_least 9 = .ok (.ifCond .eq 10, 3) := dko_153 (dk_t 9 9 [153, 0, 10, 29] dwX10_least_0 rfl rfl)
theorem dX10_least_12 : decode cX10_least 12 = .ok (.iload_n 3, 1) := dko_29 (dk_t 12 12 [29] dwX10_least_0 rfl rfl)
theorem dwX10_least_13 : dkW cX10_least 13 [184, 0, 255, 154, 0, 7, 19, 1, 18, 172, 42, 180, 0, 37] = true := by decide +kernel
theorem dX10_least_13 : decode cX10_least 13 = .ok (.invokestatic 255, 3) := dko_184 dwX10_least_13
theorem dX10_least_16 : decode cX10_least 16 = .ok (.ifCond .ne 7, 3) := dko_154 (dk_t 3 16 [154, 0, 7, 19, 1, 18, 172, 42, 180, 0, 37] dwX10_least_13 rfl rfl)
theorem dX10_least_19 : decode cX10_least 19 = .ok (.ldc_w 274, 3) := dko_19 (dk_t 6 19 [19, 1, 18, 172, 42, 180, 0, 37] dwX10_least_13 rfl rfl)
theorem dX10_least_22 : decode cX10_least 22 = .ok (.ireturn, 1) := dko_172 (dk_t 9 22 [172, 42, 180, 0, 37] dwX10_least_13 rfl rfl)
theorem dX10_least_23 : decode cX10_least 23 = .ok (.aload_n 0, 1) := dko_42 (dk_t 10 23 [42, 180, 0, 37] dwX10_least_13 rfl rfl)
theorem dX10_least_24 : decode cX10_least 24 = .ok (.getfield 37, 3) := dko_180 (dk_t 11 24 [180, 0, 37] dwX10_least_13 rfl rfl)
theorem dwX10_least_27 : dkW cX10_least 27 [27, 28, 29, 182, 1, 9, 54, 4, 42, 180, 0, 44, 42] = true := by decide +kernel
theorem dX10_least_27 : decode cX10_least 27 = .ok (.iload_n 1, 1) := dko_27 dwX10_least_27
theorem dX10_least_28 : decode cX10_least 28 = .ok (.iload_n 2, 1) := dko_28 (dk_t 1 28 [28, 29, 182, 1, 9, 54, 4, 42, 180, 0, 44, 42] dwX10_least_27 rfl rfl)
theorem dX10_least_29 : decode cX10_least 29 = .ok (.iload_n 3, 1) := dko_29 (dk_t 2 29 [29, 182, 1, 9, 54, 4, 42, 180, 0, 44, 42] dwX10_least_27 rfl rfl)
theorem dX10_least_30 : decode cX10_least 30 = .ok (.invokevirtual 265, 3) := dko_182 (dk_t 3 30 [182, 1, 9, 54, 4, 42, 180, 0, 44, 42] dwX10_least_27 rfl rfl)
theorem dX10_least_33 : decode cX10_least 33 = .ok (.istore 4, 2) := dko_54 (dk_t 6 33 [54, 4, 42, 180, 0, 44, 42] dwX10_least_27 rfl rfl)
theorem dX10_least_35 : decode cX10_least 35 = .ok (.aload_n 0, 1) := dko_42 (dk_t 8 35 [42, 180, 0, 44, 42] dwX10_least_27 rfl rfl)
theorem dX10_least_36 : decode cX10_least 36 = .ok (.getfield 44, 3) := dko_180 (dk_t 9 36 [180, 0, 44, 42] dwX10_least_27 rfl rfl)
theorem dX10_least_39 : decode cX10_least 39 = .ok (.aload_n 0, 1) := dko_42 (dk_t 12 39 [42] dwX10_least_27 rfl rfl)
theorem dwX10_least_40 : dkW cX10_least 40 [180, 0, 37, 182, 0, 195, 16, 157, 54, 5, 21, 5, 16, 99] = true := by decide +kernel
theorem dX10_least_40 : decode cX10_least 40 = .ok (.getfield 37, 3) := dko_180 dwX10_least_40
theorem dX10_least_43 : decode cX10_least 43 = .ok (.invokevirtual 195, 3) := dko_182 (dk_t 3 43 [182, 0, 195, 16, 157, 54, 5, 21, 5, 16, 99] dwX10_least_40 rfl rfl)
theorem dX10_least_46 : decode cX10_least 46 = .ok (.bipush (-99), 2) := dko_16 (dk_t 6 46 [16, 157, 54, 5, 21, 5, 16, 99] dwX10_least_40 rfl rfl)
theorem dX10_least_48 : decode cX10_least 48 = .ok (.istore 5, 2) := dko_54 (dk_t 8 48 [54, 5, 21, 5, 16, 99] dwX10_least_40 rfl rfl)
theorem dX10_least_50 : decode cX10_least 50 = .ok (.iload 5, 2) := dko_21 (dk_t 10 50 [21, 5, 16, 99] dwX10_least_40 rfl rfl)
theorem dX10_least_52 : decode cX10_least 52 = .ok (.bipush 99, 2) := dko_16 (dk_t 12 52 [16, 99] dwX10_least_40 rfl rfl)
theorem dwX10_least_54 : dkW cX10_least 54 [163, 0, 40, 42, 180, 0, 44, 27, 28, 29, 21, 5] = true := by decide +kernel
theorem dX10_least_54 : decode cX10_least 54 = .ok (.if_icmp .gt 40, 3) := dko_163 dwX10_least_54
theorem dX10_least_57 : decode cX10_least 57 = .ok (.aload_n 0, 1) := dko_42 (dk_t 3 57 [42, 180, 0, 44, 27, 28, 29, 21, 5] dwX10_least_54 rfl rfl)
theorem dX10_least_58 : decode cX10_least 58 = .ok (.getfield 44, 3) := dko_180 (dk_t 4 58 [180, 0, 44, 27, 28, 29, 21, 5] dwX10_least_54 rfl rfl)
theorem dX10_least_61 : decode cX10_least 61 = .ok (.iload_n 1, 1) := dko_27 (dk_t 7 61 [27, 28, 29, 21, 5] dwX10_least_54 rfl rfl)
theorem dX10_least_62 : decode cX10_least 62 = .ok (.iload_n 2, 1) := dko_28 (dk_t 8 62 [28, 29, 21, 5] dwX10_least_54 rfl rfl)
theorem dX10_least_63 : decode cX10_least 63 = .ok (.iload_n 3, 1) := dko_29 (dk_t 9 63 [29, 21, 5] dwX10_least_54 rfl rfl)
theorem dX10_least_64 : decode cX10_least 64 = .ok (.iload 5, 2) := dko_21 (dk_t 10 64 [21, 5] dwX10_least_54 rfl rfl)
theorem dwX10_least_66 : dkW cX10_least 66 [182, 0, 203, 21, 5, 21, 4, 159, 0, 15, 42, 27, 28] = true := by decide +kernel
theorem dX10_least_66 : decode cX10_least 66 = .ok (.invokevirtual 203, 3) := dko_182 dwX10_least_66
theorem dX10_least_69 : decode cX10_least 69 = .ok (.iload 5, 2) := dko_21 (dk_t 3 69 [21, 5, 21, 4, 159, 0, 15, 42, 27, 28] dwX10_least_66 rfl rfl)
theorem dX10_least_71 : decode cX10_least 71 = .ok (.iload 4, 2) := dko_21 (dk_t 5 71 [21, 4, 159, 0, 15, 42, 27, 28] dwX10_least_66 rfl rfl)
theorem dX10_least_73 : decode cX10_least 73 = .ok (.if_icmp .eq 15, 3) := dko_159 (dk_t 7 73 [159, 0, 15, 42, 27, 28] dwX10_least_66 rfl rfl)
theorem dX10_least_76 : decode cX10_least 76 = .ok (.aload_n 0, 1) := dko_42 (dk_t 10 76 [42, 27, 28] dwX10_least_66 rfl rfl)
theorem dX10_least_77 : decode cX10_least 77 = .ok (.iload_n 1, 1) := dko_27 (dk_t 11 77 [27, 28] dwX10_least_66 rfl rfl)
theorem dX10_least_78 : decode cX10_least 78 = .ok (.iload_n 2, 1) := dko_28 (dk_t 12 78 [28] dwX10_least_66 rfl rfl)
theorem dwX10_least_79 : dkW cX10_least 79 [182, 1, 109, 153, 0, 6, 21, 5, 172, 132, 5, 1] = true := by decide +kernel
theorem dX10_least_79 : decode cX10_least 79 = .ok (.invokevirtual 365, 3) := dko_182 dwX10_least_79
theorem dX10_least_82 : decode cX10_least 82 = .ok (.ifCond .eq 6, 3) := dko_153 (dk_t 3 82 [153, 0, 6, 21, 5, 172, 132, 5, 1] dwX10_least_79 rfl rfl)
theorem dX10_least_85 : decode cX10_least 85 = .ok (.iload 5, 2) := dko_21 (dk_t 6 85 [21, 5, 172, 132, 5, 1] dwX10_least_79 rfl rfl)
theorem dX10_least_87 : decode cX10_least 87 = .ok (.ireturn, 1) := dko_172 (dk_t 8 87 [172, 132, 5, 1] dwX10_least_79 rfl rfl)
theorem dX10_least_88 : decode cX10_least 88 = .ok (.iinc 5 1, 3) := dko_132 (dk_t 9 88 [132, 5, 1] dwX10_least_79 rfl rfl)
theorem dwX10_least_91 : dkW cX10_least 91 [167, 255, 215, 19, 1, 18, 172] = true := by decide +kernel
theorem dX10_least_91 : decode cX10_least 91 = .ok (.goto (-41), 3) := dko_167 dwX10_least_91
theorem dX10_least_94 : decode cX10_least 94 = .ok (.ldc_w 274, 3) := dko_19 (dk_t 3 94 [19, 1, 18, 172] dwX10_least_91 rfl rfl)
theorem dX10_least_97 : decode cX10_least 97 = .ok (.ireturn, 1) := dko_172 (dk_t 6 97 [172] dwX10_least_91 rfl rfl)
theorem dwX10_depth_0 : dkW cX10_depth 0 [42, 180, 0, 30, 27, 182, 0, 159, 78, 45, 198, 0, 26, 45] = true := by decide +kernel
theorem dX10_depth_0 : decode cX10_depth 0 = .ok (.aload_n 0, 1) := dko_42 dwX10_depth_0
theorem dX10_depth_1 : decode cX10_depth 1 = .ok (.getfield 30, 3) := dko_180 (dk_t 1 1 [180, 0, 30, 27, 182, 0, 159, 78, 45, 198, 0, 26, 45] dwX10_depth_0 rfl rfl)
theorem dX10_depth_4 : decode cX10_depth 4 = .ok (.iload_n 1, 1) := dko_27 (dk_t 4 4 [27, 182, 0, 159, 78, 45, 198, 0, 26, 45] dwX10_depth_0 rfl rfl)
theorem dX10_depth_5 : decode cX10_depth 5 = .ok (.invokevirtual 159, 3) := dko_182 (dk_t 5 5 [182, 0, 159, 78, 45, 198, 0, 26, 45] dwX10_depth_0 rfl rfl)
theorem dX10_depth_8 : decode cX10_depth 8 = .ok (.astore_n 3, 1) := dko_78 (dk_t 8 8 [78, 45, 198, 0, 26, 45] dwX10_depth_0 rfl rfl)
theorem dX10_depth_9 : decode cX10_depth 9 = .ok (.aload_n 3, 1) := dko_45 (dk_t 9 9 [45, 198, 0, 26, 45] dwX10_depth_0 rfl rfl)
theorem dX10_depth_10 : decode cX10_depth 10 = .ok (.ifnull 26, 3) := dko_198 (dk_t 10 10 [198, 0, 26, 45] dwX10_depth_0 rfl rfl)
theorem dX10_depth_13 : decode cX10_depth 13 = .ok (.aload_n 3, 1) := dko_45 (dk_t 13 13 [45] dwX10_depth_0 rfl rfl)
theorem dwX10_depth_14 : dkW cX10_depth 14 [180, 0, 140, 8, 160, 0, 18, 42, 180, 0, 37, 45] = true := by decide +kernel
theorem dX10_depth_14 : decode cX10_depth 14 = .ok (.getfield 140, 3) := dko_180 dwX10_depth_14
theorem dX10_depth_17 : decode cX10_depth 17 = .ok (.iconst 5, 1) := dko_8 (dk_t 3 17 [8, 160, 0, 18, 42, 180, 0, 37, 45] dwX10_depth_14 rfl rfl)
theorem dX10_depth_18 : decode cX10_depth 18 = .ok (.if_icmp .ne 18, 3) := dko_160 (dk_t 4 18 [160, 0, 18, 42, 180, 0, 37, 45] dwX10_depth_14 rfl rfl)
theorem dX10_depth_21 : decode cX10_depth 21 = .ok (.aload_n 0, 1) := dko_42 (dk_t 7 21 [42, 180, 0, 37, 45] dwX10_depth_14 rfl rfl)
theorem dX10_depth_22 : decode cX10_depth 22 = .ok (.getfield 37, 3) := dko_180 (dk_t 8 22 [180, 0, 37, 45] dwX10_depth_14 rfl rfl)
theorem dX10_depth_25 : decode cX10_depth 25 = .ok (.aload_n 3, 1) := dko_45 (dk_t 11 25 [45] dwX10_depth_14 rfl rfl)
theorem dwX10_depth_26 : dkW cX10_depth 26 [180, 1, 19, 28, 182, 0, 191, 154, 0, 5, 2, 172, 28] = true := by decide +kernel
theorem dX10_depth_26 : decode cX10_depth 26 = .ok (.getfield 275, 3) := dko_180 dwX10_depth_26
theorem dX10_depth_29 : decode cX10_depth 29 = .ok (.iload_n 2, 1) := dko_28 (dk_t 3 29 [28, 182, 0, 191, 154, 0, 5, 2, 172, 28] dwX10_depth_26 rfl rfl)
theorem dX10_depth_30 : decode cX10_depth 30 = .ok (.invokevirtual 191, 3) := dko_182 (dk_t 4 30 [182, 0, 191, 154, 0, 5, 2, 172, 28] dwX10_depth_26 rfl rfl)
theorem dX10_depth_33 : decode cX10_depth 33 = .ok (.ifCond .ne 5, 3) := dko_154 (dk_t 7 33 [154, 0, 5, 2, 172, 28] dwX10_depth_26 rfl rfl)
theorem dX10_depth_36 : decode cX10_depth 36 = .ok (.iconst (-1), 1) := dko_2 (dk_t 10 36 [2, 172, 28] dwX10_depth_26 rfl rfl)
theorem dX10_depth_37 : decode cX10_depth 37 = .ok (.ireturn, 1) := dko_172 (dk_t 11 37 [172, 28] dwX10_depth_26 rfl rfl)
theorem dX10_depth_38 : decode cX10_depth 38 = .ok (.iload_n 2, 1) := dko_28 (dk_t 12 38 [28] dwX10_depth_26 rfl rfl)
theorem dwX10_depth_39 : dkW cX10_depth 39 [54, 4, 3, 54, 5, 21, 5, 16, 30, 163, 0, 51, 42] = true := by decide +kernel
theorem dX10_depth_39 : decode cX10_depth 39 = .ok (.istore 4, 2) := dko_54 dwX10_depth_39
theorem dX10_depth_41 : decode cX10_depth 41 = .ok (.iconst 0, 1) := dko_3 (dk_t 2 41 [3, 54, 5, 21, 5, 16, 30, 163, 0, 51, 42] dwX10_depth_39 rfl rfl)
theorem dX10_depth_42 : decode cX10_depth 42 = .ok (.istore 5, 2) := dko_54 (dk_t 3 42 [54, 5, 21, 5, 16, 30, 163, 0, 51, 42] dwX10_depth_39 rfl rfl)
theorem dX10_depth_44 : decode cX10_depth 44 = .ok (.iload 5, 2) := dko_21 (dk_t 5 44 [21, 5, 16, 30, 163, 0, 51, 42] dwX10_depth_39 rfl rfl)
theorem dX10_depth_46 : decode cX10_depth 46 = .ok (.bipush 30, 2) := dko_16 (dk_t 7 46 [16, 30, 163, 0, 51, 42] dwX10_depth_39 rfl rfl)
theorem dX10_depth_48 : decode cX10_depth 48 = .ok (.if_icmp .gt 51, 3) := dko_163 (dk_t 9 48 [163, 0, 51, 42] dwX10_depth_39 rfl rfl)
theorem dX10_depth_51 : decode cX10_depth 51 = .ok (.aload_n 0, 1) := dko_42 (dk_t 12 51 [42] dwX10_depth_39 rfl rfl)
theorem dwX10_depth_52 : dkW cX10_depth 52 [180, 0, 37, 45, 180, 1, 19, 21, 4, 45, 180, 1, 22] = true := by decide +kernel
theorem dX10_depth_52 : decode cX10_depth 52 = .ok (.getfield 37, 3) := dko_180 dwX10_depth_52
theorem dX10_depth_55 : decode cX10_depth 55 = .ok (.aload_n 3, 1) := dko_45 (dk_t 3 55 [45, 180, 1, 19, 21, 4, 45, 180, 1, 22] dwX10_depth_52 rfl rfl)
theorem dX10_depth_56 : decode cX10_depth 56 = .ok (.getfield 275, 3) := dko_180 (dk_t 4 56 [180, 1, 19, 21, 4, 45, 180, 1, 22] dwX10_depth_52 rfl rfl)
theorem dX10_depth_59 : decode cX10_depth 59 = .ok (.iload 4, 2) := dko_21 (dk_t 7 59 [21, 4, 45, 180, 1, 22] dwX10_depth_52 rfl rfl)
theorem dX10_depth_61 : decode cX10_depth 61 = .ok (.aload_n 3, 1) := dko_45 (dk_t 9 61 [45, 180, 1, 22] dwX10_depth_52 rfl rfl)
theorem dX10_depth_62 : decode cX10_depth 62 = .ok (.getfield 278, 3) := dko_180 (dk_t 10 62 [180, 1, 22] dwX10_depth_52 rfl rfl)
theorem dwX10_depth_65 : dkW cX10_depth 65 [182, 1, 9, 54, 6, 42, 180, 0, 37, 45, 180, 1, 19] = true := by decide +kernel
theorem dX10_depth_65 : decode cX10_depth 65 = .ok (.invokevirtual 265, 3) := dko_182 dwX10_depth_65
theorem dX10_depth_68 : decode cX10_depth 68 = .ok (.istore 6, 2) := dko_54 (dk_t 3 68 [54, 6, 42, 180, 0, 37, 45, 180, 1, 19] dwX10_depth_65 rfl rfl)
theorem dX10_depth_70 : decode cX10_depth 70 = .ok (.aload_n 0, 1) := dko_42 (dk_t 5 70 [42, 180, 0, 37, 45, 180, 1, 19] dwX10_depth_65 rfl rfl)
theorem dX10_depth_71 : decode cX10_depth 71 = .ok (.getfield 37, 3) := dko_180 (dk_t 6 71 [180, 0, 37, 45, 180, 1, 19] dwX10_depth_65 rfl rfl)
theorem dX10_depth_74 : decode cX10_depth 74 = .ok (.aload_n 3, 1) := dko_45 (dk_t 9 74 [45, 180, 1, 19] dwX10_depth_65 rfl rfl)
theorem dX10_depth_75 : decode cX10_depth 75 = .ok (.getfield 275, 3) := dko_180 (dk_t 10 75 [180, 1, 19] dwX10_depth_65 rfl rfl)
theorem dwX10_depth_78 : dkW cX10_depth 78 [21, 6, 182, 0, 191, 154, 0, 6, 21, 5, 172, 21, 6] = true := by decide +kernel
theorem dX10_depth_78 : decode cX10_depth 78 = .ok (.iload 6, 2) := dko_21 dwX10_depth_78
theorem dX10_depth_80 : decode cX10_depth 80 = .ok (.invokevirtual 191, 3) := dko_182 (dk_t 2 80 [182, 0, 191, 154, 0, 6, 21, 5, 172, 21, 6] dwX10_depth_78 rfl rfl)
theorem dX10_depth_83 : decode cX10_depth 83 = .ok (.ifCond .ne 6, 3) := dko_154 (dk_t 5 83 [154, 0, 6, 21, 5, 172, 21, 6] dwX10_depth_78 rfl rfl)
theorem dX10_depth_86 : decode cX10_depth 86 = .ok (.iload 5, 2) := dko_21 (dk_t 8 86 [21, 5, 172, 21, 6] dwX10_depth_78 rfl rfl)
theorem dX10_depth_88 : decode cX10_depth 88 = .ok (.ireturn, 1) := dko_172 (dk_t 10 88 [172, 21, 6] dwX10_depth_78 rfl rfl)
theorem dX10_depth_89 : decode cX10_depth 89 = .ok (.iload 6, 2) := dko_21 (dk_t 11 89 [21, 6] dwX10_depth_78 rfl rfl)
theorem dwX10_depth_91 : dkW cX10_depth 91 [54, 4, 132, 5, 1, 167, 255, 204, 16, 254, 172] = true := by decide +kernel
theorem dX10_depth_91 : decode cX10_depth 91 = .ok (.istore 4, 2) := dko_54 dwX10_depth_91
theorem dX10_depth_93 : decode cX10_depth 93 = .ok (.iinc 5 1, 3) := dko_132 (dk_t 2 93 [132, 5, 1, 167, 255, 204, 16, 254, 172] dwX10_depth_91 rfl rfl)
theorem dX10_depth_96 : decode cX10_depth 96 = .ok (.goto (-52), 3) := dko_167 (dk_t 5 96 [167, 255, 204, 16, 254, 172] dwX10_depth_91 rfl rfl)
theorem dX10_depth_99 : decode cX10_depth 99 = .ok (.bipush (-2), 2) := dko_16 (dk_t 8 99 [16, 254, 172] dwX10_depth_91 rfl rfl)
theorem dX10_depth_101 : decode cX10_depth 101 = .ok (.ireturn, 1) := dko_172 (dk_t 10 101 [172] dwX10_depth_91 rfl rfl)
theorem dwX10_since_0 : dkW cX10_since 0 [42, 180, 0, 123, 154, 0, 5, 2, 172, 27, 155, 0, 16, 27] = true := by decide +kernel
theorem dX10_since_0 : decode cX10_since 0 = .ok (.aload_n 0, 1) := dko_42 dwX10_since_0
theorem dX10_since_1 : decode cX10_since 1 = .ok (.getfield 123, 3) := dko_180 (dk_t 1 1 [180, 0, 123, 154, 0, 5, 2, 172, 27, 155, 0, 16, 27] dwX10_since_0 rfl rfl)
theorem dX10_since_4 : decode cX10_since 4 = .ok (.ifCond .ne 5, 3) := dko_154 (dk_t 4 4 [154, 0, 5, 2, 172, 27, 155, 0, 16, 27] dwX10_since_0 rfl rfl)
theorem dX10_since_7 : decode cX10_since 7 = .ok (.iconst (-1), 1) := dko_2 (dk_t 7 7 [2, 172, 27, 155, 0, 16, 27] dwX10_since_0 rfl rfl)
theorem dX10_since_8 : decode cX10_since 8 = .ok (.ireturn, 1) := dko_172 (dk_t 8 8 [172, 27, 155, 0, 16, 27] dwX10_since_0 rfl rfl)
theorem dX10_since_9 : decode cX10_since 9 = .ok (.iload_n 1, 1) := dko_27 (dk_t 9 9 [27, 155, 0, 16, 27] dwX10_since_0 rfl rfl)
theorem dX10_since_10 : decode cX10_since 10 = .ok (.ifCond .lt 16, 3) := dko_155 (dk_t 10 10 [155, 0, 16, 27] dwX10_since_0 rfl rfl)
theorem dX10_since_13 : decode cX10_since 13 = .ok (.iload_n 1, 1) := dko_27 (dk_t 13 13 [27] dwX10_since_0 rfl rfl)
theorem dwX10_since_14 : dkW cX10_since 14 [16, 6, 162, 0, 10, 42, 180, 0, 95, 27, 46, 172, 27] = true := by decide +kernel
theorem dX10_since_14 : decode cX10_since 14 = .ok (.bipush 6, 2) := dko_16 dwX10_since_14
theorem dX10_since_16 : decode cX10_since 16 = .ok (.if_icmp .ge 10, 3) := dko_162 (dk_t 2 16 [162, 0, 10, 42, 180, 0, 95, 27, 46, 172, 27] dwX10_since_14 rfl rfl)
theorem dX10_since_19 : decode cX10_since 19 = .ok (.aload_n 0, 1) := dko_42 (dk_t 5 19 [42, 180, 0, 95, 27, 46, 172, 27] dwX10_since_14 rfl rfl)
theorem dX10_since_20 : decode cX10_since 20 = .ok (.getfield 95, 3) := dko_180 (dk_t 6 20 [180, 0, 95, 27, 46, 172, 27] dwX10_since_14 rfl rfl)
theorem dX10_since_23 : decode cX10_since 23 = .ok (.iload_n 1, 1) := dko_27 (dk_t 9 23 [27, 46, 172, 27] dwX10_since_14 rfl rfl)
theorem dX10_since_24 : decode cX10_since 24 = .ok (.iaload, 1) := dko_46 (dk_t 10 24 [46, 172, 27] dwX10_since_14 rfl rfl)
theorem dX10_since_25 : decode cX10_since 25 = .ok (.ireturn, 1) := dko_172 (dk_t 11 25 [172, 27] dwX10_since_14 rfl rfl)
theorem dX10_since_26 : decode cX10_since 26 = .ok (.iload_n 1, 1) := dko_27 (dk_t 12 26 [27] dwX10_since_14 rfl rfl)
theorem dwX10_since_27 : dkW cX10_since 27 [16, 6, 160, 0, 10, 42, 180, 0, 233, 167, 0, 4, 2, 172] = true := by decide +kernel
theorem dX10_since_27 : decode cX10_since 27 = .ok (.bipush 6, 2) := dko_16 dwX10_since_27
theorem dX10_since_29 : decode cX10_since 29 = .ok (.if_icmp .ne 10, 3) := dko_160 (dk_t 2 29 [160, 0, 10, 42, 180, 0, 233, 167, 0, 4, 2, 172] dwX10_since_27 rfl rfl)
theorem dX10_since_32 : decode cX10_since 32 = .ok (.aload_n 0, 1) := dko_42 (dk_t 5 32 [42, 180, 0, 233, 167, 0, 4, 2, 172] dwX10_since_27 rfl rfl)
theorem dX10_since_33 : decode cX10_since 33 = .ok (.getfield 233, 3) := dko_180 (dk_t 6 33 [180, 0, 233, 167, 0, 4, 2, 172] dwX10_since_27 rfl rfl)
theorem dX10_since_36 : decode cX10_since 36 = .ok (.goto 4, 3) := dko_167 (dk_t 9 36 [167, 0, 4, 2, 172] dwX10_since_27 rfl rfl)
theorem dX10_since_39 : decode cX10_since 39 = .ok (.iconst (-1), 1) := dko_2 (dk_t 12 39 [2, 172] dwX10_since_27 rfl rfl)
theorem dX10_since_40 : decode cX10_since 40 = .ok (.ireturn, 1) := dko_172 (dk_t 13 40 [172] dwX10_since_27 rfl rfl)
theorem dwX10_count_0 : dkW cX10_count 0 [27] = true := by decide +kernel
theorem dX10_count_0 : decode cX10_count 0 = .ok (.iload_n 1, 1) := dko_27 dwX10_count_0
theorem dX10_count_1 : decode cX10_count 1 = .ok (.tableswitch 136 0 9 #[55, 63, 71, 79, 92, 99, 106, 113, 120, 128], 55) := by decide +kernel
theorem dwX10_count_56 : dkW cX10_count 56 [42, 180, 0, 30, 182, 0, 167, 172, 42, 180, 0, 37] = true := by decide +kernel
theorem dX10_count_56 : decode cX10_count 56 = .ok (.aload_n 0, 1) := dko_42 dwX10_count_56
theorem dX10_count_57 : decode cX10_count 57 = .ok (.getfield 30, 3) := dko_180 (dk_t 1 57 [180, 0, 30, 182, 0, 167, 172, 42, 180, 0, 37] dwX10_count_56 rfl rfl)
theorem dX10_count_60 : decode cX10_count 60 = .ok (.invokevirtual 167, 3) := dko_182 (dk_t 4 60 [182, 0, 167, 172, 42, 180, 0, 37] dwX10_count_56 rfl rfl)
theorem dX10_count_63 : decode cX10_count 63 = .ok (.ireturn, 1) := dko_172 (dk_t 7 63 [172, 42, 180, 0, 37] dwX10_count_56 rfl rfl)
theorem dX10_count_64 : decode cX10_count 64 = .ok (.aload_n 0, 1) := dko_42 (dk_t 8 64 [42, 180, 0, 37] dwX10_count_56 rfl rfl)
theorem dX10_count_65 : decode cX10_count 65 = .ok (.getfield 37, 3) := dko_180 (dk_t 9 65 [180, 0, 37] dwX10_count_56 rfl rfl)
theorem dwX10_count_68 : dkW cX10_count 68 [182, 0, 222, 172, 42, 180, 0, 57, 182, 0, 232, 172, 42] = true := by decide +kernel
theorem dX10_count_68 : decode cX10_count 68 = .ok (.invokevirtual 222, 3) := dko_182 dwX10_count_68
theorem dX10_count_71 : decode cX10_count 71 = .ok (.ireturn, 1) := dko_172 (dk_t 3 71 [172, 42, 180, 0, 57, 182, 0, 232, 172, 42] dwX10_count_68 rfl rfl)
theorem dX10_count_72 : decode cX10_count 72 = .ok (.aload_n 0, 1) := dko_42 (dk_t 4 72 [42, 180, 0, 57, 182, 0, 232, 172, 42] dwX10_count_68 rfl rfl)
theorem dX10_count_73 : decode cX10_count 73 = .ok (.getfield 57, 3) := dko_180 (dk_t 5 73 [180, 0, 57, 182, 0, 232, 172, 42] dwX10_count_68 rfl rfl)
theorem dX10_count_76 : decode cX10_count 76 = .ok (.invokevirtual 232, 3) := dko_182 (dk_t 8 76 [182, 0, 232, 172, 42] dwX10_count_68 rfl rfl)
theorem dX10_count_79 : decode cX10_count 79 = .ok (.ireturn, 1) := dko_172 (dk_t 11 79 [172, 42] dwX10_count_68 rfl rfl)
theorem dX10_count_80 : decode cX10_count 80 = .ok (.aload_n 0, 1) := dko_42 (dk_t 12 80 [42] dwX10_count_68 rfl rfl)
theorem dwX10_count_81 : dkW cX10_count 81 [180, 0, 123, 153, 0, 7, 4, 167, 0, 4, 3, 172, 42] = true := by decide +kernel
theorem dX10_count_81 : decode cX10_count 81 = .ok (.getfield 123, 3) := dko_180 dwX10_count_81
theorem dX10_count_84 : decode cX10_count 84 = .ok (.ifCond .eq 7, 3) := dko_153 (dk_t 3 84 [153, 0, 7, 4, 167, 0, 4, 3, 172, 42] dwX10_count_81 rfl rfl)
theorem dX10_count_87 : decode cX10_count 87 = .ok (.iconst 1, 1) := dko_4 (dk_t 6 87 [4, 167, 0, 4, 3, 172, 42] dwX10_count_81 rfl rfl)
theorem dX10_count_88 : decode cX10_count 88 = .ok (.goto 4, 3) := dko_167 (dk_t 7 88 [167, 0, 4, 3, 172, 42] dwX10_count_81 rfl rfl)
theorem dX10_count_91 : decode cX10_count 91 = .ok (.iconst 0, 1) := dko_3 (dk_t 10 91 [3, 172, 42] dwX10_count_81 rfl rfl)
theorem dX10_count_92 : decode cX10_count 92 = .ok (.ireturn, 1) := dko_172 (dk_t 11 92 [172, 42] dwX10_count_81 rfl rfl)
theorem dX10_count_93 : decode cX10_count 93 = .ok (.aload_n 0, 1) := dko_42 (dk_t 12 93 [42] dwX10_count_81 rfl rfl)
theorem dwX10_count_94 : dkW cX10_count 94 [180, 0, 99, 3, 46, 172, 42, 180, 0, 99, 4, 46, 172, 42] = true := by decide +kernel
theorem dX10_count_94 : decode cX10_count 94 = .ok (.getfield 99, 3) := dko_180 dwX10_count_94
theorem dX10_count_97 : decode cX10_count 97 = .ok (.iconst 0, 1) := dko_3 (dk_t 3 97 [3, 46, 172, 42, 180, 0, 99, 4, 46, 172, 42] dwX10_count_94 rfl rfl)
theorem dX10_count_98 : decode cX10_count 98 = .ok (.iaload, 1) := dko_46 (dk_t 4 98 [46, 172, 42, 180, 0, 99, 4, 46, 172, 42] dwX10_count_94 rfl rfl)
theorem dX10_count_99 : decode cX10_count 99 = .ok (.ireturn, 1) := dko_172 (dk_t 5 99 [172, 42, 180, 0, 99, 4, 46, 172, 42] dwX10_count_94 rfl rfl)
theorem dX10_count_100 : decode cX10_count 100 = .ok (.aload_n 0, 1) := dko_42 (dk_t 6 100 [42, 180, 0, 99, 4, 46, 172, 42] dwX10_count_94 rfl rfl)
theorem dX10_count_101 : decode cX10_count 101 = .ok (.getfield 99, 3) := dko_180 (dk_t 7 101 [180, 0, 99, 4, 46, 172, 42] dwX10_count_94 rfl rfl)
theorem dX10_count_104 : decode cX10_count 104 = .ok (.iconst 1, 1) := dko_4 (dk_t 10 104 [4, 46, 172, 42] dwX10_count_94 rfl rfl)
theorem dX10_count_105 : decode cX10_count 105 = .ok (.iaload, 1) := dko_46 (dk_t 11 105 [46, 172, 42] dwX10_count_94 rfl rfl)
theorem dX10_count_106 : decode cX10_count 106 = .ok (.ireturn, 1) := dko_172 (dk_t 12 106 [172, 42] dwX10_count_94 rfl rfl)
theorem dX10_count_107 : decode cX10_count 107 = .ok (.aload_n 0, 1) := dko_42 (dk_t 13 107 [42] dwX10_count_94 rfl rfl)
theorem dwX10_count_108 : dkW cX10_count 108 [180, 0, 99, 5, 46, 172, 42, 180, 0, 99, 6, 46, 172, 42] = true := by decide +kernel
theorem dX10_count_108 : decode cX10_count 108 = .ok (.getfield 99, 3) := dko_180 dwX10_count_108
theorem dX10_count_111 : decode cX10_count 111 = .ok (.iconst 2, 1) := dko_5 (dk_t 3 111 [5, 46, 172, 42, 180, 0, 99, 6, 46, 172, 42] dwX10_count_108 rfl rfl)
theorem dX10_count_112 : decode cX10_count 112 = .ok (.iaload, 1) := dko_46 (dk_t 4 112 [46, 172, 42, 180, 0, 99, 6, 46, 172, 42] dwX10_count_108 rfl rfl)
theorem dX10_count_113 : decode cX10_count 113 = .ok (.ireturn, 1) := dko_172 (dk_t 5 113 [172, 42, 180, 0, 99, 6, 46, 172, 42] dwX10_count_108 rfl rfl)
theorem dX10_count_114 : decode cX10_count 114 = .ok (.aload_n 0, 1) := dko_42 (dk_t 6 114 [42, 180, 0, 99, 6, 46, 172, 42] dwX10_count_108 rfl rfl)
theorem dX10_count_115 : decode cX10_count 115 = .ok (.getfield 99, 3) := dko_180 (dk_t 7 115 [180, 0, 99, 6, 46, 172, 42] dwX10_count_108 rfl rfl)
theorem dX10_count_118 : decode cX10_count 118 = .ok (.iconst 3, 1) := dko_6 (dk_t 10 118 [6, 46, 172, 42] dwX10_count_108 rfl rfl)
theorem dX10_count_119 : decode cX10_count 119 = .ok (.iaload, 1) := dko_46 (dk_t 11 119 [46, 172, 42] dwX10_count_108 rfl rfl)
theorem dX10_count_120 : decode cX10_count 120 = .ok (.ireturn, 1) := dko_172 (dk_t 12 120 [172, 42] dwX10_count_108 rfl rfl)
theorem dX10_count_121 : decode cX10_count 121 = .ok (.aload_n 0, 1) := dko_42 (dk_t 13 121 [42] dwX10_count_108 rfl rfl)
theorem dwX10_count_122 : dkW cX10_count 122 [180, 0, 12, 182, 0, 106, 172, 42, 180, 0, 30, 182, 1, 112] = true := by decide +kernel
theorem dX10_count_122 : decode cX10_count 122 = .ok (.getfield 12, 3) := dko_180 dwX10_count_122
theorem dX10_count_125 : decode cX10_count 125 = .ok (.invokevirtual 106, 3) := dko_182 (dk_t 3 125 [182, 0, 106, 172, 42, 180, 0, 30, 182, 1, 112] dwX10_count_122 rfl rfl)
theorem dX10_count_128 : decode cX10_count 128 = .ok (.ireturn, 1) := dko_172 (dk_t 6 128 [172, 42, 180, 0, 30, 182, 1, 112] dwX10_count_122 rfl rfl)
theorem dX10_count_129 : decode cX10_count 129 = .ok (.aload_n 0, 1) := dko_42 (dk_t 7 129 [42, 180, 0, 30, 182, 1, 112] dwX10_count_122 rfl rfl)
theorem dX10_count_130 : decode cX10_count 130 = .ok (.getfield 30, 3) := dko_180 (dk_t 8 130 [180, 0, 30, 182, 1, 112] dwX10_count_122 rfl rfl)
theorem dX10_count_133 : decode cX10_count 133 = .ok (.invokevirtual 368, 3) := dko_182 (dk_t 11 133 [182, 1, 112] dwX10_count_122 rfl rfl)
theorem dwX10_count_136 : dkW cX10_count 136 [172, 2, 172] = true := by decide +kernel
theorem dX10_count_136 : decode cX10_count 136 = .ok (.ireturn, 1) := dko_172 dwX10_count_136
theorem dX10_count_137 : decode cX10_count 137 = .ok (.iconst (-1), 1) := dko_2 (dk_t 1 137 [2, 172] dwX10_count_136 rfl rfl)
theorem dX10_count_138 : decode cX10_count 138 = .ok (.ireturn, 1) := dko_172 (dk_t 2 138 [172] dwX10_count_136 rfl rfl)
theorem dwX10_isTable_0 : dkW cX10_isTable 0 [26, 155, 0, 12, 26, 6, 162, 0, 7, 4, 167, 0, 4, 3] = true := by decide +kernel
theorem dX10_isTable_0 : decode cX10_isTable 0 = .ok (.iload_n 0, 1) := dko_26 dwX10_isTable_0
theorem dX10_isTable_1 : decode cX10_isTable 1 = .ok (.ifCond .lt 12, 3) := dko_155 (dk_t 1 1 [155, 0, 12, 26, 6, 162, 0, 7, 4, 167, 0, 4, 3] dwX10_isTable_0 rfl rfl)
theorem dX10_isTable_4 : decode cX10_isTable 4 = .ok (.iload_n 0, 1) := dko_26 (dk_t 4 4 [26, 6, 162, 0, 7, 4, 167, 0, 4, 3] dwX10_isTable_0 rfl rfl)
theorem dX10_isTable_5 : decode cX10_isTable 5 = .ok (.iconst 3, 1) := dko_6 (dk_t 5 5 [6, 162, 0, 7, 4, 167, 0, 4, 3] dwX10_isTable_0 rfl rfl)
theorem dX10_isTable_6 : decode cX10_isTable 6 = .ok (.if_icmp .ge 7, 3) := dko_162 (dk_t 6 6 [162, 0, 7, 4, 167, 0, 4, 3] dwX10_isTable_0 rfl rfl)
theorem dX10_isTable_9 : decode cX10_isTable 9 = .ok (.iconst 1, 1) := dko_4 (dk_t 9 9 [4, 167, 0, 4, 3] dwX10_isTable_0 rfl rfl)
theorem dX10_isTable_10 : decode cX10_isTable 10 = .ok (.goto 4, 3) := dko_167 (dk_t 10 10 [167, 0, 4, 3] dwX10_isTable_0 rfl rfl)
theorem dX10_isTable_13 : decode cX10_isTable 13 = .ok (.iconst 0, 1) := dko_3 (dk_t 13 13 [3] dwX10_isTable_0 rfl rfl)
theorem dwX10_isTable_14 : dkW cX10_isTable 14 [172] = true := by decide +kernel
theorem dX10_isTable_14 : decode cX10_isTable 14 = .ok (.ireturn, 1) := dko_172 dwX10_isTable_14
theorem dwX10_isKey_0 : dkW cX10_isKey 0 [26, 155, 0, 13, 26, 16, 30, 162, 0, 7, 4, 167, 0, 4] = true := by decide +kernel
theorem dX10_isKey_0 : decode cX10_isKey 0 = .ok (.iload_n 0, 1) := dko_26 dwX10_isKey_0
theorem dX10_isKey_1 : decode cX10_isKey 1 = .ok (.ifCond .lt 13, 3) := dko_155 (dk_t 1 1 [155, 0, 13, 26, 16, 30, 162, 0, 7, 4, 167, 0, 4] dwX10_isKey_0 rfl rfl)
theorem dX10_isKey_4 : decode cX10_isKey 4 = .ok (.iload_n 0, 1) := dko_26 (dk_t 4 4 [26, 16, 30, 162, 0, 7, 4, 167, 0, 4] dwX10_isKey_0 rfl rfl)
theorem dX10_isKey_5 : decode cX10_isKey 5 = .ok (.bipush 30, 2) := dko_16 (dk_t 5 5 [16, 30, 162, 0, 7, 4, 167, 0, 4] dwX10_isKey_0 rfl rfl)
theorem dX10_isKey_7 : decode cX10_isKey 7 = .ok (.if_icmp .ge 7, 3) := dko_162 (dk_t 7 7 [162, 0, 7, 4, 167, 0, 4] dwX10_isKey_0 rfl rfl)
theorem dX10_isKey_10 : decode cX10_isKey 10 = .ok (.iconst 1, 1) := dko_4 (dk_t 10 10 [4, 167, 0, 4] dwX10_isKey_0 rfl rfl)
theorem dX10_isKey_11 : decode cX10_isKey 11 = .ok (.goto 4, 3) := dko_167 (dk_t 11 11 [167, 0, 4] dwX10_isKey_0 rfl rfl)
theorem dwX10_isKey_14 : dkW cX10_isKey 14 [3, 172] = true := by decide +kernel
theorem dX10_isKey_14 : decode cX10_isKey 14 = .ok (.iconst 0, 1) := dko_3 dwX10_isKey_14
theorem dX10_isKey_15 : decode cX10_isKey 15 = .ok (.ireturn, 1) := dko_172 (dk_t 1 15 [172] dwX10_isKey_14 rfl rfl)
theorem dwX10_isColumn_0 : dkW cX10_isColumn 0 [26, 155, 0, 12, 26, 6, 162, 0, 7, 4, 167, 0, 4, 3] = true := by decide +kernel
theorem dX10_isColumn_0 : decode cX10_isColumn 0 = .ok (.iload_n 0, 1) := dko_26 dwX10_isColumn_0
theorem dX10_isColumn_1 : decode cX10_isColumn 1 = .ok (.ifCond .lt 12, 3) := dko_155 (dk_t 1 1 [155, 0, 12, 26, 6, 162, 0, 7, 4, 167, 0, 4, 3] dwX10_isColumn_0 rfl rfl)
theorem dX10_isColumn_4 : decode cX10_isColumn 4 = .ok (.iload_n 0, 1) := dko_26 (dk_t 4 4 [26, 6, 162, 0, 7, 4, 167, 0, 4, 3] dwX10_isColumn_0 rfl rfl)
theorem dX10_isColumn_5 : decode cX10_isColumn 5 = .ok (.iconst 3, 1) := dko_6 (dk_t 5 5 [6, 162, 0, 7, 4, 167, 0, 4, 3] dwX10_isColumn_0 rfl rfl)
theorem dX10_isColumn_6 : decode cX10_isColumn 6 = .ok (.if_icmp .ge 7, 3) := dko_162 (dk_t 6 6 [162, 0, 7, 4, 167, 0, 4, 3] dwX10_isColumn_0 rfl rfl)
theorem dX10_isColumn_9 : decode cX10_isColumn 9 = .ok (.iconst 1, 1) := dko_4 (dk_t 9 9 [4, 167, 0, 4, 3] dwX10_isColumn_0 rfl rfl)
theorem dX10_isColumn_10 : decode cX10_isColumn 10 = .ok (.goto 4, 3) := dko_167 (dk_t 10 10 [167, 0, 4, 3] dwX10_isColumn_0 rfl rfl)
theorem dX10_isColumn_13 : decode cX10_isColumn 13 = .ok (.iconst 0, 1) := dko_3 (dk_t 13 13 [3] dwX10_isColumn_0 rfl rfl)
theorem dwX10_isColumn_14 : dkW cX10_isColumn 14 [172] = true := by decide +kernel
theorem dX10_isColumn_14 : decode cX10_isColumn 14 = .ok (.ireturn, 1) := dko_172 dwX10_isColumn_14
theorem dwX10_isSubjectValue_0 : dkW cX10_isSubjectValue 0 [26, 16, 157, 161, 0, 13, 26, 16, 99, 163, 0, 7, 4] = true := by decide +kernel
theorem dX10_isSubjectValue_0 : decode cX10_isSubjectValue 0 = .ok (.iload_n 0, 1) := dko_26 dwX10_isSubjectValue_0
theorem dX10_isSubjectValue_1 : decode cX10_isSubjectValue 1 = .ok (.bipush (-99), 2) := dko_16 (dk_t 1 1 [16, 157, 161, 0, 13, 26, 16, 99, 163, 0, 7, 4] dwX10_isSubjectValue_0 rfl rfl)
theorem dX10_isSubjectValue_3 : decode cX10_isSubjectValue 3 = .ok (.if_icmp .lt 13, 3) := dko_161 (dk_t 3 3 [161, 0, 13, 26, 16, 99, 163, 0, 7, 4] dwX10_isSubjectValue_0 rfl rfl)
theorem dX10_isSubjectValue_6 : decode cX10_isSubjectValue 6 = .ok (.iload_n 0, 1) := dko_26 (dk_t 6 6 [26, 16, 99, 163, 0, 7, 4] dwX10_isSubjectValue_0 rfl rfl)
theorem dX10_isSubjectValue_7 : decode cX10_isSubjectValue 7 = .ok (.bipush 99, 2) := dko_16 (dk_t 7 7 [16, 99, 163, 0, 7, 4] dwX10_isSubjectValue_0 rfl rfl)
theorem dX10_isSubjectValue_9 : decode cX10_isSubjectValue 9 = .ok (.if_icmp .gt 7, 3) := dko_163 (dk_t 9 9 [163, 0, 7, 4] dwX10_isSubjectValue_0 rfl rfl)
theorem dX10_isSubjectValue_12 : decode cX10_isSubjectValue 12 = .ok (.iconst 1, 1) := dko_4 (dk_t 12 12 [4] dwX10_isSubjectValue_0 rfl rfl)
theorem dwX10_isSubjectValue_13 : dkW cX10_isSubjectValue 13 [167, 0, 4, 3, 172] = true := by decide +kernel
theorem dX10_isSubjectValue_13 : decode cX10_isSubjectValue 13 = .ok (.goto 4, 3) := dko_167 dwX10_isSubjectValue_13
theorem dX10_isSubjectValue_16 : decode cX10_isSubjectValue 16 = .ok (.iconst 0, 1) := dko_3 (dk_t 3 16 [3, 172] dwX10_isSubjectValue_13 rfl rfl)
theorem dX10_isSubjectValue_17 : decode cX10_isSubjectValue 17 = .ok (.ireturn, 1) := dko_172 (dk_t 4 17 [172] dwX10_isSubjectValue_13 rfl rfl)
theorem dwX10_isValue_0 : dkW cX10_isValue 0 [26, 17, 252, 24, 159, 0, 10, 26, 184, 1, 115, 153, 0, 7] = true := by decide +kernel
theorem dX10_isValue_0 : decode cX10_isValue 0 = .ok (.iload_n 0, 1) := dko_26 dwX10_isValue_0
theorem dX10_isValue_1 : decode cX10_isValue 1 = .ok (.sipush (-1000), 3) := dko_17 (dk_t 1 1 [17, 252, 24, 159, 0, 10, 26, 184, 1, 115, 153, 0, 7] dwX10_isValue_0 rfl rfl)
theorem dX10_isValue_4 : decode cX10_isValue 4 = .ok (.if_icmp .eq 10, 3) := dko_159 (dk_t 4 4 [159, 0, 10, 26, 184, 1, 115, 153, 0, 7] dwX10_isValue_0 rfl rfl)
theorem dX10_isValue_7 : decode cX10_isValue 7 = .ok (.iload_n 0, 1) := dko_26 (dk_t 7 7 [26, 184, 1, 115, 153, 0, 7] dwX10_isValue_0 rfl rfl)
theorem dX10_isValue_8 : decode cX10_isValue 8 = .ok (.invokestatic 371, 3) := dko_184 (dk_t 8 8 [184, 1, 115, 153, 0, 7] dwX10_isValue_0 rfl rfl)
theorem dX10_isValue_11 : decode cX10_isValue 11 = .ok (.ifCond .eq 7, 3) := dko_153 (dk_t 11 11 [153, 0, 7] dwX10_isValue_0 rfl rfl)
theorem dwX10_isValue_14 : dkW cX10_isValue 14 [4, 167, 0, 4, 3, 172] = true := by decide +kernel
theorem dX10_isValue_14 : decode cX10_isValue 14 = .ok (.iconst 1, 1) := dko_4 dwX10_isValue_14
theorem dX10_isValue_15 : decode cX10_isValue 15 = .ok (.goto 4, 3) := dko_167 (dk_t 1 15 [167, 0, 4, 3, 172] dwX10_isValue_14 rfl rfl)
theorem dX10_isValue_18 : decode cX10_isValue 18 = .ok (.iconst 0, 1) := dko_3 (dk_t 4 18 [3, 172] dwX10_isValue_14 rfl rfl)
theorem dX10_isValue_19 : decode cX10_isValue 19 = .ok (.ireturn, 1) := dko_172 (dk_t 5 19 [172] dwX10_isValue_14 rfl rfl)
theorem dwX10_wordOf_0 : dkW cX10_wordOf 0 [26] = true := by decide +kernel
theorem dX10_wordOf_0 : decode cX10_wordOf 0 = .ok (.iload_n 0, 1) := dko_26 dwX10_wordOf_0
theorem dX10_wordOf_1 : decode cX10_wordOf 1 = .ok (.tableswitch 55 0 4 #[35, 39, 43, 47, 51], 35) := by decide +kernel
theorem dwX10_wordOf_36 : dkW cX10_wordOf 36 [19, 1, 118, 176, 19, 1, 120, 176, 19, 1, 122, 176] = true := by decide +kernel
theorem dX10_wordOf_36 : decode cX10_wordOf 36 = .ok (.ldc_w 374, 3) := dko_19 dwX10_wordOf_36
theorem dX10_wordOf_39 : decode cX10_wordOf 39 = .ok (.areturn, 1) := dko_176 (dk_t 3 39 [176, 19, 1, 120, 176, 19, 1, 122, 176] dwX10_wordOf_36 rfl rfl)
theorem dX10_wordOf_40 : decode cX10_wordOf 40 = .ok (.ldc_w 376, 3) := dko_19 (dk_t 4 40 [19, 1, 120, 176, 19, 1, 122, 176] dwX10_wordOf_36 rfl rfl)
theorem dX10_wordOf_43 : decode cX10_wordOf 43 = .ok (.areturn, 1) := dko_176 (dk_t 7 43 [176, 19, 1, 122, 176] dwX10_wordOf_36 rfl rfl)
theorem dX10_wordOf_44 : decode cX10_wordOf 44 = .ok (.ldc_w 378, 3) := dko_19 (dk_t 8 44 [19, 1, 122, 176] dwX10_wordOf_36 rfl rfl)
theorem dX10_wordOf_47 : decode cX10_wordOf 47 = .ok (.areturn, 1) := dko_176 (dk_t 11 47 [176] dwX10_wordOf_36 rfl rfl)
theorem dwX10_wordOf_48 : dkW cX10_wordOf 48 [19, 1, 124, 176, 19, 1, 126, 176, 19, 1, 128, 176] = true := by decide +kernel
theorem dX10_wordOf_48 : decode cX10_wordOf 48 = .ok (.ldc_w 380, 3) := dko_19 dwX10_wordOf_48
theorem dX10_wordOf_51 : decode cX10_wordOf 51 = .ok (.areturn, 1) := dko_176 (dk_t 3 51 [176, 19, 1, 126, 176, 19, 1, 128, 176] dwX10_wordOf_48 rfl rfl)
theorem dX10_wordOf_52 : decode cX10_wordOf 52 = .ok (.ldc_w 382, 3) := dko_19 (dk_t 4 52 [19, 1, 126, 176, 19, 1, 128, 176] dwX10_wordOf_48 rfl rfl)
theorem dX10_wordOf_55 : decode cX10_wordOf 55 = .ok (.areturn, 1) := dko_176 (dk_t 7 55 [176, 19, 1, 128, 176] dwX10_wordOf_48 rfl rfl)
theorem dX10_wordOf_56 : decode cX10_wordOf 56 = .ok (.ldc_w 384, 3) := dko_19 (dk_t 8 56 [19, 1, 128, 176] dwX10_wordOf_48 rfl rfl)
theorem dX10_wordOf_59 : decode cX10_wordOf 59 = .ok (.areturn, 1) := dko_176 (dk_t 11 59 [176] dwX10_wordOf_48 rfl rfl)
theorem dwX10_rowsAtMark_0 : dkW cX10_rowsAtMark 0 [27, 155, 0, 26, 27, 42, 180, 0, 233, 162, 0, 18, 27] = true := by decide +kernel
theorem dX10_rowsAtMark_0 : decode cX10_rowsAtMark 0 = .ok (.iload_n 1, 1) := dko_27 dwX10_rowsAtMark_0
theorem dX10_rowsAtMark_1 : decode cX10_rowsAtMark 1 = .ok (.ifCond .lt 26, 3) := dko_155 (dk_t 1 1 [155, 0, 26, 27, 42, 180, 0, 233, 162, 0, 18, 27] dwX10_rowsAtMark_0 rfl rfl)
theorem dX10_rowsAtMark_4 : decode cX10_rowsAtMark 4 = .ok (.iload_n 1, 1) := dko_27 (dk_t 4 4 [27, 42, 180, 0, 233, 162, 0, 18, 27] dwX10_rowsAtMark_0 rfl rfl)
theorem dX10_rowsAtMark_5 : decode cX10_rowsAtMark 5 = .ok (.aload_n 0, 1) := dko_42 (dk_t 5 5 [42, 180, 0, 233, 162, 0, 18, 27] dwX10_rowsAtMark_0 rfl rfl)
theorem dX10_rowsAtMark_6 : decode cX10_rowsAtMark 6 = .ok (.getfield 233, 3) := dko_180 (dk_t 6 6 [180, 0, 233, 162, 0, 18, 27] dwX10_rowsAtMark_0 rfl rfl)
theorem dX10_rowsAtMark_9 : decode cX10_rowsAtMark 9 = .ok (.if_icmp .ge 18, 3) := dko_162 (dk_t 9 9 [162, 0, 18, 27] dwX10_rowsAtMark_0 rfl rfl)
theorem dX10_rowsAtMark_12 : decode cX10_rowsAtMark 12 = .ok (.iload_n 1, 1) := dko_27 (dk_t 12 12 [27] dwX10_rowsAtMark_0 rfl rfl)
theorem dwX10_rowsAtMark_13 : dkW cX10_rowsAtMark 13 [16, 8, 162, 0, 12, 42, 180, 0, 50, 27, 50, 167, 0, 4] = true := by decide +kernel
theorem dX10_rowsAtMark_13 : decode cX10_rowsAtMark 13 = .ok (.bipush 8, 2) := dko_16 dwX10_rowsAtMark_13
theorem dX10_rowsAtMark_15 : decode cX10_rowsAtMark 15 = .ok (.if_icmp .ge 12, 3) := dko_162 (dk_t 2 15 [162, 0, 12, 42, 180, 0, 50, 27, 50, 167, 0, 4] dwX10_rowsAtMark_13 rfl rfl)
theorem dX10_rowsAtMark_18 : decode cX10_rowsAtMark 18 = .ok (.aload_n 0, 1) := dko_42 (dk_t 5 18 [42, 180, 0, 50, 27, 50, 167, 0, 4] dwX10_rowsAtMark_13 rfl rfl)
theorem dX10_rowsAtMark_19 : decode cX10_rowsAtMark 19 = .ok (.getfield 50, 3) := dko_180 (dk_t 6 19 [180, 0, 50, 27, 50, 167, 0, 4] dwX10_rowsAtMark_13 rfl rfl)
theorem dX10_rowsAtMark_22 : decode cX10_rowsAtMark 22 = .ok (.iload_n 1, 1) := dko_27 (dk_t 9 22 [27, 50, 167, 0, 4] dwX10_rowsAtMark_13 rfl rfl)
theorem dX10_rowsAtMark_23 : decode cX10_rowsAtMark 23 = .ok (.aaload, 1) := dko_50 (dk_t 10 23 [50, 167, 0, 4] dwX10_rowsAtMark_13 rfl rfl)
theorem dX10_rowsAtMark_24 : decode cX10_rowsAtMark 24 = .ok (.goto 4, 3) := dko_167 (dk_t 11 24 [167, 0, 4] dwX10_rowsAtMark_13 rfl rfl)
theorem dwX10_rowsAtMark_27 : dkW cX10_rowsAtMark 27 [1, 176] = true := by decide +kernel
theorem dX10_rowsAtMark_27 : decode cX10_rowsAtMark 27 = .ok (.aconst_null, 1) := dko_1 dwX10_rowsAtMark_27
theorem dX10_rowsAtMark_28 : decode cX10_rowsAtMark 28 = .ok (.areturn, 1) := dko_176 (dk_t 1 28 [176] dwX10_rowsAtMark_27 rfl rfl)
theorem dwX10_gather_0 : dkW cX10_gather 0 [43, 182, 1, 130, 42, 180, 0, 70, 44, 45, 182, 1, 131, 3] = true := by decide +kernel
theorem dX10_gather_0 : decode cX10_gather 0 = .ok (.aload_n 1, 1) := dko_43 dwX10_gather_0
theorem dX10_gather_1 : decode cX10_gather 1 = .ok (.invokevirtual 386, 3) := dko_182 (dk_t 1 1 [182, 1, 130, 42, 180, 0, 70, 44, 45, 182, 1, 131, 3] dwX10_gather_0 rfl rfl)
theorem dX10_gather_4 : decode cX10_gather 4 = .ok (.aload_n 0, 1) := dko_42 (dk_t 4 4 [42, 180, 0, 70, 44, 45, 182, 1, 131, 3] dwX10_gather_0 rfl rfl)
theorem dX10_gather_5 : decode cX10_gather 5 = .ok (.getfield 70, 3) := dko_180 (dk_t 5 5 [180, 0, 70, 44, 45, 182, 1, 131, 3] dwX10_gather_0 rfl rfl)
theorem dX10_gather_8 : decode cX10_gather 8 = .ok (.aload_n 2, 1) := dko_44 (dk_t 8 8 [44, 45, 182, 1, 131, 3] dwX10_gather_0 rfl rfl)
theorem dX10_gather_9 : decode cX10_gather 9 = .ok (.aload_n 3, 1) := dko_45 (dk_t 9 9 [45, 182, 1, 131, 3] dwX10_gather_0 rfl rfl)
theorem dX10_gather_10 : decode cX10_gather 10 = .ok (.invokevirtual 387, 3) := dko_182 (dk_t 10 10 [182, 1, 131, 3] dwX10_gather_0 rfl rfl)
theorem dX10_gather_13 : decode cX10_gather 13 = .ok (.iconst 0, 1) := dko_3 (dk_t 13 13 [3] dwX10_gather_0 rfl rfl)
theorem dwX10_gather_14 : dkW cX10_gather 14 [54, 5, 21, 5, 42, 180, 0, 30, 182, 0, 167, 162, 0, 47] = true := by decide +kernel
theorem dX10_gather_14 : decode cX10_gather 14 = .ok (.istore 5, 2) := dko_54 dwX10_gather_14
theorem dX10_gather_16 : decode cX10_gather 16 = .ok (.iload 5, 2) := dko_21 (dk_t 2 16 [21, 5, 42, 180, 0, 30, 182, 0, 167, 162, 0, 47] dwX10_gather_14 rfl rfl)
theorem dX10_gather_18 : decode cX10_gather 18 = .ok (.aload_n 0, 1) := dko_42 (dk_t 4 18 [42, 180, 0, 30, 182, 0, 167, 162, 0, 47] dwX10_gather_14 rfl rfl)
theorem dX10_gather_19 : decode cX10_gather 19 = .ok (.getfield 30, 3) := dko_180 (dk_t 5 19 [180, 0, 30, 182, 0, 167, 162, 0, 47] dwX10_gather_14 rfl rfl)
theorem dX10_gather_22 : decode cX10_gather 22 = .ok (.invokevirtual 167, 3) := dko_182 (dk_t 8 22 [182, 0, 167, 162, 0, 47] dwX10_gather_14 rfl rfl)
theorem dX10_gather_25 : decode cX10_gather 25 = .ok (.if_icmp .ge 47, 3) := dko_162 (dk_t 11 25 [162, 0, 47] dwX10_gather_14 rfl rfl)
theorem dwX10_gather_28 : dkW cX10_gather 28 [42, 180, 0, 30, 21, 5, 182, 1, 135, 58, 6, 25, 6] = true := by decide +kernel
theorem dX10_gather_28 : decode cX10_gather 28 = .ok (.aload_n 0, 1) := dko_42 dwX10_gather_28
theorem dX10_gather_29 : decode cX10_gather 29 = .ok (.getfield 30, 3) := dko_180 (dk_t 1 29 [180, 0, 30, 21, 5, 182, 1, 135, 58, 6, 25, 6] dwX10_gather_28 rfl rfl)
theorem dX10_gather_32 : decode cX10_gather 32 = .ok (.iload 5, 2) := dko_21 (dk_t 4 32 [21, 5, 182, 1, 135, 58, 6, 25, 6] dwX10_gather_28 rfl rfl)
theorem dX10_gather_34 : decode cX10_gather 34 = .ok (.invokevirtual 391, 3) := dko_182 (dk_t 6 34 [182, 1, 135, 58, 6, 25, 6] dwX10_gather_28 rfl rfl)
theorem dX10_gather_37 : decode cX10_gather 37 = .ok (.astore 6, 2) := dko_58 (dk_t 9 37 [58, 6, 25, 6] dwX10_gather_28 rfl rfl)
theorem dX10_gather_39 : decode cX10_gather 39 = .ok (.aload 6, 2) := dko_25 (dk_t 11 39 [25, 6] dwX10_gather_28 rfl rfl)
theorem dwX10_gather_41 : dkW cX10_gather 41 [198, 0, 25, 25, 6, 21, 4, 182, 1, 138, 153, 0, 15, 42] = true := by decide +kernel
theorem dX10_gather_41 : decode cX10_gather 41 = .ok (.ifnull 25, 3) := dko_198 dwX10_gather_41
theorem dX10_gather_44 : decode cX10_gather 44 = .ok (.aload 6, 2) := dko_25 (dk_t 3 44 [25, 6, 21, 4, 182, 1, 138, 153, 0, 15, 42] dwX10_gather_41 rfl rfl)
theorem dX10_gather_46 : decode cX10_gather 46 = .ok (.iload 4, 2) := dko_21 (dk_t 5 46 [21, 4, 182, 1, 138, 153, 0, 15, 42] dwX10_gather_41 rfl rfl)
theorem dX10_gather_48 : decode cX10_gather 48 = .ok (.invokevirtual 394, 3) := dko_182 (dk_t 7 48 [182, 1, 138, 153, 0, 15, 42] dwX10_gather_41 rfl rfl)
theorem dX10_gather_51 : decode cX10_gather 51 = .ok (.ifCond .eq 15, 3) := dko_153 (dk_t 10 51 [153, 0, 15, 42] dwX10_gather_41 rfl rfl)
theorem dX10_gather_54 : decode cX10_gather 54 = .ok (.aload_n 0, 1) := dko_42 (dk_t 13 54 [42] dwX10_gather_41 rfl rfl)
theorem dwX10_gather_55 : dkW cX10_gather 55 [180, 0, 70, 25, 6, 44, 45, 43, 182, 1, 141, 132, 5, 1] = true := by decide +kernel
theorem dX10_gather_55 : decode cX10_gather 55 = .ok (.getfield 70, 3) := dko_180 dwX10_gather_55
theorem dX10_gather_58 : decode cX10_gather 58 = .ok (.aload 6, 2) := dko_25 (dk_t 3 58 [25, 6, 44, 45, 43, 182, 1, 141, 132, 5, 1] dwX10_gather_55 rfl rfl)
theorem dX10_gather_60 : decode cX10_gather 60 = .ok (.aload_n 2, 1) := dko_44 (dk_t 5 60 [44, 45, 43, 182, 1, 141, 132, 5, 1] dwX10_gather_55 rfl rfl)
theorem dX10_gather_61 : decode cX10_gather 61 = .ok (.aload_n 3, 1) := dko_45 (dk_t 6 61 [45, 43, 182, 1, 141, 132, 5, 1] dwX10_gather_55 rfl rfl)
theorem dX10_gather_62 : decode cX10_gather 62 = .ok (.aload_n 1, 1) := dko_43 (dk_t 7 62 [43, 182, 1, 141, 132, 5, 1] dwX10_gather_55 rfl rfl)
theorem dX10_gather_63 : decode cX10_gather 63 = .ok (.invokevirtual 397, 3) := dko_182 (dk_t 8 63 [182, 1, 141, 132, 5, 1] dwX10_gather_55 rfl rfl)
theorem dX10_gather_66 : decode cX10_gather 66 = .ok (.iinc 5 1, 3) := dko_132 (dk_t 11 66 [132, 5, 1] dwX10_gather_55 rfl rfl)
theorem dwX10_gather_69 : dkW cX10_gather 69 [167, 255, 203, 177] = true := by decide +kernel
theorem dX10_gather_69 : decode cX10_gather 69 = .ok (.goto (-53), 3) := dko_167 dwX10_gather_69
theorem dX10_gather_72 : decode cX10_gather 72 = .ok (.return_, 1) := dko_177 (dk_t 3 72 [177] dwX10_gather_69 rfl rfl)
theorem dwX10_close_0 : dkW cX10_close 0 [42, 3, 181, 0, 123, 42, 3, 181, 0, 233, 42, 180, 0, 57] = true := by decide +kernel
theorem dX10_close_0 : decode cX10_close 0 = .ok (.aload_n 0, 1) := dko_42 dwX10_close_0
theorem dX10_close_1 : decode cX10_close 1 = .ok (.iconst 0, 1) := dko_3 (dk_t 1 1 [3, 181, 0, 123, 42, 3, 181, 0, 233, 42, 180, 0, 57] dwX10_close_0 rfl rfl)
theorem dX10_close_2 : decode cX10_close 2 = .ok (.putfield 123, 3) := dko_181 (dk_t 2 2 [181, 0, 123, 42, 3, 181, 0, 233, 42, 180, 0, 57] dwX10_close_0 rfl rfl)
theorem dX10_close_5 : decode cX10_close 5 = .ok (.aload_n 0, 1) := dko_42 (dk_t 5 5 [42, 3, 181, 0, 233, 42, 180, 0, 57] dwX10_close_0 rfl rfl)
theorem dX10_close_6 : decode cX10_close 6 = .ok (.iconst 0, 1) := dko_3 (dk_t 6 6 [3, 181, 0, 233, 42, 180, 0, 57] dwX10_close_0 rfl rfl)
theorem dX10_close_7 : decode cX10_close 7 = .ok (.putfield 233, 3) := dko_181 (dk_t 7 7 [181, 0, 233, 42, 180, 0, 57] dwX10_close_0 rfl rfl)
theorem dX10_close_10 : decode cX10_close 10 = .ok (.aload_n 0, 1) := dko_42 (dk_t 10 10 [42, 180, 0, 57] dwX10_close_0 rfl rfl)
theorem dX10_close_11 : decode cX10_close 11 = .ok (.getfield 57, 3) := dko_180 (dk_t 11 11 [180, 0, 57] dwX10_close_0 rfl rfl)
theorem dwX10_close_14 : dkW cX10_close 14 [182, 1, 130, 177] = true := by decide +kernel
theorem dX10_close_14 : decode cX10_close 14 = .ok (.invokevirtual 386, 3) := dko_182 dwX10_close_14
theorem dX10_close_17 : decode cX10_close 17 = .ok (.return_, 1) := dko_177 (dk_t 3 17 [177] dwX10_close_14 rfl rfl)
theorem dwX10_tellVerdict_0 : dkW cX10_tellVerdict 0 [42, 180, 0, 30, 43, 28, 182, 1, 45, 182, 0, 159, 78, 45] = true := by decide +kernel
theorem dX10_tellVerdict_0 : decode cX10_tellVerdict 0 = .ok (.aload_n 0, 1) := dko_42 dwX10_tellVerdict_0
theorem dX10_tellVerdict_1 : decode cX10_tellVerdict 1 = .ok (.getfield 30, 3) := dko_180 (dk_t 1 1 [180, 0, 30, 43, 28, 182, 1, 45, 182, 0, 159, 78, 45] dwX10_tellVerdict_0 rfl rfl)
theorem dX10_tellVerdict_4 : decode cX10_tellVerdict 4 = .ok (.aload_n 1, 1) := dko_43 (dk_t 4 4 [43, 28, 182, 1, 45, 182, 0, 159, 78, 45] dwX10_tellVerdict_0 rfl rfl)
theorem dX10_tellVerdict_5 : decode cX10_tellVerdict 5 = .ok (.iload_n 2, 1) := dko_28 (dk_t 5 5 [28, 182, 1, 45, 182, 0, 159, 78, 45] dwX10_tellVerdict_0 rfl rfl)
theorem dX10_tellVerdict_6 : decode cX10_tellVerdict 6 = .ok (.invokevirtual 301, 3) := dko_182 (dk_t 6 6 [182, 1, 45, 182, 0, 159, 78, 45] dwX10_tellVerdict_0 rfl rfl)
theorem dX10_tellVerdict_9 : decode cX10_tellVerdict 9 = .ok (.invokevirtual 159, 3) := dko_182 (dk_t 9 9 [182, 0, 159, 78, 45] dwX10_tellVerdict_0 rfl rfl)
theorem dX10_tellVerdict_12 : decode cX10_tellVerdict 12 = .ok (.astore_n 3, 1) := dko_78 (dk_t 12 12 [78, 45] dwX10_tellVerdict_0 rfl rfl)
theorem dX10_tellVerdict_13 : decode cX10_tellVerdict 13 = .ok (.aload_n 3, 1) := dko_45 (dk_t 13 13 [45] dwX10_tellVerdict_0 rfl rfl)
theorem dwX10_tellVerdict_14 : dkW cX10_tellVerdict 14 [198, 0, 26, 42, 180, 0, 91, 45, 180, 0, 130, 45] = true := by decide +kernel
theorem dX10_tellVerdict_14 : decode cX10_tellVerdict 14 = .ok (.ifnull 26, 3) := dko_198 dwX10_tellVerdict_14
theorem dX10_tellVerdict_17 : decode cX10_tellVerdict 17 = .ok (.aload_n 0, 1) := dko_42 (dk_t 3 17 [42, 180, 0, 91, 45, 180, 0, 130, 45] dwX10_tellVerdict_14 rfl rfl)
theorem dX10_tellVerdict_18 : decode cX10_tellVerdict 18 = .ok (.getfield 91, 3) := dko_180 (dk_t 4 18 [180, 0, 91, 45, 180, 0, 130, 45] dwX10_tellVerdict_14 rfl rfl)
theorem dX10_tellVerdict_21 : decode cX10_tellVerdict 21 = .ok (.aload_n 3, 1) := dko_45 (dk_t 7 21 [45, 180, 0, 130, 45] dwX10_tellVerdict_14 rfl rfl)
theorem dX10_tellVerdict_22 : decode cX10_tellVerdict 22 = .ok (.getfield 130, 3) := dko_180 (dk_t 8 22 [180, 0, 130, 45] dwX10_tellVerdict_14 rfl rfl)
theorem dX10_tellVerdict_25 : decode cX10_tellVerdict 25 = .ok (.aload_n 3, 1) := dko_45 (dk_t 11 25 [45] dwX10_tellVerdict_14 rfl rfl)
theorem dwX10_tellVerdict_26 : dkW cX10_tellVerdict 26 [180, 0, 140, 184, 0, 143, 43, 28, 182, 0, 147, 182, 0, 151] = true := by decide +kernel
theorem dX10_tellVerdict_26 : decode cX10_tellVerdict 26 = .ok (.getfield 140, 3) := dko_180 dwX10_tellVerdict_26
theorem dX10_tellVerdict_29 : decode cX10_tellVerdict 29 = .ok (.invokestatic 143, 3) := dko_184 (dk_t 3 29 [184, 0, 143, 43, 28, 182, 0, 147, 182, 0, 151] dwX10_tellVerdict_26 rfl rfl)
theorem dX10_tellVerdict_32 : decode cX10_tellVerdict 32 = .ok (.aload_n 1, 1) := dko_43 (dk_t 6 32 [43, 28, 182, 0, 147, 182, 0, 151] dwX10_tellVerdict_26 rfl rfl)
theorem dX10_tellVerdict_33 : decode cX10_tellVerdict 33 = .ok (.iload_n 2, 1) := dko_28 (dk_t 7 33 [28, 182, 0, 147, 182, 0, 151] dwX10_tellVerdict_26 rfl rfl)
theorem dX10_tellVerdict_34 : decode cX10_tellVerdict 34 = .ok (.invokevirtual 147, 3) := dko_182 (dk_t 8 34 [182, 0, 147, 182, 0, 151] dwX10_tellVerdict_26 rfl rfl)
theorem dX10_tellVerdict_37 : decode cX10_tellVerdict 37 = .ok (.invokevirtual 151, 3) := dko_182 (dk_t 11 37 [182, 0, 151] dwX10_tellVerdict_26 rfl rfl)
theorem dwX10_tellVerdict_40 : dkW cX10_tellVerdict 40 [177] = true := by decide +kernel
theorem dX10_tellVerdict_40 : decode cX10_tellVerdict 40 = .ok (.return_, 1) := dko_177 dwX10_tellVerdict_40
theorem dwX10_firstFailingOf_0 : dkW cX10_firstFailingOf 0 [42, 180, 0, 61, 182, 1, 130, 42, 180, 0, 70, 42] = true := by decide +kernel
theorem dX10_firstFailingOf_0 : decode cX10_firstFailingOf 0 = .ok (.aload_n 0, 1) := dko_42 dwX10_firstFailingOf_0
theorem dX10_firstFailingOf_1 : decode cX10_firstFailingOf 1 = .ok (.getfield 61, 3) := dko_180 (dk_t 1 1 [180, 0, 61, 182, 1, 130, 42, 180, 0, 70, 42] dwX10_firstFailingOf_0 rfl rfl)
theorem dX10_firstFailingOf_4 : decode cX10_firstFailingOf 4 = .ok (.invokevirtual 386, 3) := dko_182 (dk_t 4 4 [182, 1, 130, 42, 180, 0, 70, 42] dwX10_firstFailingOf_0 rfl rfl)
theorem dX10_firstFailingOf_7 : decode cX10_firstFailingOf 7 = .ok (.aload_n 0, 1) := dko_42 (dk_t 7 7 [42, 180, 0, 70, 42] dwX10_firstFailingOf_0 rfl rfl)
theorem dX10_firstFailingOf_8 : decode cX10_firstFailingOf 8 = .ok (.getfield 70, 3) := dko_180 (dk_t 8 8 [180, 0, 70, 42] dwX10_firstFailingOf_0 rfl rfl)
theorem dX10_firstFailingOf_11 : decode cX10_firstFailingOf 11 = .ok (.aload_n 0, 1) := dko_42 (dk_t 11 11 [42] dwX10_firstFailingOf_0 rfl rfl)
theorem dwX10_firstFailingOf_12 : dkW cX10_firstFailingOf 12 [180, 0, 47, 42, 180, 0, 37, 182, 1, 131, 42, 180, 0, 70] = true := by decide +kernel
theorem dX10_firstFailingOf_12 : decode cX10_firstFailingOf 12 = .ok (.getfield 47, 3) := dko_180 dwX10_firstFailingOf_12
theorem dX10_firstFailingOf_15 : decode cX10_firstFailingOf 15 = .ok (.aload_n 0, 1) := dko_42 (dk_t 3 15 [42, 180, 0, 37, 182, 1, 131, 42, 180, 0, 70] dwX10_firstFailingOf_12 rfl rfl)
theorem dX10_firstFailingOf_16 : decode cX10_firstFailingOf 16 = .ok (.getfield 37, 3) := dko_180 (dk_t 4 16 [180, 0, 37, 182, 1, 131, 42, 180, 0, 70] dwX10_firstFailingOf_12 rfl rfl)
theorem dX10_firstFailingOf_19 : decode cX10_firstFailingOf 19 = .ok (.invokevirtual 387, 3) := dko_182 (dk_t 7 19 [182, 1, 131, 42, 180, 0, 70] dwX10_firstFailingOf_12 rfl rfl)
theorem dX10_firstFailingOf_22 : decode cX10_firstFailingOf 22 = .ok (.aload_n 0, 1) := dko_42 (dk_t 10 22 [42, 180, 0, 70] dwX10_firstFailingOf_12 rfl rfl)
theorem dX10_firstFailingOf_23 : decode cX10_firstFailingOf 23 = .ok (.getfield 70, 3) := dko_180 (dk_t 11 23 [180, 0, 70] dwX10_firstFailingOf_12 rfl rfl)
theorem dwX10_firstFailingOf_26 : dkW cX10_firstFailingOf 26 [43, 42, 180, 0, 47, 42, 180, 0, 37, 42, 180, 0, 61] = true := by decide +kernel
theorem dX10_firstFailingOf_26 : decode cX10_firstFailingOf 26 = .ok (.aload_n 1, 1) := dko_43 dwX10_firstFailingOf_26
theorem dX10_firstFailingOf_27 : decode cX10_firstFailingOf 27 = .ok (.aload_n 0, 1) := dko_42 (dk_t 1 27 [42, 180, 0, 47, 42, 180, 0, 37, 42, 180, 0, 61] dwX10_firstFailingOf_26 rfl rfl)
theorem dX10_firstFailingOf_28 : decode cX10_firstFailingOf 28 = .ok (.getfield 47, 3) := dko_180 (dk_t 2 28 [180, 0, 47, 42, 180, 0, 37, 42, 180, 0, 61] dwX10_firstFailingOf_26 rfl rfl)
theorem dX10_firstFailingOf_31 : decode cX10_firstFailingOf 31 = .ok (.aload_n 0, 1) := dko_42 (dk_t 5 31 [42, 180, 0, 37, 42, 180, 0, 61] dwX10_firstFailingOf_26 rfl rfl)
theorem dX10_firstFailingOf_32 : decode cX10_firstFailingOf 32 = .ok (.getfield 37, 3) := dko_180 (dk_t 6 32 [180, 0, 37, 42, 180, 0, 61] dwX10_firstFailingOf_26 rfl rfl)
theorem dX10_firstFailingOf_35 : decode cX10_firstFailingOf 35 = .ok (.aload_n 0, 1) := dko_42 (dk_t 9 35 [42, 180, 0, 61] dwX10_firstFailingOf_26 rfl rfl)
theorem dX10_firstFailingOf_36 : decode cX10_firstFailingOf 36 = .ok (.getfield 61, 3) := dko_180 (dk_t 10 36 [180, 0, 61] dwX10_firstFailingOf_26 rfl rfl)
theorem dwX10_firstFailingOf_39 : dkW cX10_firstFailingOf 39 [182, 1, 141, 42, 180, 0, 61, 182, 0, 244, 172] = true := by decide +kernel
theorem dX10_firstFailingOf_39 : decode cX10_firstFailingOf 39 = .ok (.invokevirtual 397, 3) := dko_182 dwX10_firstFailingOf_39
theorem dX10_firstFailingOf_42 : decode cX10_firstFailingOf 42 = .ok (.aload_n 0, 1) := dko_42 (dk_t 3 42 [42, 180, 0, 61, 182, 0, 244, 172] dwX10_firstFailingOf_39 rfl rfl)
theorem dX10_firstFailingOf_43 : decode cX10_firstFailingOf 43 = .ok (.getfield 61, 3) := dko_180 (dk_t 4 43 [180, 0, 61, 182, 0, 244, 172] dwX10_firstFailingOf_39 rfl rfl)
theorem dX10_firstFailingOf_46 : decode cX10_firstFailingOf 46 = .ok (.invokevirtual 244, 3) := dko_182 (dk_t 7 46 [182, 0, 244, 172] dwX10_firstFailingOf_39 rfl rfl)
theorem dX10_firstFailingOf_49 : decode cX10_firstFailingOf 49 = .ok (.ireturn, 1) := dko_172 (dk_t 10 49 [172] dwX10_firstFailingOf_39 rfl rfl)
theorem dwX10_becomeLate_0 : dkW cX10_becomeLate 0 [43, 4, 181, 0, 170, 42, 180, 0, 123, 154, 0, 5, 3, 172] = true := by decide +kernel
theorem dX10_becomeLate_0 : decode cX10_becomeLate 0 = .ok (.aload_n 1, 1) := dko_43 dwX10_becomeLate_0
theorem dX10_becomeLate_1 : decode cX10_becomeLate 1 = .ok (.iconst 1, 1) := dko_4 (dk_t 1 1 [4, 181, 0, 170, 42, 180, 0, 123, 154, 0, 5, 3, 172] dwX10_becomeLate_0 rfl rfl)
theorem dX10_becomeLate_2 : decode cX10_becomeLate 2 = .ok (.putfield 170, 3) := dko_181 (dk_t 2 2 [181, 0, 170, 42, 180, 0, 123, 154, 0, 5, 3, 172] dwX10_becomeLate_0 rfl rfl)
theorem dX10_becomeLate_5 : decode cX10_becomeLate 5 = .ok (.aload_n 0, 1) := dko_42 (dk_t 5 5 [42, 180, 0, 123, 154, 0, 5, 3, 172] dwX10_becomeLate_0 rfl rfl)
theorem dX10_becomeLate_6 : decode cX10_becomeLate 6 = .ok (.getfield 123, 3) := dko_180 (dk_t 6 6 [180, 0, 123, 154, 0, 5, 3, 172] dwX10_becomeLate_0 rfl rfl)
theorem dX10_becomeLate_9 : decode cX10_becomeLate 9 = .ok (.ifCond .ne 5, 3) := dko_154 (dk_t 9 9 [154, 0, 5, 3, 172] dwX10_becomeLate_0 rfl rfl)
theorem dX10_becomeLate_12 : decode cX10_becomeLate 12 = .ok (.iconst 0, 1) := dko_3 (dk_t 12 12 [3, 172] dwX10_becomeLate_0 rfl rfl)
theorem dX10_becomeLate_13 : decode cX10_becomeLate 13 = .ok (.ireturn, 1) := dko_172 (dk_t 13 13 [172] dwX10_becomeLate_0 rfl rfl)
theorem dwX10_becomeLate_14 : dkW cX10_becomeLate 14 [42, 42, 180, 0, 57, 42, 180, 0, 41, 42, 180, 0, 37, 4] = true := by decide +kernel
theorem dX10_becomeLate_14 : decode cX10_becomeLate 14 = .ok (.aload_n 0, 1) := dko_42 dwX10_becomeLate_14
theorem dX10_becomeLate_15 : decode cX10_becomeLate 15 = .ok (.aload_n 0, 1) := dko_42 (dk_t 1 15 [42, 180, 0, 57, 42, 180, 0, 41, 42, 180, 0, 37, 4] dwX10_becomeLate_14 rfl rfl)
theorem dX10_becomeLate_16 : decode cX10_becomeLate 16 = .ok (.getfield 57, 3) := dko_180 (dk_t 2 16 [180, 0, 57, 42, 180, 0, 41, 42, 180, 0, 37, 4] dwX10_becomeLate_14 rfl rfl)
theorem dX10_becomeLate_19 : decode cX10_becomeLate 19 = .ok (.aload_n 0, 1) := dko_42 (dk_t 5 19 [42, 180, 0, 41, 42, 180, 0, 37, 4] dwX10_becomeLate_14 rfl rfl)
theorem dX10_becomeLate_20 : decode cX10_becomeLate 20 = .ok (.getfield 41, 3) := dko_180 (dk_t 6 20 [180, 0, 41, 42, 180, 0, 37, 4] dwX10_becomeLate_14 rfl rfl)
theorem dX10_becomeLate_23 : decode cX10_becomeLate 23 = .ok (.aload_n 0, 1) := dko_42 (dk_t 9 23 [42, 180, 0, 37, 4] dwX10_becomeLate_14 rfl rfl)
theorem dX10_becomeLate_24 : decode cX10_becomeLate 24 = .ok (.getfield 37, 3) := dko_180 (dk_t 10 24 [180, 0, 37, 4] dwX10_becomeLate_14 rfl rfl)
theorem dX10_becomeLate_27 : decode cX10_becomeLate 27 = .ok (.iconst 1, 1) := dko_4 (dk_t 13 27 [4] dwX10_becomeLate_14 rfl rfl)
theorem dwX10_becomeLate_28 : dkW cX10_becomeLate 28 [182, 0, 240, 42, 180, 0, 57, 43, 180, 0, 130, 182, 1, 40] = true := by decide +kernel
theorem dX10_becomeLate_28 : decode cX10_becomeLate 28 = .ok (.invokevirtual 240, 3) := dko_182 dwX10_becomeLate_28
theorem dX10_becomeLate_31 : decode cX10_becomeLate 31 = .ok (.aload_n 0, 1) := dko_42 (dk_t 3 31 [42, 180, 0, 57, 43, 180, 0, 130, 182, 1, 40] dwX10_becomeLate_28 rfl rfl)
theorem dX10_becomeLate_32 : decode cX10_becomeLate 32 = .ok (.getfield 57, 3) := dko_180 (dk_t 4 32 [180, 0, 57, 43, 180, 0, 130, 182, 1, 40] dwX10_becomeLate_28 rfl rfl)
theorem dX10_becomeLate_35 : decode cX10_becomeLate 35 = .ok (.aload_n 1, 1) := dko_43 (dk_t 7 35 [43, 180, 0, 130, 182, 1, 40] dwX10_becomeLate_28 rfl rfl)
theorem dX10_becomeLate_36 : decode cX10_becomeLate 36 = .ok (.getfield 130, 3) := dko_180 (dk_t 8 36 [180, 0, 130, 182, 1, 40] dwX10_becomeLate_28 rfl rfl)
theorem dX10_becomeLate_39 : decode cX10_becomeLate 39 = .ok (.invokevirtual 296, 3) := dko_182 (dk_t 11 39 [182, 1, 40] dwX10_becomeLate_28 rfl rfl)
theorem dwX10_becomeLate_42 : dkW cX10_becomeLate 42 [61, 42, 180, 0, 95, 3, 92, 46, 28, 96, 79, 28, 172] = true := by decide +kernel
theorem dX10_becomeLate_42 : decode cX10_becomeLate 42 = .ok (.istore_n 2, 1) := dko_61 dwX10_becomeLate_42
theorem dX10_becomeLate_43 : decode cX10_becomeLate 43 = .ok (.aload_n 0, 1) := dko_42 (dk_t 1 43 [42, 180, 0, 95, 3, 92, 46, 28, 96, 79, 28, 172] dwX10_becomeLate_42 rfl rfl)
theorem dX10_becomeLate_44 : decode cX10_becomeLate 44 = .ok (.getfield 95, 3) := dko_180 (dk_t 2 44 [180, 0, 95, 3, 92, 46, 28, 96, 79, 28, 172] dwX10_becomeLate_42 rfl rfl)
theorem dX10_becomeLate_47 : decode cX10_becomeLate 47 = .ok (.iconst 0, 1) := dko_3 (dk_t 5 47 [3, 92, 46, 28, 96, 79, 28, 172] dwX10_becomeLate_42 rfl rfl)
theorem dX10_becomeLate_48 : decode cX10_becomeLate 48 = .ok (.dup2, 1) := dko_92 (dk_t 6 48 [92, 46, 28, 96, 79, 28, 172] dwX10_becomeLate_42 rfl rfl)
theorem dX10_becomeLate_49 : decode cX10_becomeLate 49 = .ok (.iaload, 1) := dko_46 (dk_t 7 49 [46, 28, 96, 79, 28, 172] dwX10_becomeLate_42 rfl rfl)
theorem dX10_becomeLate_50 : decode cX10_becomeLate 50 = .ok (.iload_n 2, 1) := dko_28 (dk_t 8 50 [28, 96, 79, 28, 172] dwX10_becomeLate_42 rfl rfl)
theorem dX10_becomeLate_51 : decode cX10_becomeLate 51 = .ok (.iadd, 1) := dko_96 (dk_t 9 51 [96, 79, 28, 172] dwX10_becomeLate_42 rfl rfl)
theorem dX10_becomeLate_52 : decode cX10_becomeLate 52 = .ok (.iastore, 1) := dko_79 (dk_t 10 52 [79, 28, 172] dwX10_becomeLate_42 rfl rfl)
theorem dX10_becomeLate_53 : decode cX10_becomeLate 53 = .ok (.iload_n 2, 1) := dko_28 (dk_t 11 53 [28, 172] dwX10_becomeLate_42 rfl rfl)
theorem dX10_becomeLate_54 : decode cX10_becomeLate 54 = .ok (.ireturn, 1) := dko_172 (dk_t 12 54 [172] dwX10_becomeLate_42 rfl rfl)
theorem dwX10_becomePrompt_0 : dkW cX10_becomePrompt 0 [3, 61, 28, 42, 180, 0, 57, 182, 0, 232, 162, 0, 60, 42] = true := by decide +kernel
theorem dX10_becomePrompt_0 : decode cX10_becomePrompt 0 = .ok (.iconst 0, 1) := dko_3 dwX10_becomePrompt_0
theorem dX10_becomePrompt_1 : decode cX10_becomePrompt 1 = .ok (.istore_n 2, 1) := dko_61 (dk_t 1 1 [61, 28, 42, 180, 0, 57, 182, 0, 232, 162, 0, 60, 42] dwX10_becomePrompt_0 rfl rfl)
theorem dX10_becomePrompt_2 : decode cX10_becomePrompt 2 = .ok (.iload_n 2, 1) := dko_28 (dk_t 2 2 [28, 42, 180, 0, 57, 182, 0, 232, 162, 0, 60, 42] dwX10_becomePrompt_0 rfl rfl)
theorem dX10_becomePrompt_3 : decode cX10_becomePrompt 3 = .ok (.aload_n 0, 1) := dko_42 (dk_t 3 3 [42, 180, 0, 57, 182, 0, 232, 162, 0, 60, 42] dwX10_becomePrompt_0 rfl rfl)
theorem dX10_becomePrompt_4 : decode cX10_becomePrompt 4 = .ok (.getfield 57, 3) := dko_180 (dk_t 4 4 [180, 0, 57, 182, 0, 232, 162, 0, 60, 42] dwX10_becomePrompt_0 rfl rfl)
theorem dX10_becomePrompt_7 : decode cX10_becomePrompt 7 = .ok (.invokevirtual 232, 3) := dko_182 (dk_t 7 7 [182, 0, 232, 162, 0, 60, 42] dwX10_becomePrompt_0 rfl rfl)
theorem dX10_becomePrompt_10 : decode cX10_becomePrompt 10 = .ok (.if_icmp .ge 60, 3) := dko_162 (dk_t 10 10 [162, 0, 60, 42] dwX10_becomePrompt_0 rfl rfl)
theorem dX10_becomePrompt_13 : decode cX10_becomePrompt 13 = .ok (.aload_n 0, 1) := dko_42 (dk_t 13 13 [42] dwX10_becomePrompt_0 rfl rfl)
theorem dwX10_becomePrompt_14 : dkW cX10_becomePrompt 14 [180, 0, 57, 28, 182, 1, 45, 43, 180, 0, 130, 159, 0, 6] = true := by decide +kernel
theorem dX10_becomePrompt_14 : decode cX10_becomePrompt 14 = .ok (.getfield 57, 3) := dko_180 dwX10_becomePrompt_14
theorem dX10_becomePrompt_17 : decode cX10_becomePrompt 17 = .ok (.iload_n 2, 1) := dko_28 (dk_t 3 17 [28, 182, 1, 45, 43, 180, 0, 130, 159, 0, 6] dwX10_becomePrompt_14 rfl rfl)
theorem dX10_becomePrompt_18 : decode cX10_becomePrompt 18 = .ok (.invokevirtual 301, 3) := dko_182 (dk_t 4 18 [182, 1, 45, 43, 180, 0, 130, 159, 0, 6] dwX10_becomePrompt_14 rfl rfl)
theorem dX10_becomePrompt_21 : decode cX10_becomePrompt 21 = .ok (.aload_n 1, 1) := dko_43 (dk_t 7 21 [43, 180, 0, 130, 159, 0, 6] dwX10_becomePrompt_14 rfl rfl)
theorem dX10_becomePrompt_22 : decode cX10_becomePrompt 22 = .ok (.getfield 130, 3) := dko_180 (dk_t 8 22 [180, 0, 130, 159, 0, 6] dwX10_becomePrompt_14 rfl rfl)
theorem dX10_becomePrompt_25 : decode cX10_becomePrompt 25 = .ok (.if_icmp .eq 6, 3) := dko_159 (dk_t 11 25 [159, 0, 6] dwX10_becomePrompt_14 rfl rfl)
theorem dwX10_becomePrompt_28 : dkW cX10_becomePrompt 28 [167, 0, 36, 42, 180, 0, 99, 3, 92, 46, 4, 96, 79, 42] = true := by decide +kernel
theorem dX10_becomePrompt_28 : decode cX10_becomePrompt 28 = .ok (.goto 36, 3) := dko_167 dwX10_becomePrompt_28
theorem dX10_becomePrompt_31 : decode cX10_becomePrompt 31 = .ok (.aload_n 0, 1) := dko_42 (dk_t 3 31 [42, 180, 0, 99, 3, 92, 46, 4, 96, 79, 42] dwX10_becomePrompt_28 rfl rfl)
theorem dX10_becomePrompt_32 : decode cX10_becomePrompt 32 = .ok (.getfield 99, 3) := dko_180 (dk_t 4 32 [180, 0, 99, 3, 92, 46, 4, 96, 79, 42] dwX10_becomePrompt_28 rfl rfl)
theorem dX10_becomePrompt_35 : decode cX10_becomePrompt 35 = .ok (.iconst 0, 1) := dko_3 (dk_t 7 35 [3, 92, 46, 4, 96, 79, 42] dwX10_becomePrompt_28 rfl rfl)
theorem dX10_becomePrompt_36 : decode cX10_becomePrompt 36 = .ok (.dup2, 1) := dko_92 (dk_t 8 36 [92, 46, 4, 96, 79, 42] dwX10_becomePrompt_28 rfl rfl)
theorem dX10_becomePrompt_37 : decode cX10_becomePrompt 37 = .ok (.iaload, 1) := dko_46 (dk_t 9 37 [46, 4, 96, 79, 42] dwX10_becomePrompt_28 rfl rfl)
theorem dX10_becomePrompt_38 : decode cX10_becomePrompt 38 = .ok (.iconst 1, 1) := dko_4 (dk_t 10 38 [4, 96, 79, 42] dwX10_becomePrompt_28 rfl rfl)
theorem dX10_becomePrompt_39 : decode cX10_becomePrompt 39 = .ok (.iadd, 1) := dko_96 (dk_t 11 39 [96, 79, 42] dwX10_becomePrompt_28 rfl rfl)
theorem dX10_becomePrompt_40 : decode cX10_becomePrompt 40 = .ok (.iastore, 1) := dko_79 (dk_t 12 40 [79, 42] dwX10_becomePrompt_28 rfl rfl)
theorem dX10_becomePrompt_41 : decode cX10_becomePrompt 41 = .ok (.aload_n 0, 1) := dko_42 (dk_t 13 41 [42] dwX10_becomePrompt_28 rfl rfl)
theorem dwX10_becomePrompt_42 : dkW cX10_becomePrompt 42 [180, 0, 57, 28, 182, 1, 53, 153, 0, 15, 42, 42] = true := by decide +kernel
theorem dX10_becomePrompt_42 : decode cX10_becomePrompt 42 = .ok (.getfield 57, 3) := dko_180 dwX10_becomePrompt_42
theorem dX10_becomePrompt_45 : decode cX10_becomePrompt 45 = .ok (.iload_n 2, 1) := dko_28 (dk_t 3 45 [28, 182, 1, 53, 153, 0, 15, 42, 42] dwX10_becomePrompt_42 rfl rfl)
theorem dX10_becomePrompt_46 : decode cX10_becomePrompt 46 = .ok (.invokevirtual 309, 3) := dko_182 (dk_t 4 46 [182, 1, 53, 153, 0, 15, 42, 42] dwX10_becomePrompt_42 rfl rfl)
theorem dX10_becomePrompt_49 : decode cX10_becomePrompt 49 = .ok (.ifCond .eq 15, 3) := dko_153 (dk_t 7 49 [153, 0, 15, 42, 42] dwX10_becomePrompt_42 rfl rfl)
theorem dX10_becomePrompt_52 : decode cX10_becomePrompt 52 = .ok (.aload_n 0, 1) := dko_42 (dk_t 10 52 [42, 42] dwX10_becomePrompt_42 rfl rfl)
theorem dX10_becomePrompt_53 : decode cX10_becomePrompt 53 = .ok (.aload_n 0, 1) := dko_42 (dk_t 11 53 [42] dwX10_becomePrompt_42 rfl rfl)
theorem dwX10_becomePrompt_54 : dkW cX10_becomePrompt 54 [180, 0, 57, 28, 182, 0, 247, 16, 251, 172, 132, 2, 1] = true := by decide +kernel
theorem dX10_becomePrompt_54 : decode cX10_becomePrompt 54 = .ok (.getfield 57, 3) := dko_180 dwX10_becomePrompt_54
theorem dX10_becomePrompt_57 : decode cX10_becomePrompt 57 = .ok (.iload_n 2, 1) := dko_28 (dk_t 3 57 [28, 182, 0, 247, 16, 251, 172, 132, 2, 1] dwX10_becomePrompt_54 rfl rfl)
theorem dX10_becomePrompt_58 : decode cX10_becomePrompt 58 = .ok (.invokevirtual 247, 3) := dko_182 (dk_t 4 58 [182, 0, 247, 16, 251, 172, 132, 2, 1] dwX10_becomePrompt_54 rfl rfl)
theorem dX10_becomePrompt_61 : decode cX10_becomePrompt 61 = .ok (.bipush (-5), 2) := dko_16 (dk_t 7 61 [16, 251, 172, 132, 2, 1] dwX10_becomePrompt_54 rfl rfl)
theorem dX10_becomePrompt_63 : decode cX10_becomePrompt 63 = .ok (.ireturn, 1) := dko_172 (dk_t 9 63 [172, 132, 2, 1] dwX10_becomePrompt_54 rfl rfl)
theorem dX10_becomePrompt_64 : decode cX10_becomePrompt 64 = .ok (.iinc 2 1, 3) := dko_132 (dk_t 10 64 [132, 2, 1] dwX10_becomePrompt_54 rfl rfl)
theorem dwX10_becomePrompt_67 : dkW cX10_becomePrompt 67 [167, 255, 191, 43, 3, 181, 0, 170, 42, 180, 0, 123] = true := by decide +kernel
theorem dX10_becomePrompt_67 : decode cX10_becomePrompt 67 = .ok (.goto (-65), 3) := dko_167 dwX10_becomePrompt_67
theorem dX10_becomePrompt_70 : decode cX10_becomePrompt 70 = .ok (.aload_n 1, 1) := dko_43 (dk_t 3 70 [43, 3, 181, 0, 170, 42, 180, 0, 123] dwX10_becomePrompt_67 rfl rfl)
theorem dX10_becomePrompt_71 : decode cX10_becomePrompt 71 = .ok (.iconst 0, 1) := dko_3 (dk_t 4 71 [3, 181, 0, 170, 42, 180, 0, 123] dwX10_becomePrompt_67 rfl rfl)
theorem dX10_becomePrompt_72 : decode cX10_becomePrompt 72 = .ok (.putfield 170, 3) := dko_181 (dk_t 5 72 [181, 0, 170, 42, 180, 0, 123] dwX10_becomePrompt_67 rfl rfl)
theorem dX10_becomePrompt_75 : decode cX10_becomePrompt 75 = .ok (.aload_n 0, 1) := dko_42 (dk_t 8 75 [42, 180, 0, 123] dwX10_becomePrompt_67 rfl rfl)
theorem dX10_becomePrompt_76 : decode cX10_becomePrompt 76 = .ok (.getfield 123, 3) := dko_180 (dk_t 9 76 [180, 0, 123] dwX10_becomePrompt_67 rfl rfl)
theorem dwX10_becomePrompt_79 : dkW cX10_becomePrompt 79 [154, 0, 5, 3, 172, 42, 180, 0, 57, 43, 180, 0, 130] = true := by decide +kernel
theorem dX10_becomePrompt_79 : decode cX10_becomePrompt 79 = .ok (.ifCond .ne 5, 3) := dko_154 dwX10_becomePrompt_79
theorem dX10_becomePrompt_82 : decode cX10_becomePrompt 82 = .ok (.iconst 0, 1) := dko_3 (dk_t 3 82 [3, 172, 42, 180, 0, 57, 43, 180, 0, 130] dwX10_becomePrompt_79 rfl rfl)
theorem dX10_becomePrompt_83 : decode cX10_becomePrompt 83 = .ok (.ireturn, 1) := dko_172 (dk_t 4 83 [172, 42, 180, 0, 57, 43, 180, 0, 130] dwX10_becomePrompt_79 rfl rfl)
theorem dX10_becomePrompt_84 : decode cX10_becomePrompt 84 = .ok (.aload_n 0, 1) := dko_42 (dk_t 5 84 [42, 180, 0, 57, 43, 180, 0, 130] dwX10_becomePrompt_79 rfl rfl)
theorem dX10_becomePrompt_85 : decode cX10_becomePrompt 85 = .ok (.getfield 57, 3) := dko_180 (dk_t 6 85 [180, 0, 57, 43, 180, 0, 130] dwX10_becomePrompt_79 rfl rfl)
theorem dX10_becomePrompt_88 : decode cX10_becomePrompt 88 = .ok (.aload_n 1, 1) := dko_43 (dk_t 9 88 [43, 180, 0, 130] dwX10_becomePrompt_79 rfl rfl)
theorem dX10_becomePrompt_89 : decode cX10_becomePrompt 89 = .ok (.getfield 130, 3) := dko_180 (dk_t 10 89 [180, 0, 130] dwX10_becomePrompt_79 rfl rfl)
theorem dwX10_becomePrompt_92 : dkW cX10_becomePrompt 92 [182, 1, 40, 61, 42, 42, 180, 0, 57, 42, 180, 0, 41, 42] = true := by decide +kernel
theorem dX10_becomePrompt_92 : decode cX10_becomePrompt 92 = .ok (.invokevirtual 296, 3) := dko_182 dwX10_becomePrompt_92
theorem dX10_becomePrompt_95 : decode cX10_becomePrompt 95 = .ok (.istore_n 2, 1) := dko_61 (dk_t 3 95 [61, 42, 42, 180, 0, 57, 42, 180, 0, 41, 42] dwX10_becomePrompt_92 rfl rfl)
theorem dX10_becomePrompt_96 : decode cX10_becomePrompt 96 = .ok (.aload_n 0, 1) := dko_42 (dk_t 4 96 [42, 42, 180, 0, 57, 42, 180, 0, 41, 42] dwX10_becomePrompt_92 rfl rfl)
theorem dX10_becomePrompt_97 : decode cX10_becomePrompt 97 = .ok (.aload_n 0, 1) := dko_42 (dk_t 5 97 [42, 180, 0, 57, 42, 180, 0, 41, 42] dwX10_becomePrompt_92 rfl rfl)
theorem dX10_becomePrompt_98 : decode cX10_becomePrompt 98 = .ok (.getfield 57, 3) := dko_180 (dk_t 6 98 [180, 0, 57, 42, 180, 0, 41, 42] dwX10_becomePrompt_92 rfl rfl)
theorem dX10_becomePrompt_101 : decode cX10_becomePrompt 101 = .ok (.aload_n 0, 1) := dko_42 (dk_t 9 101 [42, 180, 0, 41, 42] dwX10_becomePrompt_92 rfl rfl)
theorem dX10_becomePrompt_102 : decode cX10_becomePrompt 102 = .ok (.getfield 41, 3) := dko_180 (dk_t 10 102 [180, 0, 41, 42] dwX10_becomePrompt_92 rfl rfl)
theorem dX10_becomePrompt_105 : decode cX10_becomePrompt 105 = .ok (.aload_n 0, 1) := dko_42 (dk_t 13 105 [42] dwX10_becomePrompt_92 rfl rfl)
theorem dwX10_becomePrompt_106 : dkW cX10_becomePrompt 106 [180, 0, 37, 4, 182, 0, 240, 28, 172] = true := by decide +kernel
theorem dX10_becomePrompt_106 : decode cX10_becomePrompt 106 = .ok (.getfield 37, 3) := dko_180 dwX10_becomePrompt_106
theorem dX10_becomePrompt_109 : decode cX10_becomePrompt 109 = .ok (.iconst 1, 1) := dko_4 (dk_t 3 109 [4, 182, 0, 240, 28, 172] dwX10_becomePrompt_106 rfl rfl)
theorem dX10_becomePrompt_110 : decode cX10_becomePrompt 110 = .ok (.invokevirtual 240, 3) := dko_182 (dk_t 4 110 [182, 0, 240, 28, 172] dwX10_becomePrompt_106 rfl rfl)
theorem dX10_becomePrompt_113 : decode cX10_becomePrompt 113 = .ok (.iload_n 2, 1) := dko_28 (dk_t 7 113 [28, 172] dwX10_becomePrompt_106 rfl rfl)
theorem dX10_becomePrompt_114 : decode cX10_becomePrompt 114 = .ok (.ireturn, 1) := dko_172 (dk_t 8 114 [172] dwX10_becomePrompt_106 rfl rfl)
theorem dwX10_setOnPaper_0 : dkW cX10_setOnPaper 0 [27, 184, 0, 179, 153, 0, 25, 28, 184, 0, 182, 153, 0, 18] = true := by decide +kernel
theorem dX10_setOnPaper_0 : decode cX10_setOnPaper 0 = .ok (.iload_n 1, 1) := dko_27 dwX10_setOnPaper_0
theorem dX10_setOnPaper_1 : decode cX10_setOnPaper 1 = .ok (.invokestatic 179, 3) := dko_184 (dk_t 1 1 [184, 0, 179, 153, 0, 25, 28, 184, 0, 182, 153, 0, 18] dwX10_setOnPaper_0 rfl rfl)
theorem dX10_setOnPaper_4 : decode cX10_setOnPaper 4 = .ok (.ifCond .eq 25, 3) := dko_153 (dk_t 4 4 [153, 0, 25, 28, 184, 0, 182, 153, 0, 18] dwX10_setOnPaper_0 rfl rfl)
theorem dX10_setOnPaper_7 : decode cX10_setOnPaper 7 = .ok (.iload_n 2, 1) := dko_28 (dk_t 7 7 [28, 184, 0, 182, 153, 0, 18] dwX10_setOnPaper_0 rfl rfl)
theorem dX10_setOnPaper_8 : decode cX10_setOnPaper 8 = .ok (.invokestatic 182, 3) := dko_184 (dk_t 8 8 [184, 0, 182, 153, 0, 18] dwX10_setOnPaper_0 rfl rfl)
theorem dX10_setOnPaper_11 : decode cX10_setOnPaper 11 = .ok (.ifCond .eq 18, 3) := dko_153 (dk_t 11 11 [153, 0, 18] dwX10_setOnPaper_0 rfl rfl)
theorem dwX10_setOnPaper_14 : dkW cX10_setOnPaper 14 [29, 184, 0, 255, 153, 0, 11, 21, 4, 184, 0, 185] = true := by decide +kernel
theorem dX10_setOnPaper_14 : decode cX10_setOnPaper 14 = .ok (.iload_n 3, 1) := dko_29 dwX10_setOnPaper_14
theorem dX10_setOnPaper_15 : decode cX10_setOnPaper 15 = .ok (.invokestatic 255, 3) := dko_184 (dk_t 1 15 [184, 0, 255, 153, 0, 11, 21, 4, 184, 0, 185] dwX10_setOnPaper_14 rfl rfl)
theorem dX10_setOnPaper_18 : decode cX10_setOnPaper 18 = .ok (.ifCond .eq 11, 3) := dko_153 (dk_t 4 18 [153, 0, 11, 21, 4, 184, 0, 185] dwX10_setOnPaper_14 rfl rfl)
theorem dX10_setOnPaper_21 : decode cX10_setOnPaper 21 = .ok (.iload 4, 2) := dko_21 (dk_t 7 21 [21, 4, 184, 0, 185] dwX10_setOnPaper_14 rfl rfl)
theorem dX10_setOnPaper_23 : decode cX10_setOnPaper 23 = .ok (.invokestatic 185, 3) := dko_184 (dk_t 9 23 [184, 0, 185] dwX10_setOnPaper_14 rfl rfl)
theorem dwX10_setOnPaper_26 : dkW cX10_setOnPaper 26 [154, 0, 5, 2, 172, 42, 180, 0, 37, 27, 28, 182, 0, 191] = true := by decide +kernel
theorem dX10_setOnPaper_26 : decode cX10_setOnPaper 26 = .ok (.ifCond .ne 5, 3) := dko_154 dwX10_setOnPaper_26
theorem dX10_setOnPaper_29 : decode cX10_setOnPaper 29 = .ok (.iconst (-1), 1) := dko_2 (dk_t 3 29 [2, 172, 42, 180, 0, 37, 27, 28, 182, 0, 191] dwX10_setOnPaper_26 rfl rfl)
theorem dX10_setOnPaper_30 : decode cX10_setOnPaper 30 = .ok (.ireturn, 1) := dko_172 (dk_t 4 30 [172, 42, 180, 0, 37, 27, 28, 182, 0, 191] dwX10_setOnPaper_26 rfl rfl)
theorem dX10_setOnPaper_31 : decode cX10_setOnPaper 31 = .ok (.aload_n 0, 1) := dko_42 (dk_t 5 31 [42, 180, 0, 37, 27, 28, 182, 0, 191] dwX10_setOnPaper_26 rfl rfl)
theorem dX10_setOnPaper_32 : decode cX10_setOnPaper 32 = .ok (.getfield 37, 3) := dko_180 (dk_t 6 32 [180, 0, 37, 27, 28, 182, 0, 191] dwX10_setOnPaper_26 rfl rfl)
theorem dX10_setOnPaper_35 : decode cX10_setOnPaper 35 = .ok (.iload_n 1, 1) := dko_27 (dk_t 9 35 [27, 28, 182, 0, 191] dwX10_setOnPaper_26 rfl rfl)
theorem dX10_setOnPaper_36 : decode cX10_setOnPaper 36 = .ok (.iload_n 2, 1) := dko_28 (dk_t 10 36 [28, 182, 0, 191] dwX10_setOnPaper_26 rfl rfl)
theorem dX10_setOnPaper_37 : decode cX10_setOnPaper 37 = .ok (.invokevirtual 191, 3) := dko_182 (dk_t 11 37 [182, 0, 191] dwX10_setOnPaper_26 rfl rfl)
theorem dwX10_setOnPaper_40 : dkW cX10_setOnPaper 40 [154, 0, 6, 16, 254, 172, 42, 180, 0, 37, 27, 28, 29] = true := by decide +kernel
theorem dX10_setOnPaper_40 : decode cX10_setOnPaper 40 = .ok (.ifCond .ne 6, 3) := dko_154 dwX10_setOnPaper_40
theorem dX10_setOnPaper_43 : decode cX10_setOnPaper 43 = .ok (.bipush (-2), 2) := dko_16 (dk_t 3 43 [16, 254, 172, 42, 180, 0, 37, 27, 28, 29] dwX10_setOnPaper_40 rfl rfl)
theorem dX10_setOnPaper_45 : decode cX10_setOnPaper 45 = .ok (.ireturn, 1) := dko_172 (dk_t 5 45 [172, 42, 180, 0, 37, 27, 28, 29] dwX10_setOnPaper_40 rfl rfl)
theorem dX10_setOnPaper_46 : decode cX10_setOnPaper 46 = .ok (.aload_n 0, 1) := dko_42 (dk_t 6 46 [42, 180, 0, 37, 27, 28, 29] dwX10_setOnPaper_40 rfl rfl)
theorem dX10_setOnPaper_47 : decode cX10_setOnPaper 47 = .ok (.getfield 37, 3) := dko_180 (dk_t 7 47 [180, 0, 37, 27, 28, 29] dwX10_setOnPaper_40 rfl rfl)
theorem dX10_setOnPaper_50 : decode cX10_setOnPaper 50 = .ok (.iload_n 1, 1) := dko_27 (dk_t 10 50 [27, 28, 29] dwX10_setOnPaper_40 rfl rfl)
theorem dX10_setOnPaper_51 : decode cX10_setOnPaper 51 = .ok (.iload_n 2, 1) := dko_28 (dk_t 11 51 [28, 29] dwX10_setOnPaper_40 rfl rfl)
theorem dX10_setOnPaper_52 : decode cX10_setOnPaper 52 = .ok (.iload_n 3, 1) := dko_29 (dk_t 12 52 [29] dwX10_setOnPaper_40 rfl rfl)
theorem dwX10_setOnPaper_53 : dkW cX10_setOnPaper 53 [182, 1, 9, 21, 4, 160, 0, 6, 16, 252, 172, 42] = true := by decide +kernel
theorem dX10_setOnPaper_53 : decode cX10_setOnPaper 53 = .ok (.invokevirtual 265, 3) := dko_182 dwX10_setOnPaper_53
theorem dX10_setOnPaper_56 : decode cX10_setOnPaper 56 = .ok (.iload 4, 2) := dko_21 (dk_t 3 56 [21, 4, 160, 0, 6, 16, 252, 172, 42] dwX10_setOnPaper_53 rfl rfl)
theorem dX10_setOnPaper_58 : decode cX10_setOnPaper 58 = .ok (.if_icmp .ne 6, 3) := dko_160 (dk_t 5 58 [160, 0, 6, 16, 252, 172, 42] dwX10_setOnPaper_53 rfl rfl)
theorem dX10_setOnPaper_61 : decode cX10_setOnPaper 61 = .ok (.bipush (-4), 2) := dko_16 (dk_t 8 61 [16, 252, 172, 42] dwX10_setOnPaper_53 rfl rfl)
theorem dX10_setOnPaper_63 : decode cX10_setOnPaper 63 = .ok (.ireturn, 1) := dko_172 (dk_t 10 63 [172, 42] dwX10_setOnPaper_53 rfl rfl)
theorem dX10_setOnPaper_64 : decode cX10_setOnPaper 64 = .ok (.aload_n 0, 1) := dko_42 (dk_t 11 64 [42] dwX10_setOnPaper_53 rfl rfl)
theorem dwX10_setOnPaper_65 : dkW cX10_setOnPaper 65 [180, 0, 44, 42, 180, 0, 37, 182, 0, 195, 42, 180, 0, 44] = true := by decide +kernel
theorem dX10_setOnPaper_65 : decode cX10_setOnPaper 65 = .ok (.getfield 44, 3) := dko_180 dwX10_setOnPaper_65
theorem dX10_setOnPaper_68 : decode cX10_setOnPaper 68 = .ok (.aload_n 0, 1) := dko_42 (dk_t 3 68 [42, 180, 0, 37, 182, 0, 195, 42, 180, 0, 44] dwX10_setOnPaper_65 rfl rfl)
theorem dX10_setOnPaper_69 : decode cX10_setOnPaper 69 = .ok (.getfield 37, 3) := dko_180 (dk_t 4 69 [180, 0, 37, 182, 0, 195, 42, 180, 0, 44] dwX10_setOnPaper_65 rfl rfl)
theorem dX10_setOnPaper_72 : decode cX10_setOnPaper 72 = .ok (.invokevirtual 195, 3) := dko_182 (dk_t 7 72 [182, 0, 195, 42, 180, 0, 44] dwX10_setOnPaper_65 rfl rfl)
theorem dX10_setOnPaper_75 : decode cX10_setOnPaper 75 = .ok (.aload_n 0, 1) := dko_42 (dk_t 10 75 [42, 180, 0, 44] dwX10_setOnPaper_65 rfl rfl)
theorem dX10_setOnPaper_76 : decode cX10_setOnPaper 76 = .ok (.getfield 44, 3) := dko_180 (dk_t 11 76 [180, 0, 44] dwX10_setOnPaper_65 rfl rfl)
theorem dwX10_setOnPaper_79 : dkW cX10_setOnPaper 79 [27, 28, 29, 21, 4, 182, 0, 203, 3, 172] = true := by decide +kernel
theorem dX10_setOnPaper_79 : decode cX10_setOnPaper 79 = .ok (.iload_n 1, 1) := dko_27 dwX10_setOnPaper_79
theorem dX10_setOnPaper_80 : decode cX10_setOnPaper 80 = .ok (.iload_n 2, 1) := dko_28 (dk_t 1 80 [28, 29, 21, 4, 182, 0, 203, 3, 172] dwX10_setOnPaper_79 rfl rfl)
theorem dX10_setOnPaper_81 : decode cX10_setOnPaper 81 = .ok (.iload_n 3, 1) := dko_29 (dk_t 2 81 [29, 21, 4, 182, 0, 203, 3, 172] dwX10_setOnPaper_79 rfl rfl)
theorem dX10_setOnPaper_82 : decode cX10_setOnPaper 82 = .ok (.iload 4, 2) := dko_21 (dk_t 3 82 [21, 4, 182, 0, 203, 3, 172] dwX10_setOnPaper_79 rfl rfl)
theorem dX10_setOnPaper_84 : decode cX10_setOnPaper 84 = .ok (.invokevirtual 203, 3) := dko_182 (dk_t 5 84 [182, 0, 203, 3, 172] dwX10_setOnPaper_79 rfl rfl)
theorem dX10_setOnPaper_87 : decode cX10_setOnPaper 87 = .ok (.iconst 0, 1) := dko_3 (dk_t 8 87 [3, 172] dwX10_setOnPaper_79 rfl rfl)
theorem dX10_setOnPaper_88 : decode cX10_setOnPaper 88 = .ok (.ireturn, 1) := dko_172 (dk_t 9 88 [172] dwX10_setOnPaper_79 rfl rfl)
theorem dwX10_refuseAct_0 : dkW cX10_refuseAct 0 [42, 180, 0, 123, 153, 0, 13, 42, 180, 0, 95, 8, 92, 46] = true := by decide +kernel
theorem dX10_refuseAct_0 : decode cX10_refuseAct 0 = .ok (.aload_n 0, 1) := dko_42 dwX10_refuseAct_0
theorem dX10_refuseAct_1 : decode cX10_refuseAct 1 = .ok (.getfield 123, 3) := dko_180 (dk_t 1 1 [180, 0, 123, 153, 0, 13, 42, 180, 0, 95, 8, 92, 46] dwX10_refuseAct_0 rfl rfl)
theorem dX10_refuseAct_4 : decode cX10_refuseAct 4 = .ok (.ifCond .eq 13, 3) := dko_153 (dk_t 4 4 [153, 0, 13, 42, 180, 0, 95, 8, 92, 46] dwX10_refuseAct_0 rfl rfl)
theorem dX10_refuseAct_7 : decode cX10_refuseAct 7 = .ok (.aload_n 0, 1) := dko_42 (dk_t 7 7 [42, 180, 0, 95, 8, 92, 46] dwX10_refuseAct_0 rfl rfl)
theorem dX10_refuseAct_8 : decode cX10_refuseAct 8 = .ok (.getfield 95, 3) := dko_180 (dk_t 8 8 [180, 0, 95, 8, 92, 46] dwX10_refuseAct_0 rfl rfl)
theorem dX10_refuseAct_11 : decode cX10_refuseAct 11 = .ok (.iconst 5, 1) := dko_8 (dk_t 11 11 [8, 92, 46] dwX10_refuseAct_0 rfl rfl)
theorem dX10_refuseAct_12 : decode cX10_refuseAct 12 = .ok (.dup2, 1) := dko_92 (dk_t 12 12 [92, 46] dwX10_refuseAct_0 rfl rfl)
theorem dX10_refuseAct_13 : decode cX10_refuseAct 13 = .ok (.iaload, 1) := dko_46 (dk_t 13 13 [46] dwX10_refuseAct_0 rfl rfl)
theorem dwX10_refuseAct_14 : dkW cX10_refuseAct 14 [4, 96, 79, 27, 172] = true := by decide +kernel
theorem dX10_refuseAct_14 : decode cX10_refuseAct 14 = .ok (.iconst 1, 1) := dko_4 dwX10_refuseAct_14
theorem dX10_refuseAct_15 : decode cX10_refuseAct 15 = .ok (.iadd, 1) := dko_96 (dk_t 1 15 [96, 79, 27, 172] dwX10_refuseAct_14 rfl rfl)
theorem dX10_refuseAct_16 : decode cX10_refuseAct 16 = .ok (.iastore, 1) := dko_79 (dk_t 2 16 [79, 27, 172] dwX10_refuseAct_14 rfl rfl)
theorem dX10_refuseAct_17 : decode cX10_refuseAct 17 = .ok (.iload_n 1, 1) := dko_27 (dk_t 3 17 [27, 172] dwX10_refuseAct_14 rfl rfl)
theorem dX10_refuseAct_18 : decode cX10_refuseAct 18 = .ok (.ireturn, 1) := dko_172 (dk_t 4 18 [172] dwX10_refuseAct_14 rfl rfl)
theorem dwX10_actAsOnPaper_0 : dkW cX10_actAsOnPaper 0 [42, 42, 180, 0, 61, 42, 180, 0, 37, 42, 180, 0, 44, 3] = true := by decide +kernel
theorem dX10_actAsOnPaper_0 : decode cX10_actAsOnPaper 0 = .ok (.aload_n 0, 1) := dko_42 dwX10_actAsOnPaper_0
theorem dX10_actAsOnPaper_1 : decode cX10_actAsOnPaper 1 = .ok (.aload_n 0, 1) := dko_42 (dk_t 1 1 [42, 180, 0, 61, 42, 180, 0, 37, 42, 180, 0, 44, 3] dwX10_actAsOnPaper_0 rfl rfl)
theorem dX10_actAsOnPaper_2 : decode cX10_actAsOnPaper 2 = .ok (.getfield 61, 3) := dko_180 (dk_t 2 2 [180, 0, 61, 42, 180, 0, 37, 42, 180, 0, 44, 3] dwX10_actAsOnPaper_0 rfl rfl)
theorem dX10_actAsOnPaper_5 : decode cX10_actAsOnPaper 5 = .ok (.aload_n 0, 1) := dko_42 (dk_t 5 5 [42, 180, 0, 37, 42, 180, 0, 44, 3] dwX10_actAsOnPaper_0 rfl rfl)
theorem dX10_actAsOnPaper_6 : decode cX10_actAsOnPaper 6 = .ok (.getfield 37, 3) := dko_180 (dk_t 6 6 [180, 0, 37, 42, 180, 0, 44, 3] dwX10_actAsOnPaper_0 rfl rfl)
theorem dX10_actAsOnPaper_9 : decode cX10_actAsOnPaper 9 = .ok (.aload_n 0, 1) := dko_42 (dk_t 9 9 [42, 180, 0, 44, 3] dwX10_actAsOnPaper_0 rfl rfl)
theorem dX10_actAsOnPaper_10 : decode cX10_actAsOnPaper 10 = .ok (.getfield 44, 3) := dko_180 (dk_t 10 10 [180, 0, 44, 3] dwX10_actAsOnPaper_0 rfl rfl)
theorem dX10_actAsOnPaper_13 : decode cX10_actAsOnPaper 13 = .ok (.iconst 0, 1) := dko_3 (dk_t 13 13 [3] dwX10_actAsOnPaper_0 rfl rfl)
theorem dwX10_actAsOnPaper_14 : dkW cX10_actAsOnPaper 14 [182, 0, 240, 42, 182, 1, 145, 154, 0, 10, 42, 16, 251] = true := by decide +kernel
theorem dX10_actAsOnPaper_14 : decode cX10_actAsOnPaper 14 = .ok (.invokevirtual 240, 3) := dko_182 dwX10_actAsOnPaper_14
theorem dX10_actAsOnPaper_17 : decode cX10_actAsOnPaper 17 = .ok (.aload_n 0, 1) := dko_42 (dk_t 3 17 [42, 182, 1, 145, 154, 0, 10, 42, 16, 251] dwX10_actAsOnPaper_14 rfl rfl)
theorem dX10_actAsOnPaper_18 : decode cX10_actAsOnPaper 18 = .ok (.invokevirtual 401, 3) := dko_182 (dk_t 4 18 [182, 1, 145, 154, 0, 10, 42, 16, 251] dwX10_actAsOnPaper_14 rfl rfl)
theorem dX10_actAsOnPaper_21 : decode cX10_actAsOnPaper 21 = .ok (.ifCond .ne 10, 3) := dko_154 (dk_t 7 21 [154, 0, 10, 42, 16, 251] dwX10_actAsOnPaper_14 rfl rfl)
theorem dX10_actAsOnPaper_24 : decode cX10_actAsOnPaper 24 = .ok (.aload_n 0, 1) := dko_42 (dk_t 10 24 [42, 16, 251] dwX10_actAsOnPaper_14 rfl rfl)
theorem dX10_actAsOnPaper_25 : decode cX10_actAsOnPaper 25 = .ok (.bipush (-5), 2) := dko_16 (dk_t 11 25 [16, 251] dwX10_actAsOnPaper_14 rfl rfl)
theorem dwX10_actAsOnPaper_27 : dkW cX10_actAsOnPaper 27 [182, 0, 188, 172, 42, 180, 0, 123, 154, 0, 36, 42, 42] = true := by decide +kernel
theorem dX10_actAsOnPaper_27 : decode cX10_actAsOnPaper 27 = .ok (.invokevirtual 188, 3) := dko_182 dwX10_actAsOnPaper_27
theorem dX10_actAsOnPaper_30 : decode cX10_actAsOnPaper 30 = .ok (.ireturn, 1) := dko_172 (dk_t 3 30 [172, 42, 180, 0, 123, 154, 0, 36, 42, 42] dwX10_actAsOnPaper_27 rfl rfl)
theorem dX10_actAsOnPaper_31 : decode cX10_actAsOnPaper 31 = .ok (.aload_n 0, 1) := dko_42 (dk_t 4 31 [42, 180, 0, 123, 154, 0, 36, 42, 42] dwX10_actAsOnPaper_27 rfl rfl)
theorem dX10_actAsOnPaper_32 : decode cX10_actAsOnPaper 32 = .ok (.getfield 123, 3) := dko_180 (dk_t 5 32 [180, 0, 123, 154, 0, 36, 42, 42] dwX10_actAsOnPaper_27 rfl rfl)
theorem dX10_actAsOnPaper_35 : decode cX10_actAsOnPaper 35 = .ok (.ifCond .ne 36, 3) := dko_154 (dk_t 8 35 [154, 0, 36, 42, 42] dwX10_actAsOnPaper_27 rfl rfl)
theorem dX10_actAsOnPaper_38 : decode cX10_actAsOnPaper 38 = .ok (.aload_n 0, 1) := dko_42 (dk_t 11 38 [42, 42] dwX10_actAsOnPaper_27 rfl rfl)
theorem dX10_actAsOnPaper_39 : decode cX10_actAsOnPaper 39 = .ok (.aload_n 0, 1) := dko_42 (dk_t 12 39 [42] dwX10_actAsOnPaper_27 rfl rfl)
theorem dwX10_actAsOnPaper_40 : dkW cX10_actAsOnPaper 40 [180, 0, 61, 182, 0, 225, 154, 0, 6, 16, 251, 172, 42] = true := by decide +kernel
theorem dX10_actAsOnPaper_40 : decode cX10_actAsOnPaper 40 = .ok (.getfield 61, 3) := dko_180 dwX10_actAsOnPaper_40
theorem dX10_actAsOnPaper_43 : decode cX10_actAsOnPaper 43 = .ok (.invokevirtual 225, 3) := dko_182 (dk_t 3 43 [182, 0, 225, 154, 0, 6, 16, 251, 172, 42] dwX10_actAsOnPaper_40 rfl rfl)
theorem dX10_actAsOnPaper_46 : decode cX10_actAsOnPaper 46 = .ok (.ifCond .ne 6, 3) := dko_154 (dk_t 6 46 [154, 0, 6, 16, 251, 172, 42] dwX10_actAsOnPaper_40 rfl rfl)
theorem dX10_actAsOnPaper_49 : decode cX10_actAsOnPaper 49 = .ok (.bipush (-5), 2) := dko_16 (dk_t 9 49 [16, 251, 172, 42] dwX10_actAsOnPaper_40 rfl rfl)
theorem dX10_actAsOnPaper_51 : decode cX10_actAsOnPaper 51 = .ok (.ireturn, 1) := dko_172 (dk_t 11 51 [172, 42] dwX10_actAsOnPaper_40 rfl rfl)
theorem dX10_actAsOnPaper_52 : decode cX10_actAsOnPaper 52 = .ok (.aload_n 0, 1) := dko_42 (dk_t 12 52 [42] dwX10_actAsOnPaper_40 rfl rfl)
theorem dwX10_actAsOnPaper_53 : dkW cX10_actAsOnPaper 53 [180, 0, 37, 42, 180, 0, 44, 182, 0, 195, 42, 180, 0, 61] = true := by decide +kernel
theorem dX10_actAsOnPaper_53 : decode cX10_actAsOnPaper 53 = .ok (.getfield 37, 3) := dko_180 dwX10_actAsOnPaper_53
theorem dX10_actAsOnPaper_56 : decode cX10_actAsOnPaper 56 = .ok (.aload_n 0, 1) := dko_42 (dk_t 3 56 [42, 180, 0, 44, 182, 0, 195, 42, 180, 0, 61] dwX10_actAsOnPaper_53 rfl rfl)
theorem dX10_actAsOnPaper_57 : decode cX10_actAsOnPaper 57 = .ok (.getfield 44, 3) := dko_180 (dk_t 4 57 [180, 0, 44, 182, 0, 195, 42, 180, 0, 61] dwX10_actAsOnPaper_53 rfl rfl)
theorem dX10_actAsOnPaper_60 : decode cX10_actAsOnPaper 60 = .ok (.invokevirtual 195, 3) := dko_182 (dk_t 7 60 [182, 0, 195, 42, 180, 0, 61] dwX10_actAsOnPaper_53 rfl rfl)
theorem dX10_actAsOnPaper_63 : decode cX10_actAsOnPaper 63 = .ok (.aload_n 0, 1) := dko_42 (dk_t 10 63 [42, 180, 0, 61] dwX10_actAsOnPaper_53 rfl rfl)
theorem dX10_actAsOnPaper_64 : decode cX10_actAsOnPaper 64 = .ok (.getfield 61, 3) := dko_180 (dk_t 11 64 [180, 0, 61] dwX10_actAsOnPaper_53 rfl rfl)
theorem dwX10_actAsOnPaper_67 : dkW cX10_actAsOnPaper 67 [182, 0, 232, 172, 42, 3, 182, 0, 251, 42, 180, 0, 95, 7] = true := by decide +kernel
theorem dX10_actAsOnPaper_67 : decode cX10_actAsOnPaper 67 = .ok (.invokevirtual 232, 3) := dko_182 dwX10_actAsOnPaper_67
theorem dX10_actAsOnPaper_70 : decode cX10_actAsOnPaper 70 = .ok (.ireturn, 1) := dko_172 (dk_t 3 70 [172, 42, 3, 182, 0, 251, 42, 180, 0, 95, 7] dwX10_actAsOnPaper_67 rfl rfl)
theorem dX10_actAsOnPaper_71 : decode cX10_actAsOnPaper 71 = .ok (.aload_n 0, 1) := dko_42 (dk_t 4 71 [42, 3, 182, 0, 251, 42, 180, 0, 95, 7] dwX10_actAsOnPaper_67 rfl rfl)
theorem dX10_actAsOnPaper_72 : decode cX10_actAsOnPaper 72 = .ok (.iconst 0, 1) := dko_3 (dk_t 5 72 [3, 182, 0, 251, 42, 180, 0, 95, 7] dwX10_actAsOnPaper_67 rfl rfl)
theorem dX10_actAsOnPaper_73 : decode cX10_actAsOnPaper 73 = .ok (.invokevirtual 251, 3) := dko_182 (dk_t 6 73 [182, 0, 251, 42, 180, 0, 95, 7] dwX10_actAsOnPaper_67 rfl rfl)
theorem dX10_actAsOnPaper_76 : decode cX10_actAsOnPaper 76 = .ok (.aload_n 0, 1) := dko_42 (dk_t 9 76 [42, 180, 0, 95, 7] dwX10_actAsOnPaper_67 rfl rfl)
theorem dX10_actAsOnPaper_77 : decode cX10_actAsOnPaper 77 = .ok (.getfield 95, 3) := dko_180 (dk_t 10 77 [180, 0, 95, 7] dwX10_actAsOnPaper_67 rfl rfl)
theorem dX10_actAsOnPaper_80 : decode cX10_actAsOnPaper 80 = .ok (.iconst 4, 1) := dko_7 (dk_t 13 80 [7] dwX10_actAsOnPaper_67 rfl rfl)
theorem dwX10_actAsOnPaper_81 : dkW cX10_actAsOnPaper 81 [92, 46, 4, 96, 79, 42, 180, 0, 37, 42, 180, 0, 44] = true := by decide +kernel
theorem dX10_actAsOnPaper_81 : decode cX10_actAsOnPaper 81 = .ok (.dup2, 1) := dko_92 dwX10_actAsOnPaper_81
theorem dX10_actAsOnPaper_82 : decode cX10_actAsOnPaper 82 = .ok (.iaload, 1) := dko_46 (dk_t 1 82 [46, 4, 96, 79, 42, 180, 0, 37, 42, 180, 0, 44] dwX10_actAsOnPaper_81 rfl rfl)
theorem dX10_actAsOnPaper_83 : decode cX10_actAsOnPaper 83 = .ok (.iconst 1, 1) := dko_4 (dk_t 2 83 [4, 96, 79, 42, 180, 0, 37, 42, 180, 0, 44] dwX10_actAsOnPaper_81 rfl rfl)
theorem dX10_actAsOnPaper_84 : decode cX10_actAsOnPaper 84 = .ok (.iadd, 1) := dko_96 (dk_t 3 84 [96, 79, 42, 180, 0, 37, 42, 180, 0, 44] dwX10_actAsOnPaper_81 rfl rfl)
theorem dX10_actAsOnPaper_85 : decode cX10_actAsOnPaper 85 = .ok (.iastore, 1) := dko_79 (dk_t 4 85 [79, 42, 180, 0, 37, 42, 180, 0, 44] dwX10_actAsOnPaper_81 rfl rfl)
theorem dX10_actAsOnPaper_86 : decode cX10_actAsOnPaper 86 = .ok (.aload_n 0, 1) := dko_42 (dk_t 5 86 [42, 180, 0, 37, 42, 180, 0, 44] dwX10_actAsOnPaper_81 rfl rfl)
theorem dX10_actAsOnPaper_87 : decode cX10_actAsOnPaper 87 = .ok (.getfield 37, 3) := dko_180 (dk_t 6 87 [180, 0, 37, 42, 180, 0, 44] dwX10_actAsOnPaper_81 rfl rfl)
theorem dX10_actAsOnPaper_90 : decode cX10_actAsOnPaper 90 = .ok (.aload_n 0, 1) := dko_42 (dk_t 9 90 [42, 180, 0, 44] dwX10_actAsOnPaper_81 rfl rfl)
theorem dX10_actAsOnPaper_91 : decode cX10_actAsOnPaper 91 = .ok (.getfield 44, 3) := dko_180 (dk_t 10 91 [180, 0, 44] dwX10_actAsOnPaper_81 rfl rfl)
theorem dwX10_actAsOnPaper_94 : dkW cX10_actAsOnPaper 94 [182, 0, 195, 42, 42, 180, 0, 57, 42, 180, 0, 41, 42] = true := by decide +kernel
theorem dX10_actAsOnPaper_94 : decode cX10_actAsOnPaper 94 = .ok (.invokevirtual 195, 3) := dko_182 dwX10_actAsOnPaper_94
theorem dX10_actAsOnPaper_97 : decode cX10_actAsOnPaper 97 = .ok (.aload_n 0, 1) := dko_42 (dk_t 3 97 [42, 42, 180, 0, 57, 42, 180, 0, 41, 42] dwX10_actAsOnPaper_94 rfl rfl)
theorem dX10_actAsOnPaper_98 : decode cX10_actAsOnPaper 98 = .ok (.aload_n 0, 1) := dko_42 (dk_t 4 98 [42, 180, 0, 57, 42, 180, 0, 41, 42] dwX10_actAsOnPaper_94 rfl rfl)
theorem dX10_actAsOnPaper_99 : decode cX10_actAsOnPaper 99 = .ok (.getfield 57, 3) := dko_180 (dk_t 5 99 [180, 0, 57, 42, 180, 0, 41, 42] dwX10_actAsOnPaper_94 rfl rfl)
theorem dX10_actAsOnPaper_102 : decode cX10_actAsOnPaper 102 = .ok (.aload_n 0, 1) := dko_42 (dk_t 8 102 [42, 180, 0, 41, 42] dwX10_actAsOnPaper_94 rfl rfl)
theorem dX10_actAsOnPaper_103 : decode cX10_actAsOnPaper 103 = .ok (.getfield 41, 3) := dko_180 (dk_t 9 103 [180, 0, 41, 42] dwX10_actAsOnPaper_94 rfl rfl)
theorem dX10_actAsOnPaper_106 : decode cX10_actAsOnPaper 106 = .ok (.aload_n 0, 1) := dko_42 (dk_t 12 106 [42] dwX10_actAsOnPaper_94 rfl rfl)
theorem dwX10_actAsOnPaper_107 : dkW cX10_actAsOnPaper 107 [180, 0, 37, 4, 182, 0, 240, 42, 180, 0, 61, 182, 0, 232] = true := by decide +kernel
theorem dX10_actAsOnPaper_107 : decode cX10_actAsOnPaper 107 = .ok (.getfield 37, 3) := dko_180 dwX10_actAsOnPaper_107
theorem dX10_actAsOnPaper_110 : decode cX10_actAsOnPaper 110 = .ok (.iconst 1, 1) := dko_4 (dk_t 3 110 [4, 182, 0, 240, 42, 180, 0, 61, 182, 0, 232] dwX10_actAsOnPaper_107 rfl rfl)
theorem dX10_actAsOnPaper_111 : decode cX10_actAsOnPaper 111 = .ok (.invokevirtual 240, 3) := dko_182 (dk_t 4 111 [182, 0, 240, 42, 180, 0, 61, 182, 0, 232] dwX10_actAsOnPaper_107 rfl rfl)
theorem dX10_actAsOnPaper_114 : decode cX10_actAsOnPaper 114 = .ok (.aload_n 0, 1) := dko_42 (dk_t 7 114 [42, 180, 0, 61, 182, 0, 232] dwX10_actAsOnPaper_107 rfl rfl)
theorem dX10_actAsOnPaper_115 : decode cX10_actAsOnPaper 115 = .ok (.getfield 61, 3) := dko_180 (dk_t 8 115 [180, 0, 61, 182, 0, 232] dwX10_actAsOnPaper_107 rfl rfl)
theorem dX10_actAsOnPaper_118 : decode cX10_actAsOnPaper 118 = .ok (.invokevirtual 232, 3) := dko_182 (dk_t 11 118 [182, 0, 232] dwX10_actAsOnPaper_107 rfl rfl)
theorem dwX10_actAsOnPaper_121 : dkW cX10_actAsOnPaper 121 [172] = true := by decide +kernel
theorem dX10_actAsOnPaper_121 : decode cX10_actAsOnPaper 121 = .ok (.ireturn, 1) := dko_172 dwX10_actAsOnPaper_121
theorem dwX10_askAtOnce_0 : dkW cX10_askAtOnce 0 [3, 60, 27, 42, 180, 0, 61, 182, 0, 232, 162, 0, 55, 42] = true := by decide +kernel
theorem dX10_askAtOnce_0 : decode cX10_askAtOnce 0 = .ok (.iconst 0, 1) := dko_3 dwX10_askAtOnce_0
theorem dX10_askAtOnce_1 : decode cX10_askAtOnce 1 = .ok (.istore_n 1, 1) := dko_60 (dk_t 1 1 [60, 27, 42, 180, 0, 61, 182, 0, 232, 162, 0, 55, 42] dwX10_askAtOnce_0 rfl rfl)
theorem dX10_askAtOnce_2 : decode cX10_askAtOnce 2 = .ok (.iload_n 1, 1) := dko_27 (dk_t 2 2 [27, 42, 180, 0, 61, 182, 0, 232, 162, 0, 55, 42] dwX10_askAtOnce_0 rfl rfl)
theorem dX10_askAtOnce_3 : decode cX10_askAtOnce 3 = .ok (.aload_n 0, 1) := dko_42 (dk_t 3 3 [42, 180, 0, 61, 182, 0, 232, 162, 0, 55, 42] dwX10_askAtOnce_0 rfl rfl)
theorem dX10_askAtOnce_4 : decode cX10_askAtOnce 4 = .ok (.getfield 61, 3) := dko_180 (dk_t 4 4 [180, 0, 61, 182, 0, 232, 162, 0, 55, 42] dwX10_askAtOnce_0 rfl rfl)
theorem dX10_askAtOnce_7 : decode cX10_askAtOnce 7 = .ok (.invokevirtual 232, 3) := dko_182 (dk_t 7 7 [182, 0, 232, 162, 0, 55, 42] dwX10_askAtOnce_0 rfl rfl)
theorem dX10_askAtOnce_10 : decode cX10_askAtOnce 10 = .ok (.if_icmp .ge 55, 3) := dko_162 (dk_t 10 10 [162, 0, 55, 42] dwX10_askAtOnce_0 rfl rfl)
theorem dX10_askAtOnce_13 : decode cX10_askAtOnce 13 = .ok (.aload_n 0, 1) := dko_42 (dk_t 13 13 [42] dwX10_askAtOnce_0 rfl rfl)
theorem dwX10_askAtOnce_14 : dkW cX10_askAtOnce 14 [180, 0, 61, 27, 182, 1, 148, 153, 0, 6, 167, 0, 35, 42] = true := by decide +kernel
theorem dX10_askAtOnce_14 : decode cX10_askAtOnce 14 = .ok (.getfield 61, 3) := dko_180 dwX10_askAtOnce_14
theorem dX10_askAtOnce_17 : decode cX10_askAtOnce 17 = .ok (.iload_n 1, 1) := dko_27 (dk_t 3 17 [27, 182, 1, 148, 153, 0, 6, 167, 0, 35, 42] dwX10_askAtOnce_14 rfl rfl)
theorem dX10_askAtOnce_18 : decode cX10_askAtOnce 18 = .ok (.invokevirtual 404, 3) := dko_182 (dk_t 4 18 [182, 1, 148, 153, 0, 6, 167, 0, 35, 42] dwX10_askAtOnce_14 rfl rfl)
theorem dX10_askAtOnce_21 : decode cX10_askAtOnce 21 = .ok (.ifCond .eq 6, 3) := dko_153 (dk_t 7 21 [153, 0, 6, 167, 0, 35, 42] dwX10_askAtOnce_14 rfl rfl)
theorem dX10_askAtOnce_24 : decode cX10_askAtOnce 24 = .ok (.goto 35, 3) := dko_167 (dk_t 10 24 [167, 0, 35, 42] dwX10_askAtOnce_14 rfl rfl)
theorem dX10_askAtOnce_27 : decode cX10_askAtOnce 27 = .ok (.aload_n 0, 1) := dko_42 (dk_t 13 27 [42] dwX10_askAtOnce_14 rfl rfl)
theorem dwX10_askAtOnce_28 : dkW cX10_askAtOnce 28 [180, 0, 99, 3, 92, 46, 4, 96, 79, 42, 180, 0, 61, 27] = true := by decide +kernel
theorem dX10_askAtOnce_28 : decode cX10_askAtOnce 28 = .ok (.getfield 99, 3) := dko_180 dwX10_askAtOnce_28
theorem dX10_askAtOnce_31 : decode cX10_askAtOnce 31 = .ok (.iconst 0, 1) := dko_3 (dk_t 3 31 [3, 92, 46, 4, 96, 79, 42, 180, 0, 61, 27] dwX10_askAtOnce_28 rfl rfl)
theorem dX10_askAtOnce_32 : decode cX10_askAtOnce 32 = .ok (.dup2, 1) := dko_92 (dk_t 4 32 [92, 46, 4, 96, 79, 42, 180, 0, 61, 27] dwX10_askAtOnce_28 rfl rfl)
theorem dX10_askAtOnce_33 : decode cX10_askAtOnce 33 = .ok (.iaload, 1) := dko_46 (dk_t 5 33 [46, 4, 96, 79, 42, 180, 0, 61, 27] dwX10_askAtOnce_28 rfl rfl)
theorem dX10_askAtOnce_34 : decode cX10_askAtOnce 34 = .ok (.iconst 1, 1) := dko_4 (dk_t 6 34 [4, 96, 79, 42, 180, 0, 61, 27] dwX10_askAtOnce_28 rfl rfl)
theorem dX10_askAtOnce_35 : decode cX10_askAtOnce 35 = .ok (.iadd, 1) := dko_96 (dk_t 7 35 [96, 79, 42, 180, 0, 61, 27] dwX10_askAtOnce_28 rfl rfl)
theorem dX10_askAtOnce_36 : decode cX10_askAtOnce 36 = .ok (.iastore, 1) := dko_79 (dk_t 8 36 [79, 42, 180, 0, 61, 27] dwX10_askAtOnce_28 rfl rfl)
theorem dX10_askAtOnce_37 : decode cX10_askAtOnce 37 = .ok (.aload_n 0, 1) := dko_42 (dk_t 9 37 [42, 180, 0, 61, 27] dwX10_askAtOnce_28 rfl rfl)
theorem dX10_askAtOnce_38 : decode cX10_askAtOnce 38 = .ok (.getfield 61, 3) := dko_180 (dk_t 10 38 [180, 0, 61, 27] dwX10_askAtOnce_28 rfl rfl)
theorem dX10_askAtOnce_41 : decode cX10_askAtOnce 41 = .ok (.iload_n 1, 1) := dko_27 (dk_t 13 41 [27] dwX10_askAtOnce_28 rfl rfl)
theorem dwX10_askAtOnce_42 : dkW cX10_askAtOnce 42 [182, 1, 53, 153, 0, 14, 42, 42, 180, 0, 61, 27] = true := by decide +kernel
theorem dX10_askAtOnce_42 : decode cX10_askAtOnce 42 = .ok (.invokevirtual 309, 3) := dko_182 dwX10_askAtOnce_42
theorem dX10_askAtOnce_45 : decode cX10_askAtOnce 45 = .ok (.ifCond .eq 14, 3) := dko_153 (dk_t 3 45 [153, 0, 14, 42, 42, 180, 0, 61, 27] dwX10_askAtOnce_42 rfl rfl)
theorem dX10_askAtOnce_48 : decode cX10_askAtOnce 48 = .ok (.aload_n 0, 1) := dko_42 (dk_t 6 48 [42, 42, 180, 0, 61, 27] dwX10_askAtOnce_42 rfl rfl)
theorem dX10_askAtOnce_49 : decode cX10_askAtOnce 49 = .ok (.aload_n 0, 1) := dko_42 (dk_t 7 49 [42, 180, 0, 61, 27] dwX10_askAtOnce_42 rfl rfl)
theorem dX10_askAtOnce_50 : decode cX10_askAtOnce 50 = .ok (.getfield 61, 3) := dko_180 (dk_t 8 50 [180, 0, 61, 27] dwX10_askAtOnce_42 rfl rfl)
theorem dX10_askAtOnce_53 : decode cX10_askAtOnce 53 = .ok (.iload_n 1, 1) := dko_27 (dk_t 11 53 [27] dwX10_askAtOnce_42 rfl rfl)
theorem dwX10_askAtOnce_54 : dkW cX10_askAtOnce 54 [182, 0, 247, 3, 172, 132, 1, 1, 167, 255, 196, 4, 172] = true := by decide +kernel
theorem dX10_askAtOnce_54 : decode cX10_askAtOnce 54 = .ok (.invokevirtual 247, 3) := dko_182 dwX10_askAtOnce_54
theorem dX10_askAtOnce_57 : decode cX10_askAtOnce 57 = .ok (.iconst 0, 1) := dko_3 (dk_t 3 57 [3, 172, 132, 1, 1, 167, 255, 196, 4, 172] dwX10_askAtOnce_54 rfl rfl)
theorem dX10_askAtOnce_58 : decode cX10_askAtOnce 58 = .ok (.ireturn, 1) := dko_172 (dk_t 4 58 [172, 132, 1, 1, 167, 255, 196, 4, 172] dwX10_askAtOnce_54 rfl rfl)
theorem dX10_askAtOnce_59 : decode cX10_askAtOnce 59 = .ok (.iinc 1 1, 3) := dko_132 (dk_t 5 59 [132, 1, 1, 167, 255, 196, 4, 172] dwX10_askAtOnce_54 rfl rfl)
theorem dX10_askAtOnce_62 : decode cX10_askAtOnce 62 = .ok (.goto (-60), 3) := dko_167 (dk_t 8 62 [167, 255, 196, 4, 172] dwX10_askAtOnce_54 rfl rfl)
theorem dX10_askAtOnce_65 : decode cX10_askAtOnce 65 = .ok (.iconst 1, 1) := dko_4 (dk_t 11 65 [4, 172] dwX10_askAtOnce_54 rfl rfl)
theorem dX10_askAtOnce_66 : decode cX10_askAtOnce 66 = .ok (.ireturn, 1) := dko_172 (dk_t 12 66 [172] dwX10_askAtOnce_54 rfl rfl)
theorem dwX10_askToCommit_0 : dkW cX10_askToCommit 0 [42, 180, 0, 64, 182, 1, 130, 3, 61, 28, 43, 182, 0, 232] = true := by decide +kernel
theorem dX10_askToCommit_0 : decode cX10_askToCommit 0 = .ok (.aload_n 0, 1) := dko_42 dwX10_askToCommit_0
theorem dX10_askToCommit_1 : decode cX10_askToCommit 1 = .ok (.getfield 64, 3) := dko_180 (dk_t 1 1 [180, 0, 64, 182, 1, 130, 3, 61, 28, 43, 182, 0, 232] dwX10_askToCommit_0 rfl rfl)
theorem dX10_askToCommit_4 : decode cX10_askToCommit 4 = .ok (.invokevirtual 386, 3) := dko_182 (dk_t 4 4 [182, 1, 130, 3, 61, 28, 43, 182, 0, 232] dwX10_askToCommit_0 rfl rfl)
theorem dX10_askToCommit_7 : decode cX10_askToCommit 7 = .ok (.iconst 0, 1) := dko_3 (dk_t 7 7 [3, 61, 28, 43, 182, 0, 232] dwX10_askToCommit_0 rfl rfl)
theorem dX10_askToCommit_8 : decode cX10_askToCommit 8 = .ok (.istore_n 2, 1) := dko_61 (dk_t 8 8 [61, 28, 43, 182, 0, 232] dwX10_askToCommit_0 rfl rfl)
theorem dX10_askToCommit_9 : decode cX10_askToCommit 9 = .ok (.iload_n 2, 1) := dko_28 (dk_t 9 9 [28, 43, 182, 0, 232] dwX10_askToCommit_0 rfl rfl)
theorem dX10_askToCommit_10 : decode cX10_askToCommit 10 = .ok (.aload_n 1, 1) := dko_43 (dk_t 10 10 [43, 182, 0, 232] dwX10_askToCommit_0 rfl rfl)
theorem dX10_askToCommit_11 : decode cX10_askToCommit 11 = .ok (.invokevirtual 232, 3) := dko_182 (dk_t 11 11 [182, 0, 232] dwX10_askToCommit_0 rfl rfl)
theorem dwX10_askToCommit_14 : dkW cX10_askToCommit 14 [162, 0, 65, 43, 28, 182, 1, 148, 154, 0, 6, 167, 0, 48] = true := by decide +kernel
theorem dX10_askToCommit_14 : decode cX10_askToCommit 14 = .ok (.if_icmp .ge 65, 3) := dko_162 dwX10_askToCommit_14
theorem dX10_askToCommit_17 : decode cX10_askToCommit 17 = .ok (.aload_n 1, 1) := dko_43 (dk_t 3 17 [43, 28, 182, 1, 148, 154, 0, 6, 167, 0, 48] dwX10_askToCommit_14 rfl rfl)
theorem dX10_askToCommit_18 : decode cX10_askToCommit 18 = .ok (.iload_n 2, 1) := dko_28 (dk_t 4 18 [28, 182, 1, 148, 154, 0, 6, 167, 0, 48] dwX10_askToCommit_14 rfl rfl)
theorem dX10_askToCommit_19 : decode cX10_askToCommit 19 = .ok (.invokevirtual 404, 3) := dko_182 (dk_t 5 19 [182, 1, 148, 154, 0, 6, 167, 0, 48] dwX10_askToCommit_14 rfl rfl)
theorem dX10_askToCommit_22 : decode cX10_askToCommit 22 = .ok (.ifCond .ne 6, 3) := dko_154 (dk_t 8 22 [154, 0, 6, 167, 0, 48] dwX10_askToCommit_14 rfl rfl)
theorem dX10_askToCommit_25 : decode cX10_askToCommit 25 = .ok (.goto 48, 3) := dko_167 (dk_t 11 25 [167, 0, 48] dwX10_askToCommit_14 rfl rfl)
theorem dwX10_askToCommit_28 : dkW cX10_askToCommit 28 [42, 180, 0, 99, 3, 92, 46, 4, 96, 79, 42, 180, 0, 64] = true := by decide +kernel
theorem dX10_askToCommit_28 : decode cX10_askToCommit 28 = .ok (.aload_n 0, 1) := dko_42 dwX10_askToCommit_28
theorem dX10_askToCommit_29 : decode cX10_askToCommit 29 = .ok (.getfield 99, 3) := dko_180 (dk_t 1 29 [180, 0, 99, 3, 92, 46, 4, 96, 79, 42, 180, 0, 64] dwX10_askToCommit_28 rfl rfl)
theorem dX10_askToCommit_32 : decode cX10_askToCommit 32 = .ok (.iconst 0, 1) := dko_3 (dk_t 4 32 [3, 92, 46, 4, 96, 79, 42, 180, 0, 64] dwX10_askToCommit_28 rfl rfl)
theorem dX10_askToCommit_33 : decode cX10_askToCommit 33 = .ok (.dup2, 1) := dko_92 (dk_t 5 33 [92, 46, 4, 96, 79, 42, 180, 0, 64] dwX10_askToCommit_28 rfl rfl)
theorem dX10_askToCommit_34 : decode cX10_askToCommit 34 = .ok (.iaload, 1) := dko_46 (dk_t 6 34 [46, 4, 96, 79, 42, 180, 0, 64] dwX10_askToCommit_28 rfl rfl)
theorem dX10_askToCommit_35 : decode cX10_askToCommit 35 = .ok (.iconst 1, 1) := dko_4 (dk_t 7 35 [4, 96, 79, 42, 180, 0, 64] dwX10_askToCommit_28 rfl rfl)
theorem dX10_askToCommit_36 : decode cX10_askToCommit 36 = .ok (.iadd, 1) := dko_96 (dk_t 8 36 [96, 79, 42, 180, 0, 64] dwX10_askToCommit_28 rfl rfl)
theorem dX10_askToCommit_37 : decode cX10_askToCommit 37 = .ok (.iastore, 1) := dko_79 (dk_t 9 37 [79, 42, 180, 0, 64] dwX10_askToCommit_28 rfl rfl)
theorem dX10_askToCommit_38 : decode cX10_askToCommit 38 = .ok (.aload_n 0, 1) := dko_42 (dk_t 10 38 [42, 180, 0, 64] dwX10_askToCommit_28 rfl rfl)
theorem dX10_askToCommit_39 : decode cX10_askToCommit 39 = .ok (.getfield 64, 3) := dko_180 (dk_t 11 39 [180, 0, 64] dwX10_askToCommit_28 rfl rfl)
theorem dwX10_askToCommit_42 : dkW cX10_askToCommit 42 [43, 28, 182, 1, 151, 43, 28, 182, 1, 53, 153, 0, 21, 42] = true := by decide +kernel
theorem dX10_askToCommit_42 : decode cX10_askToCommit 42 = .ok (.aload_n 1, 1) := dko_43 dwX10_askToCommit_42
theorem dX10_askToCommit_43 : decode cX10_askToCommit 43 = .ok (.iload_n 2, 1) := dko_28 (dk_t 1 43 [28, 182, 1, 151, 43, 28, 182, 1, 53, 153, 0, 21, 42] dwX10_askToCommit_42 rfl rfl)
theorem dX10_askToCommit_44 : decode cX10_askToCommit 44 = .ok (.invokevirtual 407, 3) := dko_182 (dk_t 2 44 [182, 1, 151, 43, 28, 182, 1, 53, 153, 0, 21, 42] dwX10_askToCommit_42 rfl rfl)
theorem dX10_askToCommit_47 : decode cX10_askToCommit 47 = .ok (.aload_n 1, 1) := dko_43 (dk_t 5 47 [43, 28, 182, 1, 53, 153, 0, 21, 42] dwX10_askToCommit_42 rfl rfl)
theorem dX10_askToCommit_48 : decode cX10_askToCommit 48 = .ok (.iload_n 2, 1) := dko_28 (dk_t 6 48 [28, 182, 1, 53, 153, 0, 21, 42] dwX10_askToCommit_42 rfl rfl)
theorem dX10_askToCommit_49 : decode cX10_askToCommit 49 = .ok (.invokevirtual 309, 3) := dko_182 (dk_t 7 49 [182, 1, 53, 153, 0, 21, 42] dwX10_askToCommit_42 rfl rfl)
theorem dX10_askToCommit_52 : decode cX10_askToCommit 52 = .ok (.ifCond .eq 21, 3) := dko_153 (dk_t 10 52 [153, 0, 21, 42] dwX10_askToCommit_42 rfl rfl)
theorem dX10_askToCommit_55 : decode cX10_askToCommit 55 = .ok (.aload_n 0, 1) := dko_42 (dk_t 13 55 [42] dwX10_askToCommit_42 rfl rfl)
theorem dwX10_askToCommit_56 : dkW cX10_askToCommit 56 [43, 28, 182, 0, 247, 42, 180, 0, 99, 5, 92, 46, 4, 96] = true := by decide +kernel
theorem dX10_askToCommit_56 : decode cX10_askToCommit 56 = .ok (.aload_n 1, 1) := dko_43 dwX10_askToCommit_56
theorem dX10_askToCommit_57 : decode cX10_askToCommit 57 = .ok (.iload_n 2, 1) := dko_28 (dk_t 1 57 [28, 182, 0, 247, 42, 180, 0, 99, 5, 92, 46, 4, 96] dwX10_askToCommit_56 rfl rfl)
theorem dX10_askToCommit_58 : decode cX10_askToCommit 58 = .ok (.invokevirtual 247, 3) := dko_182 (dk_t 2 58 [182, 0, 247, 42, 180, 0, 99, 5, 92, 46, 4, 96] dwX10_askToCommit_56 rfl rfl)
theorem dX10_askToCommit_61 : decode cX10_askToCommit 61 = .ok (.aload_n 0, 1) := dko_42 (dk_t 5 61 [42, 180, 0, 99, 5, 92, 46, 4, 96] dwX10_askToCommit_56 rfl rfl)
theorem dX10_askToCommit_62 : decode cX10_askToCommit 62 = .ok (.getfield 99, 3) := dko_180 (dk_t 6 62 [180, 0, 99, 5, 92, 46, 4, 96] dwX10_askToCommit_56 rfl rfl)
theorem dX10_askToCommit_65 : decode cX10_askToCommit 65 = .ok (.iconst 2, 1) := dko_5 (dk_t 9 65 [5, 92, 46, 4, 96] dwX10_askToCommit_56 rfl rfl)
theorem dX10_askToCommit_66 : decode cX10_askToCommit 66 = .ok (.dup2, 1) := dko_92 (dk_t 10 66 [92, 46, 4, 96] dwX10_askToCommit_56 rfl rfl)
theorem dX10_askToCommit_67 : decode cX10_askToCommit 67 = .ok (.iaload, 1) := dko_46 (dk_t 11 67 [46, 4, 96] dwX10_askToCommit_56 rfl rfl)
theorem dX10_askToCommit_68 : decode cX10_askToCommit 68 = .ok (.iconst 1, 1) := dko_4 (dk_t 12 68 [4, 96] dwX10_askToCommit_56 rfl rfl)
theorem dX10_askToCommit_69 : decode cX10_askToCommit 69 = .ok (.iadd, 1) := dko_96 (dk_t 13 69 [96] dwX10_askToCommit_56 rfl rfl)
theorem dwX10_askToCommit_70 : dkW cX10_askToCommit 70 [79, 3, 172, 132, 2, 1, 167, 255, 189, 42, 180, 0, 99, 4] = true := by decide +kernel
theorem dX10_askToCommit_70 : decode cX10_askToCommit 70 = .ok (.iastore, 1) := dko_79 dwX10_askToCommit_70
theorem dX10_askToCommit_71 : decode cX10_askToCommit 71 = .ok (.iconst 0, 1) := dko_3 (dk_t 1 71 [3, 172, 132, 2, 1, 167, 255, 189, 42, 180, 0, 99, 4] dwX10_askToCommit_70 rfl rfl)
theorem dX10_askToCommit_72 : decode cX10_askToCommit 72 = .ok (.ireturn, 1) := dko_172 (dk_t 2 72 [172, 132, 2, 1, 167, 255, 189, 42, 180, 0, 99, 4] dwX10_askToCommit_70 rfl rfl)
theorem dX10_askToCommit_73 : decode cX10_askToCommit 73 = .ok (.iinc 2 1, 3) := dko_132 (dk_t 3 73 [132, 2, 1, 167, 255, 189, 42, 180, 0, 99, 4] dwX10_askToCommit_70 rfl rfl)
theorem dX10_askToCommit_76 : decode cX10_askToCommit 76 = .ok (.goto (-67), 3) := dko_167 (dk_t 6 76 [167, 255, 189, 42, 180, 0, 99, 4] dwX10_askToCommit_70 rfl rfl)
theorem dX10_askToCommit_79 : decode cX10_askToCommit 79 = .ok (.aload_n 0, 1) := dko_42 (dk_t 9 79 [42, 180, 0, 99, 4] dwX10_askToCommit_70 rfl rfl)
theorem dX10_askToCommit_80 : decode cX10_askToCommit 80 = .ok (.getfield 99, 3) := dko_180 (dk_t 10 80 [180, 0, 99, 4] dwX10_askToCommit_70 rfl rfl)
theorem dX10_askToCommit_83 : decode cX10_askToCommit 83 = .ok (.iconst 1, 1) := dko_4 (dk_t 13 83 [4] dwX10_askToCommit_70 rfl rfl)
theorem dwX10_askToCommit_84 : dkW cX10_askToCommit 84 [92, 46, 4, 96, 79, 4, 172] = true := by decide +kernel
theorem dX10_askToCommit_84 : decode cX10_askToCommit 84 = .ok (.dup2, 1) := dko_92 dwX10_askToCommit_84
theorem dX10_askToCommit_85 : decode cX10_askToCommit 85 = .ok (.iaload, 1) := dko_46 (dk_t 1 85 [46, 4, 96, 79, 4, 172] dwX10_askToCommit_84 rfl rfl)
theorem dX10_askToCommit_86 : decode cX10_askToCommit 86 = .ok (.iconst 1, 1) := dko_4 (dk_t 2 86 [4, 96, 79, 4, 172] dwX10_askToCommit_84 rfl rfl)
theorem dX10_askToCommit_87 : decode cX10_askToCommit 87 = .ok (.iadd, 1) := dko_96 (dk_t 3 87 [96, 79, 4, 172] dwX10_askToCommit_84 rfl rfl)
theorem dX10_askToCommit_88 : decode cX10_askToCommit 88 = .ok (.iastore, 1) := dko_79 (dk_t 4 88 [79, 4, 172] dwX10_askToCommit_84 rfl rfl)
theorem dX10_askToCommit_89 : decode cX10_askToCommit 89 = .ok (.iconst 1, 1) := dko_4 (dk_t 5 89 [4, 172] dwX10_askToCommit_84 rfl rfl)
theorem dX10_askToCommit_90 : decode cX10_askToCommit 90 = .ok (.ireturn, 1) := dko_172 (dk_t 6 90 [172] dwX10_askToCommit_84 rfl rfl)
theorem dwX10_tally_0 : dkW cX10_tally 0 [3, 61, 28, 42, 180, 0, 61, 182, 0, 232, 162, 0, 122, 42] = true := by decide +kernel
theorem dX10_tally_0 : decode cX10_tally 0 = .ok (.iconst 0, 1) := dko_3 dwX10_tally_0
theorem dX10_tally_1 : decode cX10_tally 1 = .ok (.istore_n 2, 1) := dko_61 (dk_t 1 1 [61, 28, 42, 180, 0, 61, 182, 0, 232, 162, 0, 122, 42] dwX10_tally_0 rfl rfl)
theorem dX10_tally_2 : decode cX10_tally 2 = .ok (.iload_n 2, 1) := dko_28 (dk_t 2 2 [28, 42, 180, 0, 61, 182, 0, 232, 162, 0, 122, 42] dwX10_tally_0 rfl rfl)
theorem dX10_tally_3 : decode cX10_tally 3 = .ok (.aload_n 0, 1) := dko_42 (dk_t 3 3 [42, 180, 0, 61, 182, 0, 232, 162, 0, 122, 42] dwX10_tally_0 rfl rfl)
theorem dX10_tally_4 : decode cX10_tally 4 = .ok (.getfield 61, 3) := dko_180 (dk_t 4 4 [180, 0, 61, 182, 0, 232, 162, 0, 122, 42] dwX10_tally_0 rfl rfl)
theorem dX10_tally_7 : decode cX10_tally 7 = .ok (.invokevirtual 232, 3) := dko_182 (dk_t 7 7 [182, 0, 232, 162, 0, 122, 42] dwX10_tally_0 rfl rfl)
theorem dX10_tally_10 : decode cX10_tally 10 = .ok (.if_icmp .ge 122, 3) := dko_162 (dk_t 10 10 [162, 0, 122, 42] dwX10_tally_0 rfl rfl)
theorem dX10_tally_13 : decode cX10_tally 13 = .ok (.aload_n 0, 1) := dko_42 (dk_t 13 13 [42] dwX10_tally_0 rfl rfl)
theorem dwX10_tally_14 : dkW cX10_tally 14 [180, 0, 30, 42, 180, 0, 61, 28, 182, 1, 45, 182, 0, 159] = true := by decide +kernel
theorem dX10_tally_14 : decode cX10_tally 14 = .ok (.getfield 30, 3) := dko_180 dwX10_tally_14
theorem dX10_tally_17 : decode cX10_tally 17 = .ok (.aload_n 0, 1) := dko_42 (dk_t 3 17 [42, 180, 0, 61, 28, 182, 1, 45, 182, 0, 159] dwX10_tally_14 rfl rfl)
theorem dX10_tally_18 : decode cX10_tally 18 = .ok (.getfield 61, 3) := dko_180 (dk_t 4 18 [180, 0, 61, 28, 182, 1, 45, 182, 0, 159] dwX10_tally_14 rfl rfl)
theorem dX10_tally_21 : decode cX10_tally 21 = .ok (.iload_n 2, 1) := dko_28 (dk_t 7 21 [28, 182, 1, 45, 182, 0, 159] dwX10_tally_14 rfl rfl)
theorem dX10_tally_22 : decode cX10_tally 22 = .ok (.invokevirtual 301, 3) := dko_182 (dk_t 8 22 [182, 1, 45, 182, 0, 159] dwX10_tally_14 rfl rfl)
theorem dX10_tally_25 : decode cX10_tally 25 = .ok (.invokevirtual 159, 3) := dko_182 (dk_t 11 25 [182, 0, 159] dwX10_tally_14 rfl rfl)
theorem dwX10_tally_28 : dkW cX10_tally 28 [78, 45, 198, 0, 96, 45, 180, 0, 170, 154, 0, 6] = true := by decide +kernel
theorem dX10_tally_28 : decode cX10_tally 28 = .ok (.astore_n 3, 1) := dko_78 dwX10_tally_28
theorem dX10_tally_29 : decode cX10_tally 29 = .ok (.aload_n 3, 1) := dko_45 (dk_t 1 29 [45, 198, 0, 96, 45, 180, 0, 170, 154, 0, 6] dwX10_tally_28 rfl rfl)
theorem dX10_tally_30 : decode cX10_tally 30 = .ok (.ifnull 96, 3) := dko_198 (dk_t 2 30 [198, 0, 96, 45, 180, 0, 170, 154, 0, 6] dwX10_tally_28 rfl rfl)
theorem dX10_tally_33 : decode cX10_tally 33 = .ok (.aload_n 3, 1) := dko_45 (dk_t 5 33 [45, 180, 0, 170, 154, 0, 6] dwX10_tally_28 rfl rfl)
theorem dX10_tally_34 : decode cX10_tally 34 = .ok (.getfield 170, 3) := dko_180 (dk_t 6 34 [180, 0, 170, 154, 0, 6] dwX10_tally_28 rfl rfl)
theorem dX10_tally_37 : decode cX10_tally 37 = .ok (.ifCond .ne 6, 3) := dko_154 (dk_t 9 37 [154, 0, 6] dwX10_tally_28 rfl rfl)
theorem dwX10_tally_40 : dkW cX10_tally 40 [167, 0, 86, 45, 42, 180, 0, 41, 42, 180, 0, 61, 28] = true := by decide +kernel
theorem dX10_tally_40 : decode cX10_tally 40 = .ok (.goto 86, 3) := dko_167 dwX10_tally_40
theorem dX10_tally_43 : decode cX10_tally 43 = .ok (.aload_n 3, 1) := dko_45 (dk_t 3 43 [45, 42, 180, 0, 41, 42, 180, 0, 61, 28] dwX10_tally_40 rfl rfl)
theorem dX10_tally_44 : decode cX10_tally 44 = .ok (.aload_n 0, 1) := dko_42 (dk_t 4 44 [42, 180, 0, 41, 42, 180, 0, 61, 28] dwX10_tally_40 rfl rfl)
theorem dX10_tally_45 : decode cX10_tally 45 = .ok (.getfield 41, 3) := dko_180 (dk_t 5 45 [180, 0, 41, 42, 180, 0, 61, 28] dwX10_tally_40 rfl rfl)
theorem dX10_tally_48 : decode cX10_tally 48 = .ok (.aload_n 0, 1) := dko_42 (dk_t 8 48 [42, 180, 0, 61, 28] dwX10_tally_40 rfl rfl)
theorem dX10_tally_49 : decode cX10_tally 49 = .ok (.getfield 61, 3) := dko_180 (dk_t 9 49 [180, 0, 61, 28] dwX10_tally_40 rfl rfl)
theorem dX10_tally_52 : decode cX10_tally 52 = .ok (.iload_n 2, 1) := dko_28 (dk_t 12 52 [28] dwX10_tally_40 rfl rfl)
theorem dwX10_tally_53 : dkW cX10_tally 53 [182, 0, 147, 182, 1, 72, 54, 4, 42, 180, 0, 61, 28] = true := by decide +kernel
theorem dX10_tally_53 : decode cX10_tally 53 = .ok (.invokevirtual 147, 3) := dko_182 dwX10_tally_53
theorem dX10_tally_56 : decode cX10_tally 56 = .ok (.invokevirtual 328, 3) := dko_182 (dk_t 3 56 [182, 1, 72, 54, 4, 42, 180, 0, 61, 28] dwX10_tally_53 rfl rfl)
theorem dX10_tally_59 : decode cX10_tally 59 = .ok (.istore 4, 2) := dko_54 (dk_t 6 59 [54, 4, 42, 180, 0, 61, 28] dwX10_tally_53 rfl rfl)
theorem dX10_tally_61 : decode cX10_tally 61 = .ok (.aload_n 0, 1) := dko_42 (dk_t 8 61 [42, 180, 0, 61, 28] dwX10_tally_53 rfl rfl)
theorem dX10_tally_62 : decode cX10_tally 62 = .ok (.getfield 61, 3) := dko_180 (dk_t 9 62 [180, 0, 61, 28] dwX10_tally_53 rfl rfl)
theorem dX10_tally_65 : decode cX10_tally 65 = .ok (.iload_n 2, 1) := dko_28 (dk_t 12 65 [28] dwX10_tally_53 rfl rfl)
theorem dwX10_tally_66 : dkW cX10_tally 66 [182, 1, 47, 21, 4, 160, 0, 24, 42, 180, 0, 95, 27] = true := by decide +kernel
theorem dX10_tally_66 : decode cX10_tally 66 = .ok (.invokevirtual 303, 3) := dko_182 dwX10_tally_66
theorem dX10_tally_69 : decode cX10_tally 69 = .ok (.iload 4, 2) := dko_21 (dk_t 3 69 [21, 4, 160, 0, 24, 42, 180, 0, 95, 27] dwX10_tally_66 rfl rfl)
theorem dX10_tally_71 : decode cX10_tally 71 = .ok (.if_icmp .ne 24, 3) := dko_160 (dk_t 5 71 [160, 0, 24, 42, 180, 0, 95, 27] dwX10_tally_66 rfl rfl)
theorem dX10_tally_74 : decode cX10_tally 74 = .ok (.aload_n 0, 1) := dko_42 (dk_t 8 74 [42, 180, 0, 95, 27] dwX10_tally_66 rfl rfl)
theorem dX10_tally_75 : decode cX10_tally 75 = .ok (.getfield 95, 3) := dko_180 (dk_t 9 75 [180, 0, 95, 27] dwX10_tally_66 rfl rfl)
theorem dX10_tally_78 : decode cX10_tally 78 = .ok (.iload_n 1, 1) := dko_27 (dk_t 12 78 [27] dwX10_tally_66 rfl rfl)
theorem dwX10_tally_79 : dkW cX10_tally 79 [153, 0, 7, 6, 167, 0, 4, 3, 92, 46, 4, 96, 79] = true := by decide +kernel
theorem dX10_tally_79 : decode cX10_tally 79 = .ok (.ifCond .eq 7, 3) := dko_153 dwX10_tally_79
theorem dX10_tally_82 : decode cX10_tally 82 = .ok (.iconst 3, 1) := dko_6 (dk_t 3 82 [6, 167, 0, 4, 3, 92, 46, 4, 96, 79] dwX10_tally_79 rfl rfl)
theorem dX10_tally_83 : decode cX10_tally 83 = .ok (.goto 4, 3) := dko_167 (dk_t 4 83 [167, 0, 4, 3, 92, 46, 4, 96, 79] dwX10_tally_79 rfl rfl)
theorem dX10_tally_86 : decode cX10_tally 86 = .ok (.iconst 0, 1) := dko_3 (dk_t 7 86 [3, 92, 46, 4, 96, 79] dwX10_tally_79 rfl rfl)
theorem dX10_tally_87 : decode cX10_tally 87 = .ok (.dup2, 1) := dko_92 (dk_t 8 87 [92, 46, 4, 96, 79] dwX10_tally_79 rfl rfl)
theorem dX10_tally_88 : decode cX10_tally 88 = .ok (.iaload, 1) := dko_46 (dk_t 9 88 [46, 4, 96, 79] dwX10_tally_79 rfl rfl)
theorem dX10_tally_89 : decode cX10_tally 89 = .ok (.iconst 1, 1) := dko_4 (dk_t 10 89 [4, 96, 79] dwX10_tally_79 rfl rfl)
theorem dX10_tally_90 : decode cX10_tally 90 = .ok (.iadd, 1) := dko_96 (dk_t 11 90 [96, 79] dwX10_tally_79 rfl rfl)
theorem dX10_tally_91 : decode cX10_tally 91 = .ok (.iastore, 1) := dko_79 (dk_t 12 91 [79] dwX10_tally_79 rfl rfl)
theorem dwX10_tally_92 : dkW cX10_tally 92 [167, 0, 34, 42, 180, 0, 61, 28, 182, 1, 50, 21, 4] = true := by decide +kernel
theorem dX10_tally_92 : decode cX10_tally 92 = .ok (.goto 34, 3) := dko_167 dwX10_tally_92
theorem dX10_tally_95 : decode cX10_tally 95 = .ok (.aload_n 0, 1) := dko_42 (dk_t 3 95 [42, 180, 0, 61, 28, 182, 1, 50, 21, 4] dwX10_tally_92 rfl rfl)
theorem dX10_tally_96 : decode cX10_tally 96 = .ok (.getfield 61, 3) := dko_180 (dk_t 4 96 [180, 0, 61, 28, 182, 1, 50, 21, 4] dwX10_tally_92 rfl rfl)
theorem dX10_tally_99 : decode cX10_tally 99 = .ok (.iload_n 2, 1) := dko_28 (dk_t 7 99 [28, 182, 1, 50, 21, 4] dwX10_tally_92 rfl rfl)
theorem dX10_tally_100 : decode cX10_tally 100 = .ok (.invokevirtual 306, 3) := dko_182 (dk_t 8 100 [182, 1, 50, 21, 4] dwX10_tally_92 rfl rfl)
theorem dX10_tally_103 : decode cX10_tally 103 = .ok (.iload 4, 2) := dko_21 (dk_t 11 103 [21, 4] dwX10_tally_92 rfl rfl)
theorem dwX10_tally_105 : dkW cX10_tally 105 [160, 0, 21, 42, 180, 0, 95, 27, 153, 0, 7, 5] = true := by decide +kernel
theorem dX10_tally_105 : decode cX10_tally 105 = .ok (.if_icmp .ne 21, 3) := dko_160 dwX10_tally_105
theorem dX10_tally_108 : decode cX10_tally 108 = .ok (.aload_n 0, 1) := dko_42 (dk_t 3 108 [42, 180, 0, 95, 27, 153, 0, 7, 5] dwX10_tally_105 rfl rfl)
theorem dX10_tally_109 : decode cX10_tally 109 = .ok (.getfield 95, 3) := dko_180 (dk_t 4 109 [180, 0, 95, 27, 153, 0, 7, 5] dwX10_tally_105 rfl rfl)
theorem dX10_tally_112 : decode cX10_tally 112 = .ok (.iload_n 1, 1) := dko_27 (dk_t 7 112 [27, 153, 0, 7, 5] dwX10_tally_105 rfl rfl)
theorem dX10_tally_113 : decode cX10_tally 113 = .ok (.ifCond .eq 7, 3) := dko_153 (dk_t 8 113 [153, 0, 7, 5] dwX10_tally_105 rfl rfl)
theorem dX10_tally_116 : decode cX10_tally 116 = .ok (.iconst 2, 1) := dko_5 (dk_t 11 116 [5] dwX10_tally_105 rfl rfl)
theorem dwX10_tally_117 : dkW cX10_tally 117 [167, 0, 4, 4, 92, 46, 4, 96, 79, 132, 2, 1] = true := by decide +kernel
theorem dX10_tally_117 : decode cX10_tally 117 = .ok (.goto 4, 3) := dko_167 dwX10_tally_117
theorem dX10_tally_120 : decode cX10_tally 120 = .ok (.iconst 1, 1) := dko_4 (dk_t 3 120 [4, 92, 46, 4, 96, 79, 132, 2, 1] dwX10_tally_117 rfl rfl)
theorem dX10_tally_121 : decode cX10_tally 121 = .ok (.dup2, 1) := dko_92 (dk_t 4 121 [92, 46, 4, 96, 79, 132, 2, 1] dwX10_tally_117 rfl rfl)
theorem dX10_tally_122 : decode cX10_tally 122 = .ok (.iaload, 1) := dko_46 (dk_t 5 122 [46, 4, 96, 79, 132, 2, 1] dwX10_tally_117 rfl rfl)
theorem dX10_tally_123 : decode cX10_tally 123 = .ok (.iconst 1, 1) := dko_4 (dk_t 6 123 [4, 96, 79, 132, 2, 1] dwX10_tally_117 rfl rfl)
theorem dX10_tally_124 : decode cX10_tally 124 = .ok (.iadd, 1) := dko_96 (dk_t 7 124 [96, 79, 132, 2, 1] dwX10_tally_117 rfl rfl)
theorem dX10_tally_125 : decode cX10_tally 125 = .ok (.iastore, 1) := dko_79 (dk_t 8 125 [79, 132, 2, 1] dwX10_tally_117 rfl rfl)
theorem dX10_tally_126 : decode cX10_tally 126 = .ok (.iinc 2 1, 3) := dko_132 (dk_t 9 126 [132, 2, 1] dwX10_tally_117 rfl rfl)
theorem dwX10_tally_129 : dkW cX10_tally 129 [167, 255, 129, 177] = true := by decide +kernel
theorem dX10_tally_129 : decode cX10_tally 129 = .ok (.goto (-127), 3) := dko_167 dwX10_tally_129
theorem dX10_tally_132 : decode cX10_tally 132 = .ok (.return_, 1) := dko_177 (dk_t 3 132 [177] dwX10_tally_129 rfl rfl)
theorem dwX10_changedSince_0 : dkW cX10_changedSince 0 [3, 61, 3, 62, 29, 42, 180, 0, 57, 182, 0, 232] = true := by decide +kernel
theorem dX10_changedSince_0 : decode cX10_changedSince 0 = .ok (.iconst 0, 1) := dko_3 dwX10_changedSince_0
theorem dX10_changedSince_1 : decode cX10_changedSince 1 = .ok (.istore_n 2, 1) := dko_61 (dk_t 1 1 [61, 3, 62, 29, 42, 180, 0, 57, 182, 0, 232] dwX10_changedSince_0 rfl rfl)
theorem dX10_changedSince_2 : decode cX10_changedSince 2 = .ok (.iconst 0, 1) := dko_3 (dk_t 2 2 [3, 62, 29, 42, 180, 0, 57, 182, 0, 232] dwX10_changedSince_0 rfl rfl)
theorem dX10_changedSince_3 : decode cX10_changedSince 3 = .ok (.istore_n 3, 1) := dko_62 (dk_t 3 3 [62, 29, 42, 180, 0, 57, 182, 0, 232] dwX10_changedSince_0 rfl rfl)
theorem dX10_changedSince_4 : decode cX10_changedSince 4 = .ok (.iload_n 3, 1) := dko_29 (dk_t 4 4 [29, 42, 180, 0, 57, 182, 0, 232] dwX10_changedSince_0 rfl rfl)
theorem dX10_changedSince_5 : decode cX10_changedSince 5 = .ok (.aload_n 0, 1) := dko_42 (dk_t 5 5 [42, 180, 0, 57, 182, 0, 232] dwX10_changedSince_0 rfl rfl)
theorem dX10_changedSince_6 : decode cX10_changedSince 6 = .ok (.getfield 57, 3) := dko_180 (dk_t 6 6 [180, 0, 57, 182, 0, 232] dwX10_changedSince_0 rfl rfl)
theorem dX10_changedSince_9 : decode cX10_changedSince 9 = .ok (.invokevirtual 232, 3) := dko_182 (dk_t 9 9 [182, 0, 232] dwX10_changedSince_0 rfl rfl)
theorem dwX10_changedSince_12 : dkW cX10_changedSince 12 [162, 0, 59, 42, 180, 0, 30, 42, 180, 0, 57, 29] = true := by decide +kernel
theorem dX10_changedSince_12 : decode cX10_changedSince 12 = .ok (.if_icmp .ge 59, 3) := dko_162 dwX10_changedSince_12
theorem dX10_changedSince_15 : decode cX10_changedSince 15 = .ok (.aload_n 0, 1) := dko_42 (dk_t 3 15 [42, 180, 0, 30, 42, 180, 0, 57, 29] dwX10_changedSince_12 rfl rfl)
theorem dX10_changedSince_16 : decode cX10_changedSince 16 = .ok (.getfield 30, 3) := dko_180 (dk_t 4 16 [180, 0, 30, 42, 180, 0, 57, 29] dwX10_changedSince_12 rfl rfl)
theorem dX10_changedSince_19 : decode cX10_changedSince 19 = .ok (.aload_n 0, 1) := dko_42 (dk_t 7 19 [42, 180, 0, 57, 29] dwX10_changedSince_12 rfl rfl)
theorem dX10_changedSince_20 : decode cX10_changedSince 20 = .ok (.getfield 57, 3) := dko_180 (dk_t 8 20 [180, 0, 57, 29] dwX10_changedSince_12 rfl rfl)
theorem dX10_changedSince_23 : decode cX10_changedSince 23 = .ok (.iload_n 3, 1) := dko_29 (dk_t 11 23 [29] dwX10_changedSince_12 rfl rfl)
theorem dwX10_changedSince_24 : dkW cX10_changedSince 24 [182, 1, 45, 182, 0, 159, 58, 4, 25, 4, 198, 0, 31] = true := by decide +kernel
theorem dX10_changedSince_24 : decode cX10_changedSince 24 = .ok (.invokevirtual 301, 3) := dko_182 dwX10_changedSince_24
theorem dX10_changedSince_27 : decode cX10_changedSince 27 = .ok (.invokevirtual 159, 3) := dko_182 (dk_t 3 27 [182, 0, 159, 58, 4, 25, 4, 198, 0, 31] dwX10_changedSince_24 rfl rfl)
theorem dX10_changedSince_30 : decode cX10_changedSince 30 = .ok (.astore 4, 2) := dko_58 (dk_t 6 30 [58, 4, 25, 4, 198, 0, 31] dwX10_changedSince_24 rfl rfl)
theorem dX10_changedSince_32 : decode cX10_changedSince 32 = .ok (.aload 4, 2) := dko_25 (dk_t 8 32 [25, 4, 198, 0, 31] dwX10_changedSince_24 rfl rfl)
theorem dX10_changedSince_34 : decode cX10_changedSince 34 = .ok (.ifnull 31, 3) := dko_198 (dk_t 10 34 [198, 0, 31] dwX10_changedSince_24 rfl rfl)
theorem dwX10_changedSince_37 : dkW cX10_changedSince 37 [25, 4, 43, 42, 180, 0, 57, 29, 182, 0, 147, 182, 1, 72] = true := by decide +kernel
theorem dX10_changedSince_37 : decode cX10_changedSince 37 = .ok (.aload 4, 2) := dko_25 dwX10_changedSince_37
theorem dX10_changedSince_39 : decode cX10_changedSince 39 = .ok (.aload_n 1, 1) := dko_43 (dk_t 2 39 [43, 42, 180, 0, 57, 29, 182, 0, 147, 182, 1, 72] dwX10_changedSince_37 rfl rfl)
theorem dX10_changedSince_40 : decode cX10_changedSince 40 = .ok (.aload_n 0, 1) := dko_42 (dk_t 3 40 [42, 180, 0, 57, 29, 182, 0, 147, 182, 1, 72] dwX10_changedSince_37 rfl rfl)
theorem dX10_changedSince_41 : decode cX10_changedSince 41 = .ok (.getfield 57, 3) := dko_180 (dk_t 4 41 [180, 0, 57, 29, 182, 0, 147, 182, 1, 72] dwX10_changedSince_37 rfl rfl)
theorem dX10_changedSince_44 : decode cX10_changedSince 44 = .ok (.iload_n 3, 1) := dko_29 (dk_t 7 44 [29, 182, 0, 147, 182, 1, 72] dwX10_changedSince_37 rfl rfl)
theorem dX10_changedSince_45 : decode cX10_changedSince 45 = .ok (.invokevirtual 147, 3) := dko_182 (dk_t 8 45 [182, 0, 147, 182, 1, 72] dwX10_changedSince_37 rfl rfl)
theorem dX10_changedSince_48 : decode cX10_changedSince 48 = .ok (.invokevirtual 328, 3) := dko_182 (dk_t 11 48 [182, 1, 72] dwX10_changedSince_37 rfl rfl)
theorem dwX10_changedSince_51 : dkW cX10_changedSince 51 [42, 180, 0, 57, 29, 182, 1, 50, 159, 0, 6, 132, 2, 1] = true := by decide +kernel
theorem dX10_changedSince_51 : decode cX10_changedSince 51 = .ok (.aload_n 0, 1) := dko_42 dwX10_changedSince_51
theorem dX10_changedSince_52 : decode cX10_changedSince 52 = .ok (.getfield 57, 3) := dko_180 (dk_t 1 52 [180, 0, 57, 29, 182, 1, 50, 159, 0, 6, 132, 2, 1] dwX10_changedSince_51 rfl rfl)
theorem dX10_changedSince_55 : decode cX10_changedSince 55 = .ok (.iload_n 3, 1) := dko_29 (dk_t 4 55 [29, 182, 1, 50, 159, 0, 6, 132, 2, 1] dwX10_changedSince_51 rfl rfl)
theorem dX10_changedSince_56 : decode cX10_changedSince 56 = .ok (.invokevirtual 306, 3) := dko_182 (dk_t 5 56 [182, 1, 50, 159, 0, 6, 132, 2, 1] dwX10_changedSince_51 rfl rfl)
theorem dX10_changedSince_59 : decode cX10_changedSince 59 = .ok (.if_icmp .eq 6, 3) := dko_159 (dk_t 8 59 [159, 0, 6, 132, 2, 1] dwX10_changedSince_51 rfl rfl)
theorem dX10_changedSince_62 : decode cX10_changedSince 62 = .ok (.iinc 2 1, 3) := dko_132 (dk_t 11 62 [132, 2, 1] dwX10_changedSince_51 rfl rfl)
theorem dwX10_changedSince_65 : dkW cX10_changedSince 65 [132, 3, 1, 167, 255, 192, 28, 172] = true := by decide +kernel
theorem dX10_changedSince_65 : decode cX10_changedSince 65 = .ok (.iinc 3 1, 3) := dko_132 dwX10_changedSince_65
theorem dX10_changedSince_68 : decode cX10_changedSince 68 = .ok (.goto (-64), 3) := dko_167 (dk_t 3 68 [167, 255, 192, 28, 172] dwX10_changedSince_65 rfl rfl)
theorem dX10_changedSince_71 : decode cX10_changedSince 71 = .ok (.iload_n 2, 1) := dko_28 (dk_t 6 71 [28, 172] dwX10_changedSince_65 rfl rfl)
theorem dX10_changedSince_72 : decode cX10_changedSince 72 = .ok (.ireturn, 1) := dko_172 (dk_t 7 72 [172] dwX10_changedSince_65 rfl rfl)
theorem dwX10_settledSince_0 : dkW cX10_settledSince 0 [42, 42, 180, 0, 61, 42, 180, 0, 41, 43, 4, 182, 0, 240] = true := by decide +kernel
theorem dX10_settledSince_0 : decode cX10_settledSince 0 = .ok (.aload_n 0, 1) := dko_42 dwX10_settledSince_0
theorem dX10_settledSince_1 : decode cX10_settledSince 1 = .ok (.aload_n 0, 1) := dko_42 (dk_t 1 1 [42, 180, 0, 61, 42, 180, 0, 41, 43, 4, 182, 0, 240] dwX10_settledSince_0 rfl rfl)
theorem dX10_settledSince_2 : decode cX10_settledSince 2 = .ok (.getfield 61, 3) := dko_180 (dk_t 2 2 [180, 0, 61, 42, 180, 0, 41, 43, 4, 182, 0, 240] dwX10_settledSince_0 rfl rfl)
theorem dX10_settledSince_5 : decode cX10_settledSince 5 = .ok (.aload_n 0, 1) := dko_42 (dk_t 5 5 [42, 180, 0, 41, 43, 4, 182, 0, 240] dwX10_settledSince_0 rfl rfl)
theorem dX10_settledSince_6 : decode cX10_settledSince 6 = .ok (.getfield 41, 3) := dko_180 (dk_t 6 6 [180, 0, 41, 43, 4, 182, 0, 240] dwX10_settledSince_0 rfl rfl)
theorem dX10_settledSince_9 : decode cX10_settledSince 9 = .ok (.aload_n 1, 1) := dko_43 (dk_t 9 9 [43, 4, 182, 0, 240] dwX10_settledSince_0 rfl rfl)
theorem dX10_settledSince_10 : decode cX10_settledSince 10 = .ok (.iconst 1, 1) := dko_4 (dk_t 10 10 [4, 182, 0, 240] dwX10_settledSince_0 rfl rfl)
theorem dX10_settledSince_11 : decode cX10_settledSince 11 = .ok (.invokevirtual 240, 3) := dko_182 (dk_t 11 11 [182, 0, 240] dwX10_settledSince_0 rfl rfl)
theorem dwX10_settledSince_14 : dkW cX10_settledSince 14 [3, 61, 3, 62, 29, 42, 180, 0, 61, 182, 0, 232] = true := by decide +kernel
theorem dX10_settledSince_14 : decode cX10_settledSince 14 = .ok (.iconst 0, 1) := dko_3 dwX10_settledSince_14
theorem dX10_settledSince_15 : decode cX10_settledSince 15 = .ok (.istore_n 2, 1) := dko_61 (dk_t 1 15 [61, 3, 62, 29, 42, 180, 0, 61, 182, 0, 232] dwX10_settledSince_14 rfl rfl)
theorem dX10_settledSince_16 : decode cX10_settledSince 16 = .ok (.iconst 0, 1) := dko_3 (dk_t 2 16 [3, 62, 29, 42, 180, 0, 61, 182, 0, 232] dwX10_settledSince_14 rfl rfl)
theorem dX10_settledSince_17 : decode cX10_settledSince 17 = .ok (.istore_n 3, 1) := dko_62 (dk_t 3 17 [62, 29, 42, 180, 0, 61, 182, 0, 232] dwX10_settledSince_14 rfl rfl)
theorem dX10_settledSince_18 : decode cX10_settledSince 18 = .ok (.iload_n 3, 1) := dko_29 (dk_t 4 18 [29, 42, 180, 0, 61, 182, 0, 232] dwX10_settledSince_14 rfl rfl)
theorem dX10_settledSince_19 : decode cX10_settledSince 19 = .ok (.aload_n 0, 1) := dko_42 (dk_t 5 19 [42, 180, 0, 61, 182, 0, 232] dwX10_settledSince_14 rfl rfl)
theorem dX10_settledSince_20 : decode cX10_settledSince 20 = .ok (.getfield 61, 3) := dko_180 (dk_t 6 20 [180, 0, 61, 182, 0, 232] dwX10_settledSince_14 rfl rfl)
theorem dX10_settledSince_23 : decode cX10_settledSince 23 = .ok (.invokevirtual 232, 3) := dko_182 (dk_t 9 23 [182, 0, 232] dwX10_settledSince_14 rfl rfl)
theorem dwX10_settledSince_26 : dkW cX10_settledSince 26 [162, 0, 62, 42, 180, 0, 30, 42, 180, 0, 61, 29] = true := by decide +kernel
theorem dX10_settledSince_26 : decode cX10_settledSince 26 = .ok (.if_icmp .ge 62, 3) := dko_162 dwX10_settledSince_26
theorem dX10_settledSince_29 : decode cX10_settledSince 29 = .ok (.aload_n 0, 1) := dko_42 (dk_t 3 29 [42, 180, 0, 30, 42, 180, 0, 61, 29] dwX10_settledSince_26 rfl rfl)
theorem dX10_settledSince_30 : decode cX10_settledSince 30 = .ok (.getfield 30, 3) := dko_180 (dk_t 4 30 [180, 0, 30, 42, 180, 0, 61, 29] dwX10_settledSince_26 rfl rfl)
theorem dX10_settledSince_33 : decode cX10_settledSince 33 = .ok (.aload_n 0, 1) := dko_42 (dk_t 7 33 [42, 180, 0, 61, 29] dwX10_settledSince_26 rfl rfl)
theorem dX10_settledSince_34 : decode cX10_settledSince 34 = .ok (.getfield 61, 3) := dko_180 (dk_t 8 34 [180, 0, 61, 29] dwX10_settledSince_26 rfl rfl)
theorem dX10_settledSince_37 : decode cX10_settledSince 37 = .ok (.iload_n 3, 1) := dko_29 (dk_t 11 37 [29] dwX10_settledSince_26 rfl rfl)
theorem dwX10_settledSince_38 : dkW cX10_settledSince 38 [182, 1, 45, 182, 0, 159, 58, 4, 25, 4, 198, 0, 34] = true := by decide +kernel
theorem dX10_settledSince_38 : decode cX10_settledSince 38 = .ok (.invokevirtual 301, 3) := dko_182 dwX10_settledSince_38
theorem dX10_settledSince_41 : decode cX10_settledSince 41 = .ok (.invokevirtual 159, 3) := dko_182 (dk_t 3 41 [182, 0, 159, 58, 4, 25, 4, 198, 0, 34] dwX10_settledSince_38 rfl rfl)
theorem dX10_settledSince_44 : decode cX10_settledSince 44 = .ok (.astore 4, 2) := dko_58 (dk_t 6 44 [58, 4, 25, 4, 198, 0, 34] dwX10_settledSince_38 rfl rfl)
theorem dX10_settledSince_46 : decode cX10_settledSince 46 = .ok (.aload 4, 2) := dko_25 (dk_t 8 46 [25, 4, 198, 0, 34] dwX10_settledSince_38 rfl rfl)
theorem dX10_settledSince_48 : decode cX10_settledSince 48 = .ok (.ifnull 34, 3) := dko_198 (dk_t 10 48 [198, 0, 34] dwX10_settledSince_38 rfl rfl)
theorem dwX10_settledSince_51 : dkW cX10_settledSince 51 [25, 4, 42, 180, 0, 37, 42, 180, 0, 61, 29, 182, 0, 147] = true := by decide +kernel
theorem dX10_settledSince_51 : decode cX10_settledSince 51 = .ok (.aload 4, 2) := dko_25 dwX10_settledSince_51
theorem dX10_settledSince_53 : decode cX10_settledSince 53 = .ok (.aload_n 0, 1) := dko_42 (dk_t 2 53 [42, 180, 0, 37, 42, 180, 0, 61, 29, 182, 0, 147] dwX10_settledSince_51 rfl rfl)
theorem dX10_settledSince_54 : decode cX10_settledSince 54 = .ok (.getfield 37, 3) := dko_180 (dk_t 3 54 [180, 0, 37, 42, 180, 0, 61, 29, 182, 0, 147] dwX10_settledSince_51 rfl rfl)
theorem dX10_settledSince_57 : decode cX10_settledSince 57 = .ok (.aload_n 0, 1) := dko_42 (dk_t 6 57 [42, 180, 0, 61, 29, 182, 0, 147] dwX10_settledSince_51 rfl rfl)
theorem dX10_settledSince_58 : decode cX10_settledSince 58 = .ok (.getfield 61, 3) := dko_180 (dk_t 7 58 [180, 0, 61, 29, 182, 0, 147] dwX10_settledSince_51 rfl rfl)
theorem dX10_settledSince_61 : decode cX10_settledSince 61 = .ok (.iload_n 3, 1) := dko_29 (dk_t 10 61 [29, 182, 0, 147] dwX10_settledSince_51 rfl rfl)
theorem dX10_settledSince_62 : decode cX10_settledSince 62 = .ok (.invokevirtual 147, 3) := dko_182 (dk_t 11 62 [182, 0, 147] dwX10_settledSince_51 rfl rfl)
theorem dwX10_settledSince_65 : dkW cX10_settledSince 65 [182, 1, 72, 42, 180, 0, 61, 29, 182, 1, 47, 160, 0, 6] = true := by decide +kernel
theorem dX10_settledSince_65 : decode cX10_settledSince 65 = .ok (.invokevirtual 328, 3) := dko_182 dwX10_settledSince_65
theorem dX10_settledSince_68 : decode cX10_settledSince 68 = .ok (.aload_n 0, 1) := dko_42 (dk_t 3 68 [42, 180, 0, 61, 29, 182, 1, 47, 160, 0, 6] dwX10_settledSince_65 rfl rfl)
theorem dX10_settledSince_69 : decode cX10_settledSince 69 = .ok (.getfield 61, 3) := dko_180 (dk_t 4 69 [180, 0, 61, 29, 182, 1, 47, 160, 0, 6] dwX10_settledSince_65 rfl rfl)
theorem dX10_settledSince_72 : decode cX10_settledSince 72 = .ok (.iload_n 3, 1) := dko_29 (dk_t 7 72 [29, 182, 1, 47, 160, 0, 6] dwX10_settledSince_65 rfl rfl)
theorem dX10_settledSince_73 : decode cX10_settledSince 73 = .ok (.invokevirtual 303, 3) := dko_182 (dk_t 8 73 [182, 1, 47, 160, 0, 6] dwX10_settledSince_65 rfl rfl)
theorem dX10_settledSince_76 : decode cX10_settledSince 76 = .ok (.if_icmp .ne 6, 3) := dko_160 (dk_t 11 76 [160, 0, 6] dwX10_settledSince_65 rfl rfl)
theorem dwX10_settledSince_79 : dkW cX10_settledSince 79 [132, 2, 1, 132, 3, 1, 167, 255, 189, 28, 172] = true := by decide +kernel
theorem dX10_settledSince_79 : decode cX10_settledSince 79 = .ok (.iinc 2 1, 3) := dko_132 dwX10_settledSince_79
theorem dX10_settledSince_82 : decode cX10_settledSince 82 = .ok (.iinc 3 1, 3) := dko_132 (dk_t 3 82 [132, 3, 1, 167, 255, 189, 28, 172] dwX10_settledSince_79 rfl rfl)
theorem dX10_settledSince_85 : decode cX10_settledSince 85 = .ok (.goto (-67), 3) := dko_167 (dk_t 6 85 [167, 255, 189, 28, 172] dwX10_settledSince_79 rfl rfl)
theorem dX10_settledSince_88 : decode cX10_settledSince 88 = .ok (.iload_n 2, 1) := dko_28 (dk_t 9 88 [28, 172] dwX10_settledSince_79 rfl rfl)
theorem dX10_settledSince_89 : decode cX10_settledSince 89 = .ok (.ireturn, 1) := dko_172 (dk_t 10 89 [172] dwX10_settledSince_79 rfl rfl)
theorem dwX10_answerOnPaper_0 : dkW cX10_answerOnPaper 0 [42, 42, 180, 0, 61, 42, 180, 0, 37, 42, 180, 0, 44, 3] = true := by decide +kernel
theorem dX10_answerOnPaper_0 : decode cX10_answerOnPaper 0 = .ok (.aload_n 0, 1) := dko_42 dwX10_answerOnPaper_0
theorem dX10_answerOnPaper_1 : decode cX10_answerOnPaper 1 = .ok (.aload_n 0, 1) := dko_42 (dk_t 1 1 [42, 180, 0, 61, 42, 180, 0, 37, 42, 180, 0, 44, 3] dwX10_answerOnPaper_0 rfl rfl)
theorem dX10_answerOnPaper_2 : decode cX10_answerOnPaper 2 = .ok (.getfield 61, 3) := dko_180 (dk_t 2 2 [180, 0, 61, 42, 180, 0, 37, 42, 180, 0, 44, 3] dwX10_answerOnPaper_0 rfl rfl)
theorem dX10_answerOnPaper_5 : decode cX10_answerOnPaper 5 = .ok (.aload_n 0, 1) := dko_42 (dk_t 5 5 [42, 180, 0, 37, 42, 180, 0, 44, 3] dwX10_answerOnPaper_0 rfl rfl)
theorem dX10_answerOnPaper_6 : decode cX10_answerOnPaper 6 = .ok (.getfield 37, 3) := dko_180 (dk_t 6 6 [180, 0, 37, 42, 180, 0, 44, 3] dwX10_answerOnPaper_0 rfl rfl)
theorem dX10_answerOnPaper_9 : decode cX10_answerOnPaper 9 = .ok (.aload_n 0, 1) := dko_42 (dk_t 9 9 [42, 180, 0, 44, 3] dwX10_answerOnPaper_0 rfl rfl)
theorem dX10_answerOnPaper_10 : decode cX10_answerOnPaper 10 = .ok (.getfield 44, 3) := dko_180 (dk_t 10 10 [180, 0, 44, 3] dwX10_answerOnPaper_0 rfl rfl)
theorem dX10_answerOnPaper_13 : decode cX10_answerOnPaper 13 = .ok (.iconst 0, 1) := dko_3 (dk_t 13 13 [3] dwX10_answerOnPaper_0 rfl rfl)
theorem dwX10_answerOnPaper_14 : dkW cX10_answerOnPaper 14 [182, 0, 240, 3, 60, 27, 42, 180, 0, 61, 182, 0, 232] = true := by decide +kernel
theorem dX10_answerOnPaper_14 : decode cX10_answerOnPaper 14 = .ok (.invokevirtual 240, 3) := dko_182 dwX10_answerOnPaper_14
theorem dX10_answerOnPaper_17 : decode cX10_answerOnPaper 17 = .ok (.iconst 0, 1) := dko_3 (dk_t 3 17 [3, 60, 27, 42, 180, 0, 61, 182, 0, 232] dwX10_answerOnPaper_14 rfl rfl)
theorem dX10_answerOnPaper_18 : decode cX10_answerOnPaper 18 = .ok (.istore_n 1, 1) := dko_60 (dk_t 4 18 [60, 27, 42, 180, 0, 61, 182, 0, 232] dwX10_answerOnPaper_14 rfl rfl)
theorem dX10_answerOnPaper_19 : decode cX10_answerOnPaper 19 = .ok (.iload_n 1, 1) := dko_27 (dk_t 5 19 [27, 42, 180, 0, 61, 182, 0, 232] dwX10_answerOnPaper_14 rfl rfl)
theorem dX10_answerOnPaper_20 : decode cX10_answerOnPaper 20 = .ok (.aload_n 0, 1) := dko_42 (dk_t 6 20 [42, 180, 0, 61, 182, 0, 232] dwX10_answerOnPaper_14 rfl rfl)
theorem dX10_answerOnPaper_21 : decode cX10_answerOnPaper 21 = .ok (.getfield 61, 3) := dko_180 (dk_t 7 21 [180, 0, 61, 182, 0, 232] dwX10_answerOnPaper_14 rfl rfl)
theorem dX10_answerOnPaper_24 : decode cX10_answerOnPaper 24 = .ok (.invokevirtual 232, 3) := dko_182 (dk_t 10 24 [182, 0, 232] dwX10_answerOnPaper_14 rfl rfl)
theorem dwX10_answerOnPaper_27 : dkW cX10_answerOnPaper 27 [162, 0, 41, 42, 180, 0, 61, 27, 182, 1, 53, 153, 0, 24] = true := by decide +kernel
theorem dX10_answerOnPaper_27 : decode cX10_answerOnPaper 27 = .ok (.if_icmp .ge 41, 3) := dko_162 dwX10_answerOnPaper_27
theorem dX10_answerOnPaper_30 : decode cX10_answerOnPaper 30 = .ok (.aload_n 0, 1) := dko_42 (dk_t 3 30 [42, 180, 0, 61, 27, 182, 1, 53, 153, 0, 24] dwX10_answerOnPaper_27 rfl rfl)
theorem dX10_answerOnPaper_31 : decode cX10_answerOnPaper 31 = .ok (.getfield 61, 3) := dko_180 (dk_t 4 31 [180, 0, 61, 27, 182, 1, 53, 153, 0, 24] dwX10_answerOnPaper_27 rfl rfl)
theorem dX10_answerOnPaper_34 : decode cX10_answerOnPaper 34 = .ok (.iload_n 1, 1) := dko_27 (dk_t 7 34 [27, 182, 1, 53, 153, 0, 24] dwX10_answerOnPaper_27 rfl rfl)
theorem dX10_answerOnPaper_35 : decode cX10_answerOnPaper 35 = .ok (.invokevirtual 309, 3) := dko_182 (dk_t 8 35 [182, 1, 53, 153, 0, 24] dwX10_answerOnPaper_27 rfl rfl)
theorem dX10_answerOnPaper_38 : decode cX10_answerOnPaper 38 = .ok (.ifCond .eq 24, 3) := dko_153 (dk_t 11 38 [153, 0, 24] dwX10_answerOnPaper_27 rfl rfl)
theorem dwX10_answerOnPaper_41 : dkW cX10_answerOnPaper 41 [42, 180, 0, 123, 153, 0, 14, 42, 180, 0, 61, 27] = true := by decide +kernel
theorem dX10_answerOnPaper_41 : decode cX10_answerOnPaper 41 = .ok (.aload_n 0, 1) := dko_42 dwX10_answerOnPaper_41
theorem dX10_answerOnPaper_42 : decode cX10_answerOnPaper 42 = .ok (.getfield 123, 3) := dko_180 (dk_t 1 42 [180, 0, 123, 153, 0, 14, 42, 180, 0, 61, 27] dwX10_answerOnPaper_41 rfl rfl)
theorem dX10_answerOnPaper_45 : decode cX10_answerOnPaper 45 = .ok (.ifCond .eq 14, 3) := dko_153 (dk_t 4 45 [153, 0, 14, 42, 180, 0, 61, 27] dwX10_answerOnPaper_41 rfl rfl)
theorem dX10_answerOnPaper_48 : decode cX10_answerOnPaper 48 = .ok (.aload_n 0, 1) := dko_42 (dk_t 7 48 [42, 180, 0, 61, 27] dwX10_answerOnPaper_41 rfl rfl)
theorem dX10_answerOnPaper_49 : decode cX10_answerOnPaper 49 = .ok (.getfield 61, 3) := dko_180 (dk_t 8 49 [180, 0, 61, 27] dwX10_answerOnPaper_41 rfl rfl)
theorem dX10_answerOnPaper_52 : decode cX10_answerOnPaper 52 = .ok (.iload_n 1, 1) := dko_27 (dk_t 11 52 [27] dwX10_answerOnPaper_41 rfl rfl)
theorem dwX10_answerOnPaper_53 : dkW cX10_answerOnPaper 53 [182, 1, 148, 154, 0, 6, 16, 251, 172, 132, 1, 1] = true := by decide +kernel
theorem dX10_answerOnPaper_53 : decode cX10_answerOnPaper 53 = .ok (.invokevirtual 404, 3) := dko_182 dwX10_answerOnPaper_53
theorem dX10_answerOnPaper_56 : decode cX10_answerOnPaper 56 = .ok (.ifCond .ne 6, 3) := dko_154 (dk_t 3 56 [154, 0, 6, 16, 251, 172, 132, 1, 1] dwX10_answerOnPaper_53 rfl rfl)
theorem dX10_answerOnPaper_59 : decode cX10_answerOnPaper 59 = .ok (.bipush (-5), 2) := dko_16 (dk_t 6 59 [16, 251, 172, 132, 1, 1] dwX10_answerOnPaper_53 rfl rfl)
theorem dX10_answerOnPaper_61 : decode cX10_answerOnPaper 61 = .ok (.ireturn, 1) := dko_172 (dk_t 8 61 [172, 132, 1, 1] dwX10_answerOnPaper_53 rfl rfl)
theorem dX10_answerOnPaper_62 : decode cX10_answerOnPaper 62 = .ok (.iinc 1 1, 3) := dko_132 (dk_t 9 62 [132, 1, 1] dwX10_answerOnPaper_53 rfl rfl)
theorem dwX10_answerOnPaper_65 : dkW cX10_answerOnPaper 65 [167, 255, 210, 42, 180, 0, 61, 182, 0, 232, 172] = true := by decide +kernel
theorem dX10_answerOnPaper_65 : decode cX10_answerOnPaper 65 = .ok (.goto (-46), 3) := dko_167 dwX10_answerOnPaper_65
theorem dX10_answerOnPaper_68 : decode cX10_answerOnPaper 68 = .ok (.aload_n 0, 1) := dko_42 (dk_t 3 68 [42, 180, 0, 61, 182, 0, 232, 172] dwX10_answerOnPaper_65 rfl rfl)
theorem dX10_answerOnPaper_69 : decode cX10_answerOnPaper 69 = .ok (.getfield 61, 3) := dko_180 (dk_t 4 69 [180, 0, 61, 182, 0, 232, 172] dwX10_answerOnPaper_65 rfl rfl)
theorem dX10_answerOnPaper_72 : decode cX10_answerOnPaper 72 = .ok (.invokevirtual 232, 3) := dko_182 (dk_t 7 72 [182, 0, 232, 172] dwX10_answerOnPaper_65 rfl rfl)
theorem dX10_answerOnPaper_75 : decode cX10_answerOnPaper 75 = .ok (.ireturn, 1) := dko_172 (dk_t 10 75 [172] dwX10_answerOnPaper_65 rfl rfl)
theorem dwX10_holdsOnPaper_0 : dkW cX10_holdsOnPaper 0 [42, 180, 0, 61, 182, 1, 130, 42, 180, 0, 70, 27, 28] = true := by decide +kernel
theorem dX10_holdsOnPaper_0 : decode cX10_holdsOnPaper 0 = .ok (.aload_n 0, 1) := dko_42 dwX10_holdsOnPaper_0
theorem dX10_holdsOnPaper_1 : decode cX10_holdsOnPaper 1 = .ok (.getfield 61, 3) := dko_180 (dk_t 1 1 [180, 0, 61, 182, 1, 130, 42, 180, 0, 70, 27, 28] dwX10_holdsOnPaper_0 rfl rfl)
theorem dX10_holdsOnPaper_4 : decode cX10_holdsOnPaper 4 = .ok (.invokevirtual 386, 3) := dko_182 (dk_t 4 4 [182, 1, 130, 42, 180, 0, 70, 27, 28] dwX10_holdsOnPaper_0 rfl rfl)
theorem dX10_holdsOnPaper_7 : decode cX10_holdsOnPaper 7 = .ok (.aload_n 0, 1) := dko_42 (dk_t 7 7 [42, 180, 0, 70, 27, 28] dwX10_holdsOnPaper_0 rfl rfl)
theorem dX10_holdsOnPaper_8 : decode cX10_holdsOnPaper 8 = .ok (.getfield 70, 3) := dko_180 (dk_t 8 8 [180, 0, 70, 27, 28] dwX10_holdsOnPaper_0 rfl rfl)
theorem dX10_holdsOnPaper_11 : decode cX10_holdsOnPaper 11 = .ok (.iload_n 1, 1) := dko_27 (dk_t 11 11 [27, 28] dwX10_holdsOnPaper_0 rfl rfl)
theorem dX10_holdsOnPaper_12 : decode cX10_holdsOnPaper 12 = .ok (.iload_n 2, 1) := dko_28 (dk_t 12 12 [28] dwX10_holdsOnPaper_0 rfl rfl)
theorem dwX10_holdsOnPaper_13 : dkW cX10_holdsOnPaper 13 [182, 1, 154, 3, 62, 29, 42, 180, 0, 30, 182, 0, 167] = true := by decide +kernel
theorem dX10_holdsOnPaper_13 : decode cX10_holdsOnPaper 13 = .ok (.invokevirtual 410, 3) := dko_182 dwX10_holdsOnPaper_13
theorem dX10_holdsOnPaper_16 : decode cX10_holdsOnPaper 16 = .ok (.iconst 0, 1) := dko_3 (dk_t 3 16 [3, 62, 29, 42, 180, 0, 30, 182, 0, 167] dwX10_holdsOnPaper_13 rfl rfl)
theorem dX10_holdsOnPaper_17 : decode cX10_holdsOnPaper 17 = .ok (.istore_n 3, 1) := dko_62 (dk_t 4 17 [62, 29, 42, 180, 0, 30, 182, 0, 167] dwX10_holdsOnPaper_13 rfl rfl)
theorem dX10_holdsOnPaper_18 : decode cX10_holdsOnPaper 18 = .ok (.iload_n 3, 1) := dko_29 (dk_t 5 18 [29, 42, 180, 0, 30, 182, 0, 167] dwX10_holdsOnPaper_13 rfl rfl)
theorem dX10_holdsOnPaper_19 : decode cX10_holdsOnPaper 19 = .ok (.aload_n 0, 1) := dko_42 (dk_t 6 19 [42, 180, 0, 30, 182, 0, 167] dwX10_holdsOnPaper_13 rfl rfl)
theorem dX10_holdsOnPaper_20 : decode cX10_holdsOnPaper 20 = .ok (.getfield 30, 3) := dko_180 (dk_t 7 20 [180, 0, 30, 182, 0, 167] dwX10_holdsOnPaper_13 rfl rfl)
theorem dX10_holdsOnPaper_23 : decode cX10_holdsOnPaper 23 = .ok (.invokevirtual 167, 3) := dko_182 (dk_t 10 23 [182, 0, 167] dwX10_holdsOnPaper_13 rfl rfl)
theorem dwX10_holdsOnPaper_26 : dkW cX10_holdsOnPaper 26 [162, 0, 58, 42, 180, 0, 30, 29, 182, 1, 135, 58, 4] = true := by decide +kernel
theorem dX10_holdsOnPaper_26 : decode cX10_holdsOnPaper 26 = .ok (.if_icmp .ge 58, 3) := dko_162 dwX10_holdsOnPaper_26
theorem dX10_holdsOnPaper_29 : decode cX10_holdsOnPaper 29 = .ok (.aload_n 0, 1) := dko_42 (dk_t 3 29 [42, 180, 0, 30, 29, 182, 1, 135, 58, 4] dwX10_holdsOnPaper_26 rfl rfl)
theorem dX10_holdsOnPaper_30 : decode cX10_holdsOnPaper 30 = .ok (.getfield 30, 3) := dko_180 (dk_t 4 30 [180, 0, 30, 29, 182, 1, 135, 58, 4] dwX10_holdsOnPaper_26 rfl rfl)
theorem dX10_holdsOnPaper_33 : decode cX10_holdsOnPaper 33 = .ok (.iload_n 3, 1) := dko_29 (dk_t 7 33 [29, 182, 1, 135, 58, 4] dwX10_holdsOnPaper_26 rfl rfl)
theorem dX10_holdsOnPaper_34 : decode cX10_holdsOnPaper 34 = .ok (.invokevirtual 391, 3) := dko_182 (dk_t 8 34 [182, 1, 135, 58, 4] dwX10_holdsOnPaper_26 rfl rfl)
theorem dX10_holdsOnPaper_37 : decode cX10_holdsOnPaper 37 = .ok (.astore 4, 2) := dko_58 (dk_t 11 37 [58, 4] dwX10_holdsOnPaper_26 rfl rfl)
theorem dwX10_holdsOnPaper_39 : dkW cX10_holdsOnPaper 39 [25, 4, 198, 0, 24, 42, 180, 0, 70, 25, 4, 42] = true := by decide +kernel
theorem dX10_holdsOnPaper_39 : decode cX10_holdsOnPaper 39 = .ok (.aload 4, 2) := dko_25 dwX10_holdsOnPaper_39
theorem dX10_holdsOnPaper_41 : decode cX10_holdsOnPaper 41 = .ok (.ifnull 24, 3) := dko_198 (dk_t 2 41 [198, 0, 24, 42, 180, 0, 70, 25, 4, 42] dwX10_holdsOnPaper_39 rfl rfl)
theorem dX10_holdsOnPaper_44 : decode cX10_holdsOnPaper 44 = .ok (.aload_n 0, 1) := dko_42 (dk_t 5 44 [42, 180, 0, 70, 25, 4, 42] dwX10_holdsOnPaper_39 rfl rfl)
theorem dX10_holdsOnPaper_45 : decode cX10_holdsOnPaper 45 = .ok (.getfield 70, 3) := dko_180 (dk_t 6 45 [180, 0, 70, 25, 4, 42] dwX10_holdsOnPaper_39 rfl rfl)
theorem dX10_holdsOnPaper_48 : decode cX10_holdsOnPaper 48 = .ok (.aload 4, 2) := dko_25 (dk_t 9 48 [25, 4, 42] dwX10_holdsOnPaper_39 rfl rfl)
theorem dX10_holdsOnPaper_50 : decode cX10_holdsOnPaper 50 = .ok (.aload_n 0, 1) := dko_42 (dk_t 11 50 [42] dwX10_holdsOnPaper_39 rfl rfl)
theorem dwX10_holdsOnPaper_51 : dkW cX10_holdsOnPaper 51 [180, 0, 37, 42, 180, 0, 44, 42, 180, 0, 61, 182, 1, 141] = true := by decide +kernel
theorem dX10_holdsOnPaper_51 : decode cX10_holdsOnPaper 51 = .ok (.getfield 37, 3) := dko_180 dwX10_holdsOnPaper_51
theorem dX10_holdsOnPaper_54 : decode cX10_holdsOnPaper 54 = .ok (.aload_n 0, 1) := dko_42 (dk_t 3 54 [42, 180, 0, 44, 42, 180, 0, 61, 182, 1, 141] dwX10_holdsOnPaper_51 rfl rfl)
theorem dX10_holdsOnPaper_55 : decode cX10_holdsOnPaper 55 = .ok (.getfield 44, 3) := dko_180 (dk_t 4 55 [180, 0, 44, 42, 180, 0, 61, 182, 1, 141] dwX10_holdsOnPaper_51 rfl rfl)
theorem dX10_holdsOnPaper_58 : decode cX10_holdsOnPaper 58 = .ok (.aload_n 0, 1) := dko_42 (dk_t 7 58 [42, 180, 0, 61, 182, 1, 141] dwX10_holdsOnPaper_51 rfl rfl)
theorem dX10_holdsOnPaper_59 : decode cX10_holdsOnPaper 59 = .ok (.getfield 61, 3) := dko_180 (dk_t 8 59 [180, 0, 61, 182, 1, 141] dwX10_holdsOnPaper_51 rfl rfl)
theorem dX10_holdsOnPaper_62 : decode cX10_holdsOnPaper 62 = .ok (.invokevirtual 397, 3) := dko_182 (dk_t 11 62 [182, 1, 141] dwX10_holdsOnPaper_51 rfl rfl)
theorem dwX10_holdsOnPaper_65 : dkW cX10_holdsOnPaper 65 [42, 180, 0, 61, 182, 0, 244, 2, 159, 0, 5, 3, 172] = true := by decide +kernel
theorem dX10_holdsOnPaper_65 : decode cX10_holdsOnPaper 65 = .ok (.aload_n 0, 1) := dko_42 dwX10_holdsOnPaper_65
theorem dX10_holdsOnPaper_66 : decode cX10_holdsOnPaper 66 = .ok (.getfield 61, 3) := dko_180 (dk_t 1 66 [180, 0, 61, 182, 0, 244, 2, 159, 0, 5, 3, 172] dwX10_holdsOnPaper_65 rfl rfl)
theorem dX10_holdsOnPaper_69 : decode cX10_holdsOnPaper 69 = .ok (.invokevirtual 244, 3) := dko_182 (dk_t 4 69 [182, 0, 244, 2, 159, 0, 5, 3, 172] dwX10_holdsOnPaper_65 rfl rfl)
theorem dX10_holdsOnPaper_72 : decode cX10_holdsOnPaper 72 = .ok (.iconst (-1), 1) := dko_2 (dk_t 7 72 [2, 159, 0, 5, 3, 172] dwX10_holdsOnPaper_65 rfl rfl)
theorem dX10_holdsOnPaper_73 : decode cX10_holdsOnPaper 73 = .ok (.if_icmp .eq 5, 3) := dko_159 (dk_t 8 73 [159, 0, 5, 3, 172] dwX10_holdsOnPaper_65 rfl rfl)
theorem dX10_holdsOnPaper_76 : decode cX10_holdsOnPaper 76 = .ok (.iconst 0, 1) := dko_3 (dk_t 11 76 [3, 172] dwX10_holdsOnPaper_65 rfl rfl)
theorem dX10_holdsOnPaper_77 : decode cX10_holdsOnPaper 77 = .ok (.ireturn, 1) := dko_172 (dk_t 12 77 [172] dwX10_holdsOnPaper_65 rfl rfl)
theorem dwX10_holdsOnPaper_78 : dkW cX10_holdsOnPaper 78 [132, 3, 1, 167, 255, 193, 4, 172] = true := by decide +kernel
theorem dX10_holdsOnPaper_78 : decode cX10_holdsOnPaper 78 = .ok (.iinc 3 1, 3) := dko_132 dwX10_holdsOnPaper_78
theorem dX10_holdsOnPaper_81 : decode cX10_holdsOnPaper 81 = .ok (.goto (-63), 3) := dko_167 (dk_t 3 81 [167, 255, 193, 4, 172] dwX10_holdsOnPaper_78 rfl rfl)
theorem dX10_holdsOnPaper_84 : decode cX10_holdsOnPaper 84 = .ok (.iconst 1, 1) := dko_4 (dk_t 6 84 [4, 172] dwX10_holdsOnPaper_78 rfl rfl)
theorem dX10_holdsOnPaper_85 : decode cX10_holdsOnPaper 85 = .ok (.ireturn, 1) := dko_172 (dk_t 7 85 [172] dwX10_holdsOnPaper_78 rfl rfl)
