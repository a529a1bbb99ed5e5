theorem dwJ5_init_d00df_0 : dkW cJ5_init_d00df 0 [42, 183, 0, 3, 178, 0, 18, 153, 0, 18, 42, 27, 188, 8] = true := by decide +kernel
theorem dJ5_init_d00df_0 : decode cJ5_init_d00df 0 = .ok (.aload_n 0, 1) := dko_42 dwJ5_init_d00df_0
theorem dJ5_init_d00df_1 : decode cJ5_init_d00df 1 = .ok (.invokespecial 3, 3) := dko_183 (dk_t 1 1 [183, 0, 3, 178, 0, 18, 153, 0, 18, 42, 27, 188, 8] dwJ5_init_d00df_0 rfl rfl)
theorem dJ5_init_d00df_4 : decode cJ5_init_d00df 4 = .ok (.getstatic 18, 3) := dko_178 (dk_t 4 4 [178, 0, 18, 153, 0, 18, 42, 27, 188, 8] dwJ5_init_d00df_0 rfl rfl)
theorem dJ5_init_d00df_7 : decode cJ5_init_d00df 7 = .ok (.ifCond .eq 18, 3) := dko_153 (dk_t 7 7 [153, 0, 18, 42, 27, 188, 8] dwJ5_init_d00df_0 rfl rfl)
theorem dJ5_init_d00df_10 : decode cJ5_init_d00df 10 = .ok (.aload_n 0, 1) := dko_42 (dk_t 10 10 [42, 27, 188, 8] dwJ5_init_d00df_0 rfl rfl)
theorem dJ5_init_d00df_11 : decode cJ5_init_d00df 11 = .ok (.iload_n 1, 1) := dko_27 (dk_t 11 11 [27, 188, 8] dwJ5_init_d00df_0 rfl rfl)
theorem dJ5_init_d00df_12 : decode cJ5_init_d00df 12 = .ok (.newarray .byte, 2) := dko_188_8 (dk_t 12 12 [188, 8] dwJ5_init_d00df_0 rfl rfl)
theorem dwJ5_init_d00df_14 : dkW cJ5_init_d00df 14 [181, 0, 15, 42, 3, 181, 0, 22, 167, 0, 16, 42, 27] = true := by decide +kernel
theorem dJ5_init_d00df_14 : decode cJ5_init_d00df 14 = .ok (.putfield 15, 3) := dko_181 dwJ5_init_d00df_14
theorem dJ5_init_d00df_17 : decode cJ5_init_d00df 17 = .ok (.aload_n 0, 1) := dko_42 (dk_t 3 17 [42, 3, 181, 0, 22, 167, 0, 16, 42, 27] dwJ5_init_d00df_14 rfl rfl)
theorem dJ5_init_d00df_18 : decode cJ5_init_d00df 18 = .ok (.iconst 0, 1) := dko_3 (dk_t 4 18 [3, 181, 0, 22, 167, 0, 16, 42, 27] dwJ5_init_d00df_14 rfl rfl)
theorem dJ5_init_d00df_19 : decode cJ5_init_d00df 19 = .ok (.putfield 22, 3) := dko_181 (dk_t 5 19 [181, 0, 22, 167, 0, 16, 42, 27] dwJ5_init_d00df_14 rfl rfl)
theorem dJ5_init_d00df_22 : decode cJ5_init_d00df 22 = .ok (.goto 16, 3) := dko_167 (dk_t 8 22 [167, 0, 16, 42, 27] dwJ5_init_d00df_14 rfl rfl)
theorem dJ5_init_d00df_25 : decode cJ5_init_d00df 25 = .ok (.aload_n 0, 1) := dko_42 (dk_t 11 25 [42, 27] dwJ5_init_d00df_14 rfl rfl)
theorem dJ5_init_d00df_26 : decode cJ5_init_d00df 26 = .ok (.iload_n 1, 1) := dko_27 (dk_t 12 26 [27] dwJ5_init_d00df_14 rfl rfl)
theorem dwJ5_init_d00df_27 : dkW cJ5_init_d00df 27 [184, 0, 26, 181, 0, 15, 42, 4, 181, 0, 22, 177] = true := by decide +kernel
theorem dJ5_init_d00df_27 : decode cJ5_init_d00df 27 = .ok (.invokestatic 26, 3) := dko_184 dwJ5_init_d00df_27
theorem dJ5_init_d00df_30 : decode cJ5_init_d00df 30 = .ok (.putfield 15, 3) := dko_181 (dk_t 3 30 [181, 0, 15, 42, 4, 181, 0, 22, 177] dwJ5_init_d00df_27 rfl rfl)
theorem dJ5_init_d00df_33 : decode cJ5_init_d00df 33 = .ok (.aload_n 0, 1) := dko_42 (dk_t 6 33 [42, 4, 181, 0, 22, 177] dwJ5_init_d00df_27 rfl rfl)
theorem dJ5_init_d00df_34 : decode cJ5_init_d00df 34 = .ok (.iconst 1, 1) := dko_4 (dk_t 7 34 [4, 181, 0, 22, 177] dwJ5_init_d00df_27 rfl rfl)
theorem dJ5_init_d00df_35 : decode cJ5_init_d00df 35 = .ok (.putfield 22, 3) := dko_181 (dk_t 8 35 [181, 0, 22, 177] dwJ5_init_d00df_27 rfl rfl)
theorem dJ5_init_d00df_38 : decode cJ5_init_d00df 38 = .ok (.return_, 1) := dko_177 (dk_t 11 38 [177] dwJ5_init_d00df_27 rfl rfl)
theorem dwJ5_length_8abf5_0 : dkW cJ5_length_8abf5 0 [42, 180, 0, 79, 172] = true := by decide +kernel
theorem dJ5_length_8abf5_0 : decode cJ5_length_8abf5 0 = .ok (.aload_n 0, 1) := dko_42 dwJ5_length_8abf5_0
theorem dJ5_length_8abf5_1 : decode cJ5_length_8abf5 1 = .ok (.getfield 79, 3) := dko_180 (dk_t 1 1 [180, 0, 79, 172] dwJ5_length_8abf5_0 rfl rfl)
theorem dJ5_length_8abf5_4 : decode cJ5_length_8abf5 4 = .ok (.ireturn, 1) := dko_172 (dk_t 4 4 [172] dwJ5_length_8abf5_0 rfl rfl)
theorem dwJ5_ensureCapacityInternal_d00df_0 : dkW cJ5_ensureCapacityInternal_d00df 0 [42, 180, 0, 15, 190, 42, 180, 0, 22, 122, 61, 27, 28, 100] = true := by decide +kernel
theorem dJ5_ensureCapacityInternal_d00df_0 : decode cJ5_ensureCapacityInternal_d00df 0 = .ok (.aload_n 0, 1) := dko_42 dwJ5_ensureCapacityInternal_d00df_0
theorem dJ5_ensureCapacityInternal_d00df_1 : decode cJ5_ensureCapacityInternal_d00df 1 = .ok (.getfield 15, 3) := dko_180 (dk_t 1 1 [180, 0, 15, 190, 42, 180, 0, 22, 122, 61, 27, 28, 100] dwJ5_ensureCapacityInternal_d00df_0 rfl rfl)
theorem dJ5_ensureCapacityInternal_d00df_4 : decode cJ5_ensureCapacityInternal_d00df 4 = .ok (.arraylength, 1) := dko_190 (dk_t 4 4 [190, 42, 180, 0, 22, 122, 61, 27, 28, 100] dwJ5_ensureCapacityInternal_d00df_0 rfl rfl)
theorem dJ5_ensureCapacityInternal_d00df_5 : decode cJ5_ensureCapacityInternal_d00df 5 = .ok (.aload_n 0, 1) := dko_42 (dk_t 5 5 [42, 180, 0, 22, 122, 61, 27, 28, 100] dwJ5_ensureCapacityInternal_d00df_0 rfl rfl)
theorem dJ5_ensureCapacityInternal_d00df_6 : decode cJ5_ensureCapacityInternal_d00df 6 = .ok (.getfield 22, 3) := dko_180 (dk_t 6 6 [180, 0, 22, 122, 61, 27, 28, 100] dwJ5_ensureCapacityInternal_d00df_0 rfl rfl)
theorem dJ5_ensureCapacityInternal_d00df_9 : decode cJ5_ensureCapacityInternal_d00df 9 = .ok (.ishr, 1) := dko_122 (dk_t 9 9 [122, 61, 27, 28, 100] dwJ5_ensureCapacityInternal_d00df_0 rfl rfl)
theorem dJ5_ensureCapacityInternal_d00df_10 : decode cJ5_ensureCapacityInternal_d00df 10 = .ok (.istore_n 2, 1) := dko_61 (dk_t 10 10 [61, 27, 28, 100] dwJ5_ensureCapacityInternal_d00df_0 rfl rfl)
theorem dJ5_ensureCapacityInternal_d00df_11 : decode cJ5_ensureCapacityInternal_d00df 11 = .ok (.iload_n 1, 1) := dko_27 (dk_t 11 11 [27, 28, 100] dwJ5_ensureCapacityInternal_d00df_0 rfl rfl)
theorem dJ5_ensureCapacityInternal_d00df_12 : decode cJ5_ensureCapacityInternal_d00df 12 = .ok (.iload_n 2, 1) := dko_28 (dk_t 12 12 [28, 100] dwJ5_ensureCapacityInternal_d00df_0 rfl rfl)
theorem dJ5_ensureCapacityInternal_d00df_13 : decode cJ5_ensureCapacityInternal_d00df 13 = .ok (.isub, 1) := dko_100 (dk_t 13 13 [100] dwJ5_ensureCapacityInternal_d00df_0 rfl rfl)
theorem dwJ5_ensureCapacityInternal_d00df_14 : dkW cJ5_ensureCapacityInternal_d00df 14 [158, 0, 24, 42, 42, 180, 0, 15, 42, 27, 182, 0, 104, 42] = true := by decide +kernel
theorem dJ5_ensureCapacityInternal_d00df_14 : decode cJ5_ensureCapacityInternal_d00df 14 = .ok (.ifCond .le 24, 3) := dko_158 dwJ5_ensureCapacityInternal_d00df_14
theorem dJ5_ensureCapacityInternal_d00df_17 : decode cJ5_ensureCapacityInternal_d00df 17 = .ok (.aload_n 0, 1) := dko_42 (dk_t 3 17 [42, 42, 180, 0, 15, 42, 27, 182, 0, 104, 42] dwJ5_ensureCapacityInternal_d00df_14 rfl rfl)
theorem dJ5_ensureCapacityInternal_d00df_18 : decode cJ5_ensureCapacityInternal_d00df 18 = .ok (.aload_n 0, 1) := dko_42 (dk_t 4 18 [42, 180, 0, 15, 42, 27, 182, 0, 104, 42] dwJ5_ensureCapacityInternal_d00df_14 rfl rfl)
theorem dJ5_ensureCapacityInternal_d00df_19 : decode cJ5_ensureCapacityInternal_d00df 19 = .ok (.getfield 15, 3) := dko_180 (dk_t 5 19 [180, 0, 15, 42, 27, 182, 0, 104, 42] dwJ5_ensureCapacityInternal_d00df_14 rfl rfl)
theorem dJ5_ensureCapacityInternal_d00df_22 : decode cJ5_ensureCapacityInternal_d00df 22 = .ok (.aload_n 0, 1) := dko_42 (dk_t 8 22 [42, 27, 182, 0, 104, 42] dwJ5_ensureCapacityInternal_d00df_14 rfl rfl)
theorem dJ5_ensureCapacityInternal_d00df_23 : decode cJ5_ensureCapacityInternal_d00df 23 = .ok (.iload_n 1, 1) := dko_27 (dk_t 9 23 [27, 182, 0, 104, 42] dwJ5_ensureCapacityInternal_d00df_14 rfl rfl)
theorem dJ5_ensureCapacityInternal_d00df_24 : decode cJ5_ensureCapacityInternal_d00df 24 = .ok (.invokevirtual 104, 3) := dko_182 (dk_t 10 24 [182, 0, 104, 42] dwJ5_ensureCapacityInternal_d00df_14 rfl rfl)
theorem dJ5_ensureCapacityInternal_d00df_27 : decode cJ5_ensureCapacityInternal_d00df 27 = .ok (.aload_n 0, 1) := dko_42 (dk_t 13 27 [42] dwJ5_ensureCapacityInternal_d00df_14 rfl rfl)
theorem dwJ5_ensureCapacityInternal_d00df_28 : dkW cJ5_ensureCapacityInternal_d00df 28 [180, 0, 22, 120, 184, 0, 108, 181, 0, 15, 177] = true := by decide +kernel
theorem dJ5_ensureCapacityInternal_d00df_28 : decode cJ5_ensureCapacityInternal_d00df 28 = .ok (.getfield 22, 3) := dko_180 dwJ5_ensureCapacityInternal_d00df_28
theorem dJ5_ensureCapacityInternal_d00df_31 : decode cJ5_ensureCapacityInternal_d00df 31 = .ok (.ishl, 1) := dko_120 (dk_t 3 31 [120, 184, 0, 108, 181, 0, 15, 177] dwJ5_ensureCapacityInternal_d00df_28 rfl rfl)
theorem dJ5_ensureCapacityInternal_d00df_32 : decode cJ5_ensureCapacityInternal_d00df 32 = .ok (.invokestatic 108, 3) := dko_184 (dk_t 4 32 [184, 0, 108, 181, 0, 15, 177] dwJ5_ensureCapacityInternal_d00df_28 rfl rfl)
theorem dJ5_ensureCapacityInternal_d00df_35 : decode cJ5_ensureCapacityInternal_d00df 35 = .ok (.putfield 15, 3) := dko_181 (dk_t 7 35 [181, 0, 15, 177] dwJ5_ensureCapacityInternal_d00df_28 rfl rfl)
theorem dJ5_ensureCapacityInternal_d00df_38 : decode cJ5_ensureCapacityInternal_d00df 38 = .ok (.return_, 1) := dko_177 (dk_t 10 38 [177] dwJ5_ensureCapacityInternal_d00df_28 rfl rfl)
theorem dwJ5_newCapacity_0f7a4_0 : dkW cJ5_newCapacity_0f7a4 0 [42, 180, 0, 15, 190, 61, 27, 42, 180, 0, 22, 120, 62, 29] = true := by decide +kernel
theorem dJ5_newCapacity_0f7a4_0 : decode cJ5_newCapacity_0f7a4 0 = .ok (.aload_n 0, 1) := dko_42 dwJ5_newCapacity_0f7a4_0
theorem dJ5_newCapacity_0f7a4_1 : decode cJ5_newCapacity_0f7a4 1 = .ok (.getfield 15, 3) := dko_180 (dk_t 1 1 [180, 0, 15, 190, 61, 27, 42, 180, 0, 22, 120, 62, 29] dwJ5_newCapacity_0f7a4_0 rfl rfl)
theorem dJ5_newCapacity_0f7a4_4 : decode cJ5_newCapacity_0f7a4 4 = .ok (.arraylength, 1) := dko_190 (dk_t 4 4 [190, 61, 27, 42, 180, 0, 22, 120, 62, 29] dwJ5_newCapacity_0f7a4_0 rfl rfl)
theorem dJ5_newCapacity_0f7a4_5 : decode cJ5_newCapacity_0f7a4 5 = .ok (.istore_n 2, 1) := dko_61 (dk_t 5 5 [61, 27, 42, 180, 0, 22, 120, 62, 29] dwJ5_newCapacity_0f7a4_0 rfl rfl)
theorem dJ5_newCapacity_0f7a4_6 : decode cJ5_newCapacity_0f7a4 6 = .ok (.iload_n 1, 1) := dko_27 (dk_t 6 6 [27, 42, 180, 0, 22, 120, 62, 29] dwJ5_newCapacity_0f7a4_0 rfl rfl)
theorem dJ5_newCapacity_0f7a4_7 : decode cJ5_newCapacity_0f7a4 7 = .ok (.aload_n 0, 1) := dko_42 (dk_t 7 7 [42, 180, 0, 22, 120, 62, 29] dwJ5_newCapacity_0f7a4_0 rfl rfl)
theorem dJ5_newCapacity_0f7a4_8 : decode cJ5_newCapacity_0f7a4 8 = .ok (.getfield 22, 3) := dko_180 (dk_t 8 8 [180, 0, 22, 120, 62, 29] dwJ5_newCapacity_0f7a4_0 rfl rfl)
theorem dJ5_newCapacity_0f7a4_11 : decode cJ5_newCapacity_0f7a4 11 = .ok (.ishl, 1) := dko_120 (dk_t 11 11 [120, 62, 29] dwJ5_newCapacity_0f7a4_0 rfl rfl)
theorem dJ5_newCapacity_0f7a4_12 : decode cJ5_newCapacity_0f7a4 12 = .ok (.istore_n 3, 1) := dko_62 (dk_t 12 12 [62, 29] dwJ5_newCapacity_0f7a4_0 rfl rfl)
theorem dJ5_newCapacity_0f7a4_13 : decode cJ5_newCapacity_0f7a4 13 = .ok (.iload_n 3, 1) := dko_29 (dk_t 13 13 [29] dwJ5_newCapacity_0f7a4_0 rfl rfl)
theorem dwJ5_newCapacity_0f7a4_14 : dkW cJ5_newCapacity_0f7a4 14 [28, 100, 54, 4, 28, 21, 4, 28, 5, 42, 180, 0, 22, 120] = true := by decide +kernel
theorem dJ5_newCapacity_0f7a4_14 : decode cJ5_newCapacity_0f7a4 14 = .ok (.iload_n 2, 1) := dko_28 dwJ5_newCapacity_0f7a4_14
theorem dJ5_newCapacity_0f7a4_15 : decode cJ5_newCapacity_0f7a4 15 = .ok (.isub, 1) := dko_100 (dk_t 1 15 [100, 54, 4, 28, 21, 4, 28, 5, 42, 180, 0, 22, 120] dwJ5_newCapacity_0f7a4_14 rfl rfl)
theorem dJ5_newCapacity_0f7a4_16 : decode cJ5_newCapacity_0f7a4 16 = .ok (.istore 4, 2) := dko_54 (dk_t 2 16 [54, 4, 28, 21, 4, 28, 5, 42, 180, 0, 22, 120] dwJ5_newCapacity_0f7a4_14 rfl rfl)
theorem dJ5_newCapacity_0f7a4_18 : decode cJ5_newCapacity_0f7a4 18 = .ok (.iload_n 2, 1) := dko_28 (dk_t 4 18 [28, 21, 4, 28, 5, 42, 180, 0, 22, 120] dwJ5_newCapacity_0f7a4_14 rfl rfl)
theorem dJ5_newCapacity_0f7a4_19 : decode cJ5_newCapacity_0f7a4 19 = .ok (.iload 4, 2) := dko_21 (dk_t 5 19 [21, 4, 28, 5, 42, 180, 0, 22, 120] dwJ5_newCapacity_0f7a4_14 rfl rfl)
theorem dJ5_newCapacity_0f7a4_21 : decode cJ5_newCapacity_0f7a4 21 = .ok (.iload_n 2, 1) := dko_28 (dk_t 7 21 [28, 5, 42, 180, 0, 22, 120] dwJ5_newCapacity_0f7a4_14 rfl rfl)
theorem dJ5_newCapacity_0f7a4_22 : decode cJ5_newCapacity_0f7a4 22 = .ok (.iconst 2, 1) := dko_5 (dk_t 8 22 [5, 42, 180, 0, 22, 120] dwJ5_newCapacity_0f7a4_14 rfl rfl)
theorem dJ5_newCapacity_0f7a4_23 : decode cJ5_newCapacity_0f7a4 23 = .ok (.aload_n 0, 1) := dko_42 (dk_t 9 23 [42, 180, 0, 22, 120] dwJ5_newCapacity_0f7a4_14 rfl rfl)
theorem dJ5_newCapacity_0f7a4_24 : decode cJ5_newCapacity_0f7a4 24 = .ok (.getfield 22, 3) := dko_180 (dk_t 10 24 [180, 0, 22, 120] dwJ5_newCapacity_0f7a4_14 rfl rfl)
theorem dJ5_newCapacity_0f7a4_27 : decode cJ5_newCapacity_0f7a4 27 = .ok (.ishl, 1) := dko_120 (dk_t 13 27 [120] dwJ5_newCapacity_0f7a4_14 rfl rfl)
theorem dwJ5_newCapacity_0f7a4_28 : dkW cJ5_newCapacity_0f7a4 28 [96, 184, 0, 114, 54, 5, 21, 5, 18, 39, 160, 0, 13] = true := by decide +kernel
theorem dJ5_newCapacity_0f7a4_28 : decode cJ5_newCapacity_0f7a4 28 = .ok (.iadd, 1) := dko_96 dwJ5_newCapacity_0f7a4_28
theorem dJ5_newCapacity_0f7a4_29 : decode cJ5_newCapacity_0f7a4 29 = .ok (.invokestatic 114, 3) := dko_184 (dk_t 1 29 [184, 0, 114, 54, 5, 21, 5, 18, 39, 160, 0, 13] dwJ5_newCapacity_0f7a4_28 rfl rfl)
theorem dJ5_newCapacity_0f7a4_32 : decode cJ5_newCapacity_0f7a4 32 = .ok (.istore 5, 2) := dko_54 (dk_t 4 32 [54, 5, 21, 5, 18, 39, 160, 0, 13] dwJ5_newCapacity_0f7a4_28 rfl rfl)
theorem dJ5_newCapacity_0f7a4_34 : decode cJ5_newCapacity_0f7a4 34 = .ok (.iload 5, 2) := dko_21 (dk_t 6 34 [21, 5, 18, 39, 160, 0, 13] dwJ5_newCapacity_0f7a4_28 rfl rfl)
theorem dJ5_newCapacity_0f7a4_36 : decode cJ5_newCapacity_0f7a4 36 = .ok (.ldc 39, 2) := dko_18 (dk_t 8 36 [18, 39, 160, 0, 13] dwJ5_newCapacity_0f7a4_28 rfl rfl)
theorem dJ5_newCapacity_0f7a4_38 : decode cJ5_newCapacity_0f7a4 38 = .ok (.if_icmp .ne 13, 3) := dko_160 (dk_t 10 38 [160, 0, 13] dwJ5_newCapacity_0f7a4_28 rfl rfl)
theorem dwJ5_newCapacity_0f7a4_41 : dkW cJ5_newCapacity_0f7a4 41 [187, 0, 120, 89, 18, 122, 183, 0, 124, 191, 21, 5, 42] = true := by decide +kernel
theorem dJ5_newCapacity_0f7a4_41 : decode cJ5_newCapacity_0f7a4 41 = .ok (.new 120, 3) := dko_187 dwJ5_newCapacity_0f7a4_41
theorem dJ5_newCapacity_0f7a4_44 : decode cJ5_newCapacity_0f7a4 44 = .ok (.dup, 1) := dko_89 (dk_t 3 44 [89, 18, 122, 183, 0, 124, 191, 21, 5, 42] dwJ5_newCapacity_0f7a4_41 rfl rfl)
theorem dJ5_newCapacity_0f7a4_45 : decode cJ5_newCapacity_0f7a4 45 = .ok (.ldc 122, 2) := dko_18 (dk_t 4 45 [18, 122, 183, 0, 124, 191, 21, 5, 42] dwJ5_newCapacity_0f7a4_41 rfl rfl)
theorem dJ5_newCapacity_0f7a4_47 : decode cJ5_newCapacity_0f7a4 47 = .ok (.invokespecial 124, 3) := dko_183 (dk_t 6 47 [183, 0, 124, 191, 21, 5, 42] dwJ5_newCapacity_0f7a4_41 rfl rfl)
theorem dJ5_newCapacity_0f7a4_50 : decode cJ5_newCapacity_0f7a4 50 = .ok (.athrow, 1) := dko_191 (dk_t 9 50 [191, 21, 5, 42] dwJ5_newCapacity_0f7a4_41 rfl rfl)
theorem dJ5_newCapacity_0f7a4_51 : decode cJ5_newCapacity_0f7a4 51 = .ok (.iload 5, 2) := dko_21 (dk_t 10 51 [21, 5, 42] dwJ5_newCapacity_0f7a4_41 rfl rfl)
theorem dJ5_newCapacity_0f7a4_53 : decode cJ5_newCapacity_0f7a4 53 = .ok (.aload_n 0, 1) := dko_42 (dk_t 12 53 [42] dwJ5_newCapacity_0f7a4_41 rfl rfl)
theorem dwJ5_newCapacity_0f7a4_54 : dkW cJ5_newCapacity_0f7a4 54 [180, 0, 22, 122, 172] = true := by decide +kernel
theorem dJ5_newCapacity_0f7a4_54 : decode cJ5_newCapacity_0f7a4 54 = .ok (.getfield 22, 3) := dko_180 dwJ5_newCapacity_0f7a4_54
theorem dJ5_newCapacity_0f7a4_57 : decode cJ5_newCapacity_0f7a4 57 = .ok (.ishr, 1) := dko_122 (dk_t 3 57 [122, 172] dwJ5_newCapacity_0f7a4_54 rfl rfl)
theorem dJ5_newCapacity_0f7a4_58 : decode cJ5_newCapacity_0f7a4 58 = .ok (.ireturn, 1) := dko_172 (dk_t 4 58 [172] dwJ5_newCapacity_0f7a4_54 rfl rfl)
theorem dwJ5_inflate_da8c8_0 : dkW cJ5_inflate_da8c8 0 [42, 182, 0, 83, 154, 0, 4, 177, 42, 180, 0, 15, 190] = true := by decide +kernel
theorem dJ5_inflate_da8c8_0 : decode cJ5_inflate_da8c8 0 = .ok (.aload_n 0, 1) := dko_42 dwJ5_inflate_da8c8_0
theorem dJ5_inflate_da8c8_1 : decode cJ5_inflate_da8c8 1 = .ok (.invokevirtual 83, 3) := dko_182 (dk_t 1 1 [182, 0, 83, 154, 0, 4, 177, 42, 180, 0, 15, 190] dwJ5_inflate_da8c8_0 rfl rfl)
theorem dJ5_inflate_da8c8_4 : decode cJ5_inflate_da8c8 4 = .ok (.ifCond .ne 4, 3) := dko_154 (dk_t 4 4 [154, 0, 4, 177, 42, 180, 0, 15, 190] dwJ5_inflate_da8c8_0 rfl rfl)
theorem dJ5_inflate_da8c8_7 : decode cJ5_inflate_da8c8 7 = .ok (.return_, 1) := dko_177 (dk_t 7 7 [177, 42, 180, 0, 15, 190] dwJ5_inflate_da8c8_0 rfl rfl)
theorem dJ5_inflate_da8c8_8 : decode cJ5_inflate_da8c8 8 = .ok (.aload_n 0, 1) := dko_42 (dk_t 8 8 [42, 180, 0, 15, 190] dwJ5_inflate_da8c8_0 rfl rfl)
theorem dJ5_inflate_da8c8_9 : decode cJ5_inflate_da8c8 9 = .ok (.getfield 15, 3) := dko_180 (dk_t 9 9 [180, 0, 15, 190] dwJ5_inflate_da8c8_0 rfl rfl)
theorem dJ5_inflate_da8c8_12 : decode cJ5_inflate_da8c8 12 = .ok (.arraylength, 1) := dko_190 (dk_t 12 12 [190] dwJ5_inflate_da8c8_0 rfl rfl)
theorem dwJ5_inflate_da8c8_13 : dkW cJ5_inflate_da8c8 13 [184, 0, 26, 76, 42, 180, 0, 15, 3, 43, 3, 42] = true := by decide +kernel
theorem dJ5_inflate_da8c8_13 : decode cJ5_inflate_da8c8 13 = .ok (.invokestatic 26, 3) := dko_184 dwJ5_inflate_da8c8_13
theorem dJ5_inflate_da8c8_16 : decode cJ5_inflate_da8c8 16 = .ok (.astore_n 1, 1) := dko_76 (dk_t 3 16 [76, 42, 180, 0, 15, 3, 43, 3, 42] dwJ5_inflate_da8c8_13 rfl rfl)
theorem dJ5_inflate_da8c8_17 : decode cJ5_inflate_da8c8 17 = .ok (.aload_n 0, 1) := dko_42 (dk_t 4 17 [42, 180, 0, 15, 3, 43, 3, 42] dwJ5_inflate_da8c8_13 rfl rfl)
theorem dJ5_inflate_da8c8_18 : decode cJ5_inflate_da8c8 18 = .ok (.getfield 15, 3) := dko_180 (dk_t 5 18 [180, 0, 15, 3, 43, 3, 42] dwJ5_inflate_da8c8_13 rfl rfl)
theorem dJ5_inflate_da8c8_21 : decode cJ5_inflate_da8c8 21 = .ok (.iconst 0, 1) := dko_3 (dk_t 8 21 [3, 43, 3, 42] dwJ5_inflate_da8c8_13 rfl rfl)
theorem dJ5_inflate_da8c8_22 : decode cJ5_inflate_da8c8 22 = .ok (.aload_n 1, 1) := dko_43 (dk_t 9 22 [43, 3, 42] dwJ5_inflate_da8c8_13 rfl rfl)
theorem dJ5_inflate_da8c8_23 : decode cJ5_inflate_da8c8 23 = .ok (.iconst 0, 1) := dko_3 (dk_t 10 23 [3, 42] dwJ5_inflate_da8c8_13 rfl rfl)
theorem dJ5_inflate_da8c8_24 : decode cJ5_inflate_da8c8 24 = .ok (.aload_n 0, 1) := dko_42 (dk_t 11 24 [42] dwJ5_inflate_da8c8_13 rfl rfl)
theorem dwJ5_inflate_da8c8_25 : dkW cJ5_inflate_da8c8 25 [180, 0, 79, 184, 0, 125, 42, 43, 181, 0, 15, 42, 4] = true := by decide +kernel
theorem dJ5_inflate_da8c8_25 : decode cJ5_inflate_da8c8 25 = .ok (.getfield 79, 3) := dko_180 dwJ5_inflate_da8c8_25
theorem dJ5_inflate_da8c8_28 : decode cJ5_inflate_da8c8 28 = .ok (.invokestatic 125, 3) := dko_184 (dk_t 3 28 [184, 0, 125, 42, 43, 181, 0, 15, 42, 4] dwJ5_inflate_da8c8_25 rfl rfl)
theorem dJ5_inflate_da8c8_31 : decode cJ5_inflate_da8c8 31 = .ok (.aload_n 0, 1) := dko_42 (dk_t 6 31 [42, 43, 181, 0, 15, 42, 4] dwJ5_inflate_da8c8_25 rfl rfl)
theorem dJ5_inflate_da8c8_32 : decode cJ5_inflate_da8c8 32 = .ok (.aload_n 1, 1) := dko_43 (dk_t 7 32 [43, 181, 0, 15, 42, 4] dwJ5_inflate_da8c8_25 rfl rfl)
theorem dJ5_inflate_da8c8_33 : decode cJ5_inflate_da8c8 33 = .ok (.putfield 15, 3) := dko_181 (dk_t 8 33 [181, 0, 15, 42, 4] dwJ5_inflate_da8c8_25 rfl rfl)
theorem dJ5_inflate_da8c8_36 : decode cJ5_inflate_da8c8 36 = .ok (.aload_n 0, 1) := dko_42 (dk_t 11 36 [42, 4] dwJ5_inflate_da8c8_25 rfl rfl)
theorem dJ5_inflate_da8c8_37 : decode cJ5_inflate_da8c8 37 = .ok (.iconst 1, 1) := dko_4 (dk_t 12 37 [4] dwJ5_inflate_da8c8_25 rfl rfl)
theorem dwJ5_inflate_da8c8_38 : dkW cJ5_inflate_da8c8 38 [181, 0, 22, 177] = true := by decide +kernel
theorem dJ5_inflate_da8c8_38 : decode cJ5_inflate_da8c8 38 = .ok (.putfield 22, 3) := dko_181 dwJ5_inflate_da8c8_38
theorem dJ5_inflate_da8c8_41 : decode cJ5_inflate_da8c8 41 = .ok (.return_, 1) := dko_177 (dk_t 3 41 [177] dwJ5_inflate_da8c8_38 rfl rfl)
theorem dwJ5_setLength_d00df_0 : dkW cJ5_setLength_d00df 0 [27, 156, 0, 12, 187, 0, 129, 89, 27, 183, 0, 131, 191, 42] = true := by decide +kernel
theorem dJ5_setLength_d00df_0 : decode cJ5_setLength_d00df 0 = .ok (.iload_n 1, 1) := dko_27 dwJ5_setLength_d00df_0
theorem dJ5_setLength_d00df_1 : decode cJ5_setLength_d00df 1 = .ok (.ifCond .ge 12, 3) := dko_156 (dk_t 1 1 [156, 0, 12, 187, 0, 129, 89, 27, 183, 0, 131, 191, 42] dwJ5_setLength_d00df_0 rfl rfl)
theorem dJ5_setLength_d00df_4 : decode cJ5_setLength_d00df 4 = .ok (.new 129, 3) := dko_187 (dk_t 4 4 [187, 0, 129, 89, 27, 183, 0, 131, 191, 42] dwJ5_setLength_d00df_0 rfl rfl)
theorem dJ5_setLength_d00df_7 : decode cJ5_setLength_d00df 7 = .ok (.dup, 1) := dko_89 (dk_t 7 7 [89, 27, 183, 0, 131, 191, 42] dwJ5_setLength_d00df_0 rfl rfl)
theorem dJ5_setLength_d00df_8 : decode cJ5_setLength_d00df 8 = .ok (.iload_n 1, 1) := dko_27 (dk_t 8 8 [27, 183, 0, 131, 191, 42] dwJ5_setLength_d00df_0 rfl rfl)
theorem dJ5_setLength_d00df_9 : decode cJ5_setLength_d00df 9 = .ok (.invokespecial 131, 3) := dko_183 (dk_t 9 9 [183, 0, 131, 191, 42] dwJ5_setLength_d00df_0 rfl rfl)
theorem dJ5_setLength_d00df_12 : decode cJ5_setLength_d00df 12 = .ok (.athrow, 1) := dko_191 (dk_t 12 12 [191, 42] dwJ5_setLength_d00df_0 rfl rfl)
theorem dJ5_setLength_d00df_13 : decode cJ5_setLength_d00df 13 = .ok (.aload_n 0, 1) := dko_42 (dk_t 13 13 [42] dwJ5_setLength_d00df_0 rfl rfl)
theorem dwJ5_setLength_d00df_14 : dkW cJ5_setLength_d00df 14 [27, 182, 0, 100, 42, 180, 0, 79, 27, 162, 0, 40, 42] = true := by decide +kernel
theorem dJ5_setLength_d00df_14 : decode cJ5_setLength_d00df 14 = .ok (.iload_n 1, 1) := dko_27 dwJ5_setLength_d00df_14
theorem dJ5_setLength_d00df_15 : decode cJ5_setLength_d00df 15 = .ok (.invokevirtual 100, 3) := dko_182 (dk_t 1 15 [182, 0, 100, 42, 180, 0, 79, 27, 162, 0, 40, 42] dwJ5_setLength_d00df_14 rfl rfl)
theorem dJ5_setLength_d00df_18 : decode cJ5_setLength_d00df 18 = .ok (.aload_n 0, 1) := dko_42 (dk_t 4 18 [42, 180, 0, 79, 27, 162, 0, 40, 42] dwJ5_setLength_d00df_14 rfl rfl)
theorem dJ5_setLength_d00df_19 : decode cJ5_setLength_d00df 19 = .ok (.getfield 79, 3) := dko_180 (dk_t 5 19 [180, 0, 79, 27, 162, 0, 40, 42] dwJ5_setLength_d00df_14 rfl rfl)
theorem dJ5_setLength_d00df_22 : decode cJ5_setLength_d00df 22 = .ok (.iload_n 1, 1) := dko_27 (dk_t 8 22 [27, 162, 0, 40, 42] dwJ5_setLength_d00df_14 rfl rfl)
theorem dJ5_setLength_d00df_23 : decode cJ5_setLength_d00df 23 = .ok (.if_icmp .ge 40, 3) := dko_162 (dk_t 9 23 [162, 0, 40, 42] dwJ5_setLength_d00df_14 rfl rfl)
theorem dJ5_setLength_d00df_26 : decode cJ5_setLength_d00df 26 = .ok (.aload_n 0, 1) := dko_42 (dk_t 12 26 [42] dwJ5_setLength_d00df_14 rfl rfl)
theorem dwJ5_setLength_d00df_27 : dkW cJ5_setLength_d00df 27 [182, 0, 83, 153, 0, 18, 42, 180, 0, 15, 42, 180, 0, 79] = true := by decide +kernel
theorem dJ5_setLength_d00df_27 : decode cJ5_setLength_d00df 27 = .ok (.invokevirtual 83, 3) := dko_182 dwJ5_setLength_d00df_27
theorem dJ5_setLength_d00df_30 : decode cJ5_setLength_d00df 30 = .ok (.ifCond .eq 18, 3) := dko_153 (dk_t 3 30 [153, 0, 18, 42, 180, 0, 15, 42, 180, 0, 79] dwJ5_setLength_d00df_27 rfl rfl)
theorem dJ5_setLength_d00df_33 : decode cJ5_setLength_d00df 33 = .ok (.aload_n 0, 1) := dko_42 (dk_t 6 33 [42, 180, 0, 15, 42, 180, 0, 79] dwJ5_setLength_d00df_27 rfl rfl)
theorem dJ5_setLength_d00df_34 : decode cJ5_setLength_d00df 34 = .ok (.getfield 15, 3) := dko_180 (dk_t 7 34 [180, 0, 15, 42, 180, 0, 79] dwJ5_setLength_d00df_27 rfl rfl)
theorem dJ5_setLength_d00df_37 : decode cJ5_setLength_d00df 37 = .ok (.aload_n 0, 1) := dko_42 (dk_t 10 37 [42, 180, 0, 79] dwJ5_setLength_d00df_27 rfl rfl)
theorem dJ5_setLength_d00df_38 : decode cJ5_setLength_d00df 38 = .ok (.getfield 79, 3) := dko_180 (dk_t 11 38 [180, 0, 79] dwJ5_setLength_d00df_27 rfl rfl)
theorem dwJ5_setLength_d00df_41 : dkW cJ5_setLength_d00df 41 [27, 184, 0, 133, 167, 0, 31, 42, 180, 0, 15, 42] = true := by decide +kernel
theorem dJ5_setLength_d00df_41 : decode cJ5_setLength_d00df 41 = .ok (.iload_n 1, 1) := dko_27 dwJ5_setLength_d00df_41
theorem dJ5_setLength_d00df_42 : decode cJ5_setLength_d00df 42 = .ok (.invokestatic 133, 3) := dko_184 (dk_t 1 42 [184, 0, 133, 167, 0, 31, 42, 180, 0, 15, 42] dwJ5_setLength_d00df_41 rfl rfl)
theorem dJ5_setLength_d00df_45 : decode cJ5_setLength_d00df 45 = .ok (.goto 31, 3) := dko_167 (dk_t 4 45 [167, 0, 31, 42, 180, 0, 15, 42] dwJ5_setLength_d00df_41 rfl rfl)
theorem dJ5_setLength_d00df_48 : decode cJ5_setLength_d00df 48 = .ok (.aload_n 0, 1) := dko_42 (dk_t 7 48 [42, 180, 0, 15, 42] dwJ5_setLength_d00df_41 rfl rfl)
theorem dJ5_setLength_d00df_49 : decode cJ5_setLength_d00df 49 = .ok (.getfield 15, 3) := dko_180 (dk_t 8 49 [180, 0, 15, 42] dwJ5_setLength_d00df_41 rfl rfl)
theorem dJ5_setLength_d00df_52 : decode cJ5_setLength_d00df 52 = .ok (.aload_n 0, 1) := dko_42 (dk_t 11 52 [42] dwJ5_setLength_d00df_41 rfl rfl)
theorem dwJ5_setLength_d00df_53 : dkW cJ5_setLength_d00df 53 [180, 0, 79, 27, 184, 0, 137, 167, 0, 16, 42, 180, 0, 79] = true := by decide +kernel
theorem dJ5_setLength_d00df_53 : decode cJ5_setLength_d00df 53 = .ok (.getfield 79, 3) := dko_180 dwJ5_setLength_d00df_53
theorem dJ5_setLength_d00df_56 : decode cJ5_setLength_d00df 56 = .ok (.iload_n 1, 1) := dko_27 (dk_t 3 56 [27, 184, 0, 137, 167, 0, 16, 42, 180, 0, 79] dwJ5_setLength_d00df_53 rfl rfl)
theorem dJ5_setLength_d00df_57 : decode cJ5_setLength_d00df 57 = .ok (.invokestatic 137, 3) := dko_184 (dk_t 4 57 [184, 0, 137, 167, 0, 16, 42, 180, 0, 79] dwJ5_setLength_d00df_53 rfl rfl)
theorem dJ5_setLength_d00df_60 : decode cJ5_setLength_d00df 60 = .ok (.goto 16, 3) := dko_167 (dk_t 7 60 [167, 0, 16, 42, 180, 0, 79] dwJ5_setLength_d00df_53 rfl rfl)
theorem dJ5_setLength_d00df_63 : decode cJ5_setLength_d00df 63 = .ok (.aload_n 0, 1) := dko_42 (dk_t 10 63 [42, 180, 0, 79] dwJ5_setLength_d00df_53 rfl rfl)
theorem dJ5_setLength_d00df_64 : decode cJ5_setLength_d00df 64 = .ok (.getfield 79, 3) := dko_180 (dk_t 11 64 [180, 0, 79] dwJ5_setLength_d00df_53 rfl rfl)
theorem dwJ5_setLength_d00df_67 : dkW cJ5_setLength_d00df 67 [27, 164, 0, 8, 42, 4, 181, 0, 73, 42, 27, 181, 0, 79] = true := by decide +kernel
theorem dJ5_setLength_d00df_67 : decode cJ5_setLength_d00df 67 = .ok (.iload_n 1, 1) := dko_27 dwJ5_setLength_d00df_67
theorem dJ5_setLength_d00df_68 : decode cJ5_setLength_d00df 68 = .ok (.if_icmp .le 8, 3) := dko_164 (dk_t 1 68 [164, 0, 8, 42, 4, 181, 0, 73, 42, 27, 181, 0, 79] dwJ5_setLength_d00df_67 rfl rfl)
theorem dJ5_setLength_d00df_71 : decode cJ5_setLength_d00df 71 = .ok (.aload_n 0, 1) := dko_42 (dk_t 4 71 [42, 4, 181, 0, 73, 42, 27, 181, 0, 79] dwJ5_setLength_d00df_67 rfl rfl)
theorem dJ5_setLength_d00df_72 : decode cJ5_setLength_d00df 72 = .ok (.iconst 1, 1) := dko_4 (dk_t 5 72 [4, 181, 0, 73, 42, 27, 181, 0, 79] dwJ5_setLength_d00df_67 rfl rfl)
theorem dJ5_setLength_d00df_73 : decode cJ5_setLength_d00df 73 = .ok (.putfield 73, 3) := dko_181 (dk_t 6 73 [181, 0, 73, 42, 27, 181, 0, 79] dwJ5_setLength_d00df_67 rfl rfl)
theorem dJ5_setLength_d00df_76 : decode cJ5_setLength_d00df 76 = .ok (.aload_n 0, 1) := dko_42 (dk_t 9 76 [42, 27, 181, 0, 79] dwJ5_setLength_d00df_67 rfl rfl)
theorem dJ5_setLength_d00df_77 : decode cJ5_setLength_d00df 77 = .ok (.iload_n 1, 1) := dko_27 (dk_t 10 77 [27, 181, 0, 79] dwJ5_setLength_d00df_67 rfl rfl)
theorem dJ5_setLength_d00df_78 : decode cJ5_setLength_d00df 78 = .ok (.putfield 79, 3) := dko_181 (dk_t 11 78 [181, 0, 79] dwJ5_setLength_d00df_67 rfl rfl)
theorem dwJ5_setLength_d00df_81 : dkW cJ5_setLength_d00df 81 [177] = true := by decide +kernel
theorem dJ5_setLength_d00df_81 : decode cJ5_setLength_d00df 81 = .ok (.return_, 1) := dko_177 dwJ5_setLength_d00df_81
theorem dwJ5_charAt_5068e_0 : dkW cJ5_charAt_5068e 0 [42, 180, 0, 22, 61, 42, 180, 0, 15, 78, 42, 180, 0, 79] = true := by decide +kernel
theorem dJ5_charAt_5068e_0 : decode cJ5_charAt_5068e 0 = .ok (.aload_n 0, 1) := dko_42 dwJ5_charAt_5068e_0
theorem dJ5_charAt_5068e_1 : decode cJ5_charAt_5068e 1 = .ok (.getfield 22, 3) := dko_180 (dk_t 1 1 [180, 0, 22, 61, 42, 180, 0, 15, 78, 42, 180, 0, 79] dwJ5_charAt_5068e_0 rfl rfl)
theorem dJ5_charAt_5068e_4 : decode cJ5_charAt_5068e 4 = .ok (.istore_n 2, 1) := dko_61 (dk_t 4 4 [61, 42, 180, 0, 15, 78, 42, 180, 0, 79] dwJ5_charAt_5068e_0 rfl rfl)
theorem dJ5_charAt_5068e_5 : decode cJ5_charAt_5068e 5 = .ok (.aload_n 0, 1) := dko_42 (dk_t 5 5 [42, 180, 0, 15, 78, 42, 180, 0, 79] dwJ5_charAt_5068e_0 rfl rfl)
theorem dJ5_charAt_5068e_6 : decode cJ5_charAt_5068e 6 = .ok (.getfield 15, 3) := dko_180 (dk_t 6 6 [180, 0, 15, 78, 42, 180, 0, 79] dwJ5_charAt_5068e_0 rfl rfl)
theorem dJ5_charAt_5068e_9 : decode cJ5_charAt_5068e 9 = .ok (.astore_n 3, 1) := dko_78 (dk_t 9 9 [78, 42, 180, 0, 79] dwJ5_charAt_5068e_0 rfl rfl)
theorem dJ5_charAt_5068e_10 : decode cJ5_charAt_5068e 10 = .ok (.aload_n 0, 1) := dko_42 (dk_t 10 10 [42, 180, 0, 79] dwJ5_charAt_5068e_0 rfl rfl)
theorem dJ5_charAt_5068e_11 : decode cJ5_charAt_5068e 11 = .ok (.getfield 79, 3) := dko_180 (dk_t 11 11 [180, 0, 79] dwJ5_charAt_5068e_0 rfl rfl)
theorem dwJ5_charAt_5068e_14 : dkW cJ5_charAt_5068e 14 [45, 190, 28, 122, 184, 0, 138, 54, 4, 27, 21, 4] = true := by decide +kernel
theorem dJ5_charAt_5068e_14 : decode cJ5_charAt_5068e 14 = .ok (.aload_n 3, 1) := dko_45 dwJ5_charAt_5068e_14
theorem dJ5_charAt_5068e_15 : decode cJ5_charAt_5068e 15 = .ok (.arraylength, 1) := dko_190 (dk_t 1 15 [190, 28, 122, 184, 0, 138, 54, 4, 27, 21, 4] dwJ5_charAt_5068e_14 rfl rfl)
theorem dJ5_charAt_5068e_16 : decode cJ5_charAt_5068e 16 = .ok (.iload_n 2, 1) := dko_28 (dk_t 2 16 [28, 122, 184, 0, 138, 54, 4, 27, 21, 4] dwJ5_charAt_5068e_14 rfl rfl)
theorem dJ5_charAt_5068e_17 : decode cJ5_charAt_5068e 17 = .ok (.ishr, 1) := dko_122 (dk_t 3 17 [122, 184, 0, 138, 54, 4, 27, 21, 4] dwJ5_charAt_5068e_14 rfl rfl)
theorem dJ5_charAt_5068e_18 : decode cJ5_charAt_5068e 18 = .ok (.invokestatic 138, 3) := dko_184 (dk_t 4 18 [184, 0, 138, 54, 4, 27, 21, 4] dwJ5_charAt_5068e_14 rfl rfl)
theorem dJ5_charAt_5068e_21 : decode cJ5_charAt_5068e 21 = .ok (.istore 4, 2) := dko_54 (dk_t 7 21 [54, 4, 27, 21, 4] dwJ5_charAt_5068e_14 rfl rfl)
theorem dJ5_charAt_5068e_23 : decode cJ5_charAt_5068e 23 = .ok (.iload_n 1, 1) := dko_27 (dk_t 9 23 [27, 21, 4] dwJ5_charAt_5068e_14 rfl rfl)
theorem dJ5_charAt_5068e_24 : decode cJ5_charAt_5068e 24 = .ok (.iload 4, 2) := dko_21 (dk_t 10 24 [21, 4] dwJ5_charAt_5068e_14 rfl rfl)
theorem dwJ5_charAt_5068e_26 : dkW cJ5_charAt_5068e 26 [184, 0, 144, 28, 154, 0, 12, 45, 27, 51, 17, 0, 255, 126] = true := by decide +kernel
theorem dJ5_charAt_5068e_26 : decode cJ5_charAt_5068e 26 = .ok (.invokestatic 144, 3) := dko_184 dwJ5_charAt_5068e_26
theorem dJ5_charAt_5068e_29 : decode cJ5_charAt_5068e 29 = .ok (.iload_n 2, 1) := dko_28 (dk_t 3 29 [28, 154, 0, 12, 45, 27, 51, 17, 0, 255, 126] dwJ5_charAt_5068e_26 rfl rfl)
theorem dJ5_charAt_5068e_30 : decode cJ5_charAt_5068e 30 = .ok (.ifCond .ne 12, 3) := dko_154 (dk_t 4 30 [154, 0, 12, 45, 27, 51, 17, 0, 255, 126] dwJ5_charAt_5068e_26 rfl rfl)
theorem dJ5_charAt_5068e_33 : decode cJ5_charAt_5068e 33 = .ok (.aload_n 3, 1) := dko_45 (dk_t 7 33 [45, 27, 51, 17, 0, 255, 126] dwJ5_charAt_5068e_26 rfl rfl)
theorem dJ5_charAt_5068e_34 : decode cJ5_charAt_5068e 34 = .ok (.iload_n 1, 1) := dko_27 (dk_t 8 34 [27, 51, 17, 0, 255, 126] dwJ5_charAt_5068e_26 rfl rfl)
theorem dJ5_charAt_5068e_35 : decode cJ5_charAt_5068e 35 = .ok (.baload, 1) := dko_51 (dk_t 9 35 [51, 17, 0, 255, 126] dwJ5_charAt_5068e_26 rfl rfl)
theorem dJ5_charAt_5068e_36 : decode cJ5_charAt_5068e 36 = .ok (.sipush 255, 3) := dko_17 (dk_t 10 36 [17, 0, 255, 126] dwJ5_charAt_5068e_26 rfl rfl)
theorem dJ5_charAt_5068e_39 : decode cJ5_charAt_5068e 39 = .ok (.iand, 1) := dko_126 (dk_t 13 39 [126] dwJ5_charAt_5068e_26 rfl rfl)
theorem dwJ5_charAt_5068e_40 : dkW cJ5_charAt_5068e 40 [146, 172, 45, 27, 184, 0, 148, 172] = true := by decide +kernel
theorem dJ5_charAt_5068e_40 : decode cJ5_charAt_5068e 40 = .ok (.i2c, 1) := dko_146 dwJ5_charAt_5068e_40
theorem dJ5_charAt_5068e_41 : decode cJ5_charAt_5068e 41 = .ok (.ireturn, 1) := dko_172 (dk_t 1 41 [172, 45, 27, 184, 0, 148, 172] dwJ5_charAt_5068e_40 rfl rfl)
theorem dJ5_charAt_5068e_42 : decode cJ5_charAt_5068e 42 = .ok (.aload_n 3, 1) := dko_45 (dk_t 2 42 [45, 27, 184, 0, 148, 172] dwJ5_charAt_5068e_40 rfl rfl)
theorem dJ5_charAt_5068e_43 : decode cJ5_charAt_5068e 43 = .ok (.iload_n 1, 1) := dko_27 (dk_t 3 43 [27, 184, 0, 148, 172] dwJ5_charAt_5068e_40 rfl rfl)
theorem dJ5_charAt_5068e_44 : decode cJ5_charAt_5068e 44 = .ok (.invokestatic 148, 3) := dko_184 (dk_t 4 44 [184, 0, 148, 172] dwJ5_charAt_5068e_40 rfl rfl)
theorem dJ5_charAt_5068e_47 : decode cJ5_charAt_5068e 47 = .ok (.ireturn, 1) := dko_172 (dk_t 7 47 [172] dwJ5_charAt_5068e_40 rfl rfl)
theorem dwJ5_append_cf1ce_0 : dkW cJ5_append_cf1ce 0 [43, 199, 0, 8, 42, 182, 0, 204, 176, 43, 182, 0, 32, 61] = true := by decide +kernel
theorem dJ5_append_cf1ce_0 : decode cJ5_append_cf1ce 0 = .ok (.aload_n 1, 1) := dko_43 dwJ5_append_cf1ce_0
theorem dJ5_append_cf1ce_1 : decode cJ5_append_cf1ce 1 = .ok (.ifnonnull 8, 3) := dko_199 (dk_t 1 1 [199, 0, 8, 42, 182, 0, 204, 176, 43, 182, 0, 32, 61] dwJ5_append_cf1ce_0 rfl rfl)
theorem dJ5_append_cf1ce_4 : decode cJ5_append_cf1ce 4 = .ok (.aload_n 0, 1) := dko_42 (dk_t 4 4 [42, 182, 0, 204, 176, 43, 182, 0, 32, 61] dwJ5_append_cf1ce_0 rfl rfl)
theorem dJ5_append_cf1ce_5 : decode cJ5_append_cf1ce 5 = .ok (.invokevirtual 204, 3) := dko_182 (dk_t 5 5 [182, 0, 204, 176, 43, 182, 0, 32, 61] dwJ5_append_cf1ce_0 rfl rfl)
theorem dJ5_append_cf1ce_8 : decode cJ5_append_cf1ce 8 = .ok (.areturn, 1) := dko_176 (dk_t 8 8 [176, 43, 182, 0, 32, 61] dwJ5_append_cf1ce_0 rfl rfl)
theorem dJ5_append_cf1ce_9 : decode cJ5_append_cf1ce 9 = .ok (.aload_n 1, 1) := dko_43 (dk_t 9 9 [43, 182, 0, 32, 61] dwJ5_append_cf1ce_0 rfl rfl)
theorem dJ5_append_cf1ce_10 : decode cJ5_append_cf1ce 10 = .ok (.invokevirtual 32, 3) := dko_182 (dk_t 10 10 [182, 0, 32, 61] dwJ5_append_cf1ce_0 rfl rfl)
theorem dJ5_append_cf1ce_13 : decode cJ5_append_cf1ce 13 = .ok (.istore_n 2, 1) := dko_61 (dk_t 13 13 [61] dwJ5_append_cf1ce_0 rfl rfl)
theorem dwJ5_append_cf1ce_14 : dkW cJ5_append_cf1ce 14 [42, 42, 180, 0, 79, 28, 96, 182, 0, 100, 42, 42] = true := by decide +kernel
theorem dJ5_append_cf1ce_14 : decode cJ5_append_cf1ce 14 = .ok (.aload_n 0, 1) := dko_42 dwJ5_append_cf1ce_14
theorem dJ5_append_cf1ce_15 : decode cJ5_append_cf1ce 15 = .ok (.aload_n 0, 1) := dko_42 (dk_t 1 15 [42, 180, 0, 79, 28, 96, 182, 0, 100, 42, 42] dwJ5_append_cf1ce_14 rfl rfl)
theorem dJ5_append_cf1ce_16 : decode cJ5_append_cf1ce 16 = .ok (.getfield 79, 3) := dko_180 (dk_t 2 16 [180, 0, 79, 28, 96, 182, 0, 100, 42, 42] dwJ5_append_cf1ce_14 rfl rfl)
theorem dJ5_append_cf1ce_19 : decode cJ5_append_cf1ce 19 = .ok (.iload_n 2, 1) := dko_28 (dk_t 5 19 [28, 96, 182, 0, 100, 42, 42] dwJ5_append_cf1ce_14 rfl rfl)
theorem dJ5_append_cf1ce_20 : decode cJ5_append_cf1ce 20 = .ok (.iadd, 1) := dko_96 (dk_t 6 20 [96, 182, 0, 100, 42, 42] dwJ5_append_cf1ce_14 rfl rfl)
theorem dJ5_append_cf1ce_21 : decode cJ5_append_cf1ce 21 = .ok (.invokevirtual 100, 3) := dko_182 (dk_t 7 21 [182, 0, 100, 42, 42] dwJ5_append_cf1ce_14 rfl rfl)
theorem dJ5_append_cf1ce_24 : decode cJ5_append_cf1ce 24 = .ok (.aload_n 0, 1) := dko_42 (dk_t 10 24 [42, 42] dwJ5_append_cf1ce_14 rfl rfl)
theorem dJ5_append_cf1ce_25 : decode cJ5_append_cf1ce 25 = .ok (.aload_n 0, 1) := dko_42 (dk_t 11 25 [42] dwJ5_append_cf1ce_14 rfl rfl)
theorem dwJ5_append_cf1ce_26 : dkW cJ5_append_cf1ce 26 [180, 0, 79, 43, 182, 0, 208, 42, 89, 180, 0, 79, 28, 96] = true := by decide +kernel
theorem dJ5_append_cf1ce_26 : decode cJ5_append_cf1ce 26 = .ok (.getfield 79, 3) := dko_180 dwJ5_append_cf1ce_26
theorem dJ5_append_cf1ce_29 : decode cJ5_append_cf1ce 29 = .ok (.aload_n 1, 1) := dko_43 (dk_t 3 29 [43, 182, 0, 208, 42, 89, 180, 0, 79, 28, 96] dwJ5_append_cf1ce_26 rfl rfl)
theorem dJ5_append_cf1ce_30 : decode cJ5_append_cf1ce 30 = .ok (.invokevirtual 208, 3) := dko_182 (dk_t 4 30 [182, 0, 208, 42, 89, 180, 0, 79, 28, 96] dwJ5_append_cf1ce_26 rfl rfl)
theorem dJ5_append_cf1ce_33 : decode cJ5_append_cf1ce 33 = .ok (.aload_n 0, 1) := dko_42 (dk_t 7 33 [42, 89, 180, 0, 79, 28, 96] dwJ5_append_cf1ce_26 rfl rfl)
theorem dJ5_append_cf1ce_34 : decode cJ5_append_cf1ce 34 = .ok (.dup, 1) := dko_89 (dk_t 8 34 [89, 180, 0, 79, 28, 96] dwJ5_append_cf1ce_26 rfl rfl)
theorem dJ5_append_cf1ce_35 : decode cJ5_append_cf1ce 35 = .ok (.getfield 79, 3) := dko_180 (dk_t 9 35 [180, 0, 79, 28, 96] dwJ5_append_cf1ce_26 rfl rfl)
theorem dJ5_append_cf1ce_38 : decode cJ5_append_cf1ce 38 = .ok (.iload_n 2, 1) := dko_28 (dk_t 12 38 [28, 96] dwJ5_append_cf1ce_26 rfl rfl)
theorem dJ5_append_cf1ce_39 : decode cJ5_append_cf1ce 39 = .ok (.iadd, 1) := dko_96 (dk_t 13 39 [96] dwJ5_append_cf1ce_26 rfl rfl)
theorem dwJ5_append_cf1ce_40 : dkW cJ5_append_cf1ce 40 [181, 0, 79, 42, 176] = true := by decide +kernel
theorem dJ5_append_cf1ce_40 : decode cJ5_append_cf1ce 40 = .ok (.putfield 79, 3) := dko_181 dwJ5_append_cf1ce_40
theorem dJ5_append_cf1ce_43 : decode cJ5_append_cf1ce 43 = .ok (.aload_n 0, 1) := dko_42 (dk_t 3 43 [42, 176] dwJ5_append_cf1ce_40 rfl rfl)
theorem dJ5_append_cf1ce_44 : decode cJ5_append_cf1ce 44 = .ok (.areturn, 1) := dko_176 (dk_t 4 44 [176] dwJ5_append_cf1ce_40 rfl rfl)
theorem dwJ5_appendNull_278bc_0 : dkW cJ5_appendNull_278bc 0 [42, 42, 180, 0, 79, 7, 96, 182, 0, 100, 42, 180, 0, 79] = true := by decide +kernel
theorem dJ5_appendNull_278bc_0 : decode cJ5_appendNull_278bc 0 = .ok (.aload_n 0, 1) := dko_42 dwJ5_appendNull_278bc_0
theorem dJ5_appendNull_278bc_1 : decode cJ5_appendNull_278bc 1 = .ok (.aload_n 0, 1) := dko_42 (dk_t 1 1 [42, 180, 0, 79, 7, 96, 182, 0, 100, 42, 180, 0, 79] dwJ5_appendNull_278bc_0 rfl rfl)
theorem dJ5_appendNull_278bc_2 : decode cJ5_appendNull_278bc 2 = .ok (.getfield 79, 3) := dko_180 (dk_t 2 2 [180, 0, 79, 7, 96, 182, 0, 100, 42, 180, 0, 79] dwJ5_appendNull_278bc_0 rfl rfl)
theorem dJ5_appendNull_278bc_5 : decode cJ5_appendNull_278bc 5 = .ok (.iconst 4, 1) := dko_7 (dk_t 5 5 [7, 96, 182, 0, 100, 42, 180, 0, 79] dwJ5_appendNull_278bc_0 rfl rfl)
theorem dJ5_appendNull_278bc_6 : decode cJ5_appendNull_278bc 6 = .ok (.iadd, 1) := dko_96 (dk_t 6 6 [96, 182, 0, 100, 42, 180, 0, 79] dwJ5_appendNull_278bc_0 rfl rfl)
theorem dJ5_appendNull_278bc_7 : decode cJ5_appendNull_278bc 7 = .ok (.invokevirtual 100, 3) := dko_182 (dk_t 7 7 [182, 0, 100, 42, 180, 0, 79] dwJ5_appendNull_278bc_0 rfl rfl)
theorem dJ5_appendNull_278bc_10 : decode cJ5_appendNull_278bc 10 = .ok (.aload_n 0, 1) := dko_42 (dk_t 10 10 [42, 180, 0, 79] dwJ5_appendNull_278bc_0 rfl rfl)
theorem dJ5_appendNull_278bc_11 : decode cJ5_appendNull_278bc 11 = .ok (.getfield 79, 3) := dko_180 (dk_t 11 11 [180, 0, 79] dwJ5_appendNull_278bc_0 rfl rfl)
theorem dwJ5_appendNull_278bc_14 : dkW cJ5_appendNull_278bc 14 [60, 42, 180, 0, 15, 77, 42, 182, 0, 83, 153, 0, 38, 44] = true := by decide +kernel
theorem dJ5_appendNull_278bc_14 : decode cJ5_appendNull_278bc 14 = .ok (.istore_n 1, 1) := dko_60 dwJ5_appendNull_278bc_14
theorem dJ5_appendNull_278bc_15 : decode cJ5_appendNull_278bc 15 = .ok (.aload_n 0, 1) := dko_42 (dk_t 1 15 [42, 180, 0, 15, 77, 42, 182, 0, 83, 153, 0, 38, 44] dwJ5_appendNull_278bc_14 rfl rfl)
theorem dJ5_appendNull_278bc_16 : decode cJ5_appendNull_278bc 16 = .ok (.getfield 15, 3) := dko_180 (dk_t 2 16 [180, 0, 15, 77, 42, 182, 0, 83, 153, 0, 38, 44] dwJ5_appendNull_278bc_14 rfl rfl)
theorem dJ5_appendNull_278bc_19 : decode cJ5_appendNull_278bc 19 = .ok (.astore_n 2, 1) := dko_77 (dk_t 5 19 [77, 42, 182, 0, 83, 153, 0, 38, 44] dwJ5_appendNull_278bc_14 rfl rfl)
theorem dJ5_appendNull_278bc_20 : decode cJ5_appendNull_278bc 20 = .ok (.aload_n 0, 1) := dko_42 (dk_t 6 20 [42, 182, 0, 83, 153, 0, 38, 44] dwJ5_appendNull_278bc_14 rfl rfl)
theorem dJ5_appendNull_278bc_21 : decode cJ5_appendNull_278bc 21 = .ok (.invokevirtual 83, 3) := dko_182 (dk_t 7 21 [182, 0, 83, 153, 0, 38, 44] dwJ5_appendNull_278bc_14 rfl rfl)
theorem dJ5_appendNull_278bc_24 : decode cJ5_appendNull_278bc 24 = .ok (.ifCond .eq 38, 3) := dko_153 (dk_t 10 24 [153, 0, 38, 44] dwJ5_appendNull_278bc_14 rfl rfl)
theorem dJ5_appendNull_278bc_27 : decode cJ5_appendNull_278bc 27 = .ok (.aload_n 2, 1) := dko_44 (dk_t 13 27 [44] dwJ5_appendNull_278bc_14 rfl rfl)
theorem dwJ5_appendNull_278bc_28 : dkW cJ5_appendNull_278bc 28 [27, 132, 1, 1, 16, 110, 84, 44, 27, 132, 1, 1, 16, 117] = true := by decide +kernel
theorem dJ5_appendNull_278bc_28 : decode cJ5_appendNull_278bc 28 = .ok (.iload_n 1, 1) := dko_27 dwJ5_appendNull_278bc_28
theorem dJ5_appendNull_278bc_29 : decode cJ5_appendNull_278bc 29 = .ok (.iinc 1 1, 3) := dko_132 (dk_t 1 29 [132, 1, 1, 16, 110, 84, 44, 27, 132, 1, 1, 16, 117] dwJ5_appendNull_278bc_28 rfl rfl)
theorem dJ5_appendNull_278bc_32 : decode cJ5_appendNull_278bc 32 = .ok (.bipush 110, 2) := dko_16 (dk_t 4 32 [16, 110, 84, 44, 27, 132, 1, 1, 16, 117] dwJ5_appendNull_278bc_28 rfl rfl)
theorem dJ5_appendNull_278bc_34 : decode cJ5_appendNull_278bc 34 = .ok (.bastore, 1) := dko_84 (dk_t 6 34 [84, 44, 27, 132, 1, 1, 16, 117] dwJ5_appendNull_278bc_28 rfl rfl)
theorem dJ5_appendNull_278bc_35 : decode cJ5_appendNull_278bc 35 = .ok (.aload_n 2, 1) := dko_44 (dk_t 7 35 [44, 27, 132, 1, 1, 16, 117] dwJ5_appendNull_278bc_28 rfl rfl)
theorem dJ5_appendNull_278bc_36 : decode cJ5_appendNull_278bc 36 = .ok (.iload_n 1, 1) := dko_27 (dk_t 8 36 [27, 132, 1, 1, 16, 117] dwJ5_appendNull_278bc_28 rfl rfl)
theorem dJ5_appendNull_278bc_37 : decode cJ5_appendNull_278bc 37 = .ok (.iinc 1 1, 3) := dko_132 (dk_t 9 37 [132, 1, 1, 16, 117] dwJ5_appendNull_278bc_28 rfl rfl)
theorem dJ5_appendNull_278bc_40 : decode cJ5_appendNull_278bc 40 = .ok (.bipush 117, 2) := dko_16 (dk_t 12 40 [16, 117] dwJ5_appendNull_278bc_28 rfl rfl)
theorem dwJ5_appendNull_278bc_42 : dkW cJ5_appendNull_278bc 42 [84, 44, 27, 132, 1, 1, 16, 108, 84, 44, 27, 132, 1, 1] = true := by decide +kernel
theorem dJ5_appendNull_278bc_42 : decode cJ5_appendNull_278bc 42 = .ok (.bastore, 1) := dko_84 dwJ5_appendNull_278bc_42
theorem dJ5_appendNull_278bc_43 : decode cJ5_appendNull_278bc 43 = .ok (.aload_n 2, 1) := dko_44 (dk_t 1 43 [44, 27, 132, 1, 1, 16, 108, 84, 44, 27, 132, 1, 1] dwJ5_appendNull_278bc_42 rfl rfl)
theorem dJ5_appendNull_278bc_44 : decode cJ5_appendNull_278bc 44 = .ok (.iload_n 1, 1) := dko_27 (dk_t 2 44 [27, 132, 1, 1, 16, 108, 84, 44, 27, 132, 1, 1] dwJ5_appendNull_278bc_42 rfl rfl)
theorem dJ5_appendNull_278bc_45 : decode cJ5_appendNull_278bc 45 = .ok (.iinc 1 1, 3) := dko_132 (dk_t 3 45 [132, 1, 1, 16, 108, 84, 44, 27, 132, 1, 1] dwJ5_appendNull_278bc_42 rfl rfl)
theorem dJ5_appendNull_278bc_48 : decode cJ5_appendNull_278bc 48 = .ok (.bipush 108, 2) := dko_16 (dk_t 6 48 [16, 108, 84, 44, 27, 132, 1, 1] dwJ5_appendNull_278bc_42 rfl rfl)
theorem dJ5_appendNull_278bc_50 : decode cJ5_appendNull_278bc 50 = .ok (.bastore, 1) := dko_84 (dk_t 8 50 [84, 44, 27, 132, 1, 1] dwJ5_appendNull_278bc_42 rfl rfl)
theorem dJ5_appendNull_278bc_51 : decode cJ5_appendNull_278bc 51 = .ok (.aload_n 2, 1) := dko_44 (dk_t 9 51 [44, 27, 132, 1, 1] dwJ5_appendNull_278bc_42 rfl rfl)
theorem dJ5_appendNull_278bc_52 : decode cJ5_appendNull_278bc 52 = .ok (.iload_n 1, 1) := dko_27 (dk_t 10 52 [27, 132, 1, 1] dwJ5_appendNull_278bc_42 rfl rfl)
theorem dJ5_appendNull_278bc_53 : decode cJ5_appendNull_278bc 53 = .ok (.iinc 1 1, 3) := dko_132 (dk_t 11 53 [132, 1, 1] dwJ5_appendNull_278bc_42 rfl rfl)
theorem dwJ5_appendNull_278bc_56 : dkW cJ5_appendNull_278bc 56 [16, 108, 84, 167, 0, 17, 44, 27, 16, 110, 16, 117, 16, 108] = true := by decide +kernel
theorem dJ5_appendNull_278bc_56 : decode cJ5_appendNull_278bc 56 = .ok (.bipush 108, 2) := dko_16 dwJ5_appendNull_278bc_56
theorem dJ5_appendNull_278bc_58 : decode cJ5_appendNull_278bc 58 = .ok (.bastore, 1) := dko_84 (dk_t 2 58 [84, 167, 0, 17, 44, 27, 16, 110, 16, 117, 16, 108] dwJ5_appendNull_278bc_56 rfl rfl)
theorem dJ5_appendNull_278bc_59 : decode cJ5_appendNull_278bc 59 = .ok (.goto 17, 3) := dko_167 (dk_t 3 59 [167, 0, 17, 44, 27, 16, 110, 16, 117, 16, 108] dwJ5_appendNull_278bc_56 rfl rfl)
theorem dJ5_appendNull_278bc_62 : decode cJ5_appendNull_278bc 62 = .ok (.aload_n 2, 1) := dko_44 (dk_t 6 62 [44, 27, 16, 110, 16, 117, 16, 108] dwJ5_appendNull_278bc_56 rfl rfl)
theorem dJ5_appendNull_278bc_63 : decode cJ5_appendNull_278bc 63 = .ok (.iload_n 1, 1) := dko_27 (dk_t 7 63 [27, 16, 110, 16, 117, 16, 108] dwJ5_appendNull_278bc_56 rfl rfl)
theorem dJ5_appendNull_278bc_64 : decode cJ5_appendNull_278bc 64 = .ok (.bipush 110, 2) := dko_16 (dk_t 8 64 [16, 110, 16, 117, 16, 108] dwJ5_appendNull_278bc_56 rfl rfl)
theorem dJ5_appendNull_278bc_66 : decode cJ5_appendNull_278bc 66 = .ok (.bipush 117, 2) := dko_16 (dk_t 10 66 [16, 117, 16, 108] dwJ5_appendNull_278bc_56 rfl rfl)
theorem dJ5_appendNull_278bc_68 : decode cJ5_appendNull_278bc 68 = .ok (.bipush 108, 2) := dko_16 (dk_t 12 68 [16, 108] dwJ5_appendNull_278bc_56 rfl rfl)
theorem dwJ5_appendNull_278bc_70 : dkW cJ5_appendNull_278bc 70 [16, 108, 184, 0, 226, 60, 42, 27, 181, 0, 79, 42, 176] = true := by decide +kernel
theorem dJ5_appendNull_278bc_70 : decode cJ5_appendNull_278bc 70 = .ok (.bipush 108, 2) := dko_16 dwJ5_appendNull_278bc_70
theorem dJ5_appendNull_278bc_72 : decode cJ5_appendNull_278bc 72 = .ok (.invokestatic 226, 3) := dko_184 (dk_t 2 72 [184, 0, 226, 60, 42, 27, 181, 0, 79, 42, 176] dwJ5_appendNull_278bc_70 rfl rfl)
theorem dJ5_appendNull_278bc_75 : decode cJ5_appendNull_278bc 75 = .ok (.istore_n 1, 1) := dko_60 (dk_t 5 75 [60, 42, 27, 181, 0, 79, 42, 176] dwJ5_appendNull_278bc_70 rfl rfl)
theorem dJ5_appendNull_278bc_76 : decode cJ5_appendNull_278bc 76 = .ok (.aload_n 0, 1) := dko_42 (dk_t 6 76 [42, 27, 181, 0, 79, 42, 176] dwJ5_appendNull_278bc_70 rfl rfl)
theorem dJ5_appendNull_278bc_77 : decode cJ5_appendNull_278bc 77 = .ok (.iload_n 1, 1) := dko_27 (dk_t 7 77 [27, 181, 0, 79, 42, 176] dwJ5_appendNull_278bc_70 rfl rfl)
theorem dJ5_appendNull_278bc_78 : decode cJ5_appendNull_278bc 78 = .ok (.putfield 79, 3) := dko_181 (dk_t 8 78 [181, 0, 79, 42, 176] dwJ5_appendNull_278bc_70 rfl rfl)
theorem dJ5_appendNull_278bc_81 : decode cJ5_appendNull_278bc 81 = .ok (.aload_n 0, 1) := dko_42 (dk_t 11 81 [42, 176] dwJ5_appendNull_278bc_70 rfl rfl)
theorem dJ5_appendNull_278bc_82 : decode cJ5_appendNull_278bc 82 = .ok (.areturn, 1) := dko_176 (dk_t 12 82 [176] dwJ5_appendNull_278bc_70 rfl rfl)
theorem dwJ5_append_3fe6f_0 : dkW cJ5_append_3fe6f 0 [42, 42, 180, 0, 79, 4, 96, 182, 0, 100, 42, 182, 0, 83] = true := by decide +kernel
theorem dJ5_append_3fe6f_0 : decode cJ5_append_3fe6f 0 = .ok (.aload_n 0, 1) := dko_42 dwJ5_append_3fe6f_0
theorem dJ5_append_3fe6f_1 : decode cJ5_append_3fe6f 1 = .ok (.aload_n 0, 1) := dko_42 (dk_t 1 1 [42, 180, 0, 79, 4, 96, 182, 0, 100, 42, 182, 0, 83] dwJ5_append_3fe6f_0 rfl rfl)
theorem dJ5_append_3fe6f_2 : decode cJ5_append_3fe6f 2 = .ok (.getfield 79, 3) := dko_180 (dk_t 2 2 [180, 0, 79, 4, 96, 182, 0, 100, 42, 182, 0, 83] dwJ5_append_3fe6f_0 rfl rfl)
theorem dJ5_append_3fe6f_5 : decode cJ5_append_3fe6f 5 = .ok (.iconst 1, 1) := dko_4 (dk_t 5 5 [4, 96, 182, 0, 100, 42, 182, 0, 83] dwJ5_append_3fe6f_0 rfl rfl)
theorem dJ5_append_3fe6f_6 : decode cJ5_append_3fe6f 6 = .ok (.iadd, 1) := dko_96 (dk_t 6 6 [96, 182, 0, 100, 42, 182, 0, 83] dwJ5_append_3fe6f_0 rfl rfl)
theorem dJ5_append_3fe6f_7 : decode cJ5_append_3fe6f 7 = .ok (.invokevirtual 100, 3) := dko_182 (dk_t 7 7 [182, 0, 100, 42, 182, 0, 83] dwJ5_append_3fe6f_0 rfl rfl)
theorem dJ5_append_3fe6f_10 : decode cJ5_append_3fe6f 10 = .ok (.aload_n 0, 1) := dko_42 (dk_t 10 10 [42, 182, 0, 83] dwJ5_append_3fe6f_0 rfl rfl)
theorem dJ5_append_3fe6f_11 : decode cJ5_append_3fe6f 11 = .ok (.invokevirtual 83, 3) := dko_182 (dk_t 11 11 [182, 0, 83] dwJ5_append_3fe6f_0 rfl rfl)
theorem dwJ5_append_3fe6f_14 : dkW cJ5_append_3fe6f 14 [153, 0, 31, 27, 184, 0, 191, 153, 0, 24, 42, 180, 0, 15] = true := by decide +kernel
theorem dJ5_append_3fe6f_14 : decode cJ5_append_3fe6f 14 = .ok (.ifCond .eq 31, 3) := dko_153 dwJ5_append_3fe6f_14
theorem dJ5_append_3fe6f_17 : decode cJ5_append_3fe6f 17 = .ok (.iload_n 1, 1) := dko_27 (dk_t 3 17 [27, 184, 0, 191, 153, 0, 24, 42, 180, 0, 15] dwJ5_append_3fe6f_14 rfl rfl)
theorem dJ5_append_3fe6f_18 : decode cJ5_append_3fe6f 18 = .ok (.invokestatic 191, 3) := dko_184 (dk_t 4 18 [184, 0, 191, 153, 0, 24, 42, 180, 0, 15] dwJ5_append_3fe6f_14 rfl rfl)
theorem dJ5_append_3fe6f_21 : decode cJ5_append_3fe6f 21 = .ok (.ifCond .eq 24, 3) := dko_153 (dk_t 7 21 [153, 0, 24, 42, 180, 0, 15] dwJ5_append_3fe6f_14 rfl rfl)
theorem dJ5_append_3fe6f_24 : decode cJ5_append_3fe6f 24 = .ok (.aload_n 0, 1) := dko_42 (dk_t 10 24 [42, 180, 0, 15] dwJ5_append_3fe6f_14 rfl rfl)
theorem dJ5_append_3fe6f_25 : decode cJ5_append_3fe6f 25 = .ok (.getfield 15, 3) := dko_180 (dk_t 11 25 [180, 0, 15] dwJ5_append_3fe6f_14 rfl rfl)
theorem dwJ5_append_3fe6f_28 : dkW cJ5_append_3fe6f 28 [42, 89, 180, 0, 79, 90, 4, 96, 181, 0, 79, 27, 145, 84] = true := by decide +kernel
theorem dJ5_append_3fe6f_28 : decode cJ5_append_3fe6f 28 = .ok (.aload_n 0, 1) := dko_42 dwJ5_append_3fe6f_28
theorem dJ5_append_3fe6f_29 : decode cJ5_append_3fe6f 29 = .ok (.dup, 1) := dko_89 (dk_t 1 29 [89, 180, 0, 79, 90, 4, 96, 181, 0, 79, 27, 145, 84] dwJ5_append_3fe6f_28 rfl rfl)
theorem dJ5_append_3fe6f_30 : decode cJ5_append_3fe6f 30 = .ok (.getfield 79, 3) := dko_180 (dk_t 2 30 [180, 0, 79, 90, 4, 96, 181, 0, 79, 27, 145, 84] dwJ5_append_3fe6f_28 rfl rfl)
theorem dJ5_append_3fe6f_33 : decode cJ5_append_3fe6f 33 = .ok (.dup_x1, 1) := dko_90 (dk_t 5 33 [90, 4, 96, 181, 0, 79, 27, 145, 84] dwJ5_append_3fe6f_28 rfl rfl)
theorem dJ5_append_3fe6f_34 : decode cJ5_append_3fe6f 34 = .ok (.iconst 1, 1) := dko_4 (dk_t 6 34 [4, 96, 181, 0, 79, 27, 145, 84] dwJ5_append_3fe6f_28 rfl rfl)
theorem dJ5_append_3fe6f_35 : decode cJ5_append_3fe6f 35 = .ok (.iadd, 1) := dko_96 (dk_t 7 35 [96, 181, 0, 79, 27, 145, 84] dwJ5_append_3fe6f_28 rfl rfl)
theorem dJ5_append_3fe6f_36 : decode cJ5_append_3fe6f 36 = .ok (.putfield 79, 3) := dko_181 (dk_t 8 36 [181, 0, 79, 27, 145, 84] dwJ5_append_3fe6f_28 rfl rfl)
theorem dJ5_append_3fe6f_39 : decode cJ5_append_3fe6f 39 = .ok (.iload_n 1, 1) := dko_27 (dk_t 11 39 [27, 145, 84] dwJ5_append_3fe6f_28 rfl rfl)
theorem dJ5_append_3fe6f_40 : decode cJ5_append_3fe6f 40 = .ok (.i2b, 1) := dko_145 (dk_t 12 40 [145, 84] dwJ5_append_3fe6f_28 rfl rfl)
theorem dJ5_append_3fe6f_41 : decode cJ5_append_3fe6f 41 = .ok (.bastore, 1) := dko_84 (dk_t 13 41 [84] dwJ5_append_3fe6f_28 rfl rfl)
theorem dwJ5_append_3fe6f_42 : dkW cJ5_append_3fe6f 42 [167, 0, 33, 42, 182, 0, 83, 153, 0, 7, 42, 182, 0, 195] = true := by decide +kernel
theorem dJ5_append_3fe6f_42 : decode cJ5_append_3fe6f 42 = .ok (.goto 33, 3) := dko_167 dwJ5_append_3fe6f_42
theorem dJ5_append_3fe6f_45 : decode cJ5_append_3fe6f 45 = .ok (.aload_n 0, 1) := dko_42 (dk_t 3 45 [42, 182, 0, 83, 153, 0, 7, 42, 182, 0, 195] dwJ5_append_3fe6f_42 rfl rfl)
theorem dJ5_append_3fe6f_46 : decode cJ5_append_3fe6f 46 = .ok (.invokevirtual 83, 3) := dko_182 (dk_t 4 46 [182, 0, 83, 153, 0, 7, 42, 182, 0, 195] dwJ5_append_3fe6f_42 rfl rfl)
theorem dJ5_append_3fe6f_49 : decode cJ5_append_3fe6f 49 = .ok (.ifCond .eq 7, 3) := dko_153 (dk_t 7 49 [153, 0, 7, 42, 182, 0, 195] dwJ5_append_3fe6f_42 rfl rfl)
theorem dJ5_append_3fe6f_52 : decode cJ5_append_3fe6f 52 = .ok (.aload_n 0, 1) := dko_42 (dk_t 10 52 [42, 182, 0, 195] dwJ5_append_3fe6f_42 rfl rfl)
theorem dJ5_append_3fe6f_53 : decode cJ5_append_3fe6f 53 = .ok (.invokevirtual 195, 3) := dko_182 (dk_t 11 53 [182, 0, 195] dwJ5_append_3fe6f_42 rfl rfl)
theorem dwJ5_append_3fe6f_56 : dkW cJ5_append_3fe6f 56 [42, 180, 0, 15, 42, 89, 180, 0, 79, 90, 4, 96] = true := by decide +kernel
theorem dJ5_append_3fe6f_56 : decode cJ5_append_3fe6f 56 = .ok (.aload_n 0, 1) := dko_42 dwJ5_append_3fe6f_56
theorem dJ5_append_3fe6f_57 : decode cJ5_append_3fe6f 57 = .ok (.getfield 15, 3) := dko_180 (dk_t 1 57 [180, 0, 15, 42, 89, 180, 0, 79, 90, 4, 96] dwJ5_append_3fe6f_56 rfl rfl)
theorem dJ5_append_3fe6f_60 : decode cJ5_append_3fe6f 60 = .ok (.aload_n 0, 1) := dko_42 (dk_t 4 60 [42, 89, 180, 0, 79, 90, 4, 96] dwJ5_append_3fe6f_56 rfl rfl)
theorem dJ5_append_3fe6f_61 : decode cJ5_append_3fe6f 61 = .ok (.dup, 1) := dko_89 (dk_t 5 61 [89, 180, 0, 79, 90, 4, 96] dwJ5_append_3fe6f_56 rfl rfl)
theorem dJ5_append_3fe6f_62 : decode cJ5_append_3fe6f 62 = .ok (.getfield 79, 3) := dko_180 (dk_t 6 62 [180, 0, 79, 90, 4, 96] dwJ5_append_3fe6f_56 rfl rfl)
theorem dJ5_append_3fe6f_65 : decode cJ5_append_3fe6f 65 = .ok (.dup_x1, 1) := dko_90 (dk_t 9 65 [90, 4, 96] dwJ5_append_3fe6f_56 rfl rfl)
theorem dJ5_append_3fe6f_66 : decode cJ5_append_3fe6f 66 = .ok (.iconst 1, 1) := dko_4 (dk_t 10 66 [4, 96] dwJ5_append_3fe6f_56 rfl rfl)
theorem dJ5_append_3fe6f_67 : decode cJ5_append_3fe6f 67 = .ok (.iadd, 1) := dko_96 (dk_t 11 67 [96] dwJ5_append_3fe6f_56 rfl rfl)
theorem dwJ5_append_3fe6f_68 : dkW cJ5_append_3fe6f 68 [181, 0, 79, 27, 184, 0, 197, 42, 176] = true := by decide +kernel
theorem dJ5_append_3fe6f_68 : decode cJ5_append_3fe6f 68 = .ok (.putfield 79, 3) := dko_181 dwJ5_append_3fe6f_68
theorem dJ5_append_3fe6f_71 : decode cJ5_append_3fe6f 71 = .ok (.iload_n 1, 1) := dko_27 (dk_t 3 71 [27, 184, 0, 197, 42, 176] dwJ5_append_3fe6f_68 rfl rfl)
theorem dJ5_append_3fe6f_72 : decode cJ5_append_3fe6f 72 = .ok (.invokestatic 197, 3) := dko_184 (dk_t 4 72 [184, 0, 197, 42, 176] dwJ5_append_3fe6f_68 rfl rfl)
theorem dJ5_append_3fe6f_75 : decode cJ5_append_3fe6f 75 = .ok (.aload_n 0, 1) := dko_42 (dk_t 7 75 [42, 176] dwJ5_append_3fe6f_68 rfl rfl)
theorem dJ5_append_3fe6f_76 : decode cJ5_append_3fe6f 76 = .ok (.areturn, 1) := dko_176 (dk_t 8 76 [176] dwJ5_append_3fe6f_68 rfl rfl)
theorem dwJ5_append_c97b9_0 : dkW cJ5_append_c97b9 0 [42, 180, 0, 79, 61, 28, 27, 184, 0, 245, 96, 62, 42, 29] = true := by decide +kernel
theorem dJ5_append_c97b9_0 : decode cJ5_append_c97b9 0 = .ok (.aload_n 0, 1) := dko_42 dwJ5_append_c97b9_0
theorem dJ5_append_c97b9_1 : decode cJ5_append_c97b9 1 = .ok (.getfield 79, 3) := dko_180 (dk_t 1 1 [180, 0, 79, 61, 28, 27, 184, 0, 245, 96, 62, 42, 29] dwJ5_append_c97b9_0 rfl rfl)
theorem dJ5_append_c97b9_4 : decode cJ5_append_c97b9 4 = .ok (.istore_n 2, 1) := dko_61 (dk_t 4 4 [61, 28, 27, 184, 0, 245, 96, 62, 42, 29] dwJ5_append_c97b9_0 rfl rfl)
theorem dJ5_append_c97b9_5 : decode cJ5_append_c97b9 5 = .ok (.iload_n 2, 1) := dko_28 (dk_t 5 5 [28, 27, 184, 0, 245, 96, 62, 42, 29] dwJ5_append_c97b9_0 rfl rfl)
theorem dJ5_append_c97b9_6 : decode cJ5_append_c97b9 6 = .ok (.iload_n 1, 1) := dko_27 (dk_t 6 6 [27, 184, 0, 245, 96, 62, 42, 29] dwJ5_append_c97b9_0 rfl rfl)
theorem dJ5_append_c97b9_7 : decode cJ5_append_c97b9 7 = .ok (.invokestatic 245, 3) := dko_184 (dk_t 7 7 [184, 0, 245, 96, 62, 42, 29] dwJ5_append_c97b9_0 rfl rfl)
theorem dJ5_append_c97b9_10 : decode cJ5_append_c97b9 10 = .ok (.iadd, 1) := dko_96 (dk_t 10 10 [96, 62, 42, 29] dwJ5_append_c97b9_0 rfl rfl)
theorem dJ5_append_c97b9_11 : decode cJ5_append_c97b9 11 = .ok (.istore_n 3, 1) := dko_62 (dk_t 11 11 [62, 42, 29] dwJ5_append_c97b9_0 rfl rfl)
theorem dJ5_append_c97b9_12 : decode cJ5_append_c97b9 12 = .ok (.aload_n 0, 1) := dko_42 (dk_t 12 12 [42, 29] dwJ5_append_c97b9_0 rfl rfl)
theorem dJ5_append_c97b9_13 : decode cJ5_append_c97b9 13 = .ok (.iload_n 3, 1) := dko_29 (dk_t 13 13 [29] dwJ5_append_c97b9_0 rfl rfl)
theorem dwJ5_append_c97b9_14 : dkW cJ5_append_c97b9 14 [182, 0, 100, 42, 182, 0, 83, 153, 0, 16, 27, 29, 42] = true := by decide +kernel
theorem dJ5_append_c97b9_14 : decode cJ5_append_c97b9 14 = .ok (.invokevirtual 100, 3) := dko_182 dwJ5_append_c97b9_14
theorem dJ5_append_c97b9_17 : decode cJ5_append_c97b9 17 = .ok (.aload_n 0, 1) := dko_42 (dk_t 3 17 [42, 182, 0, 83, 153, 0, 16, 27, 29, 42] dwJ5_append_c97b9_14 rfl rfl)
theorem dJ5_append_c97b9_18 : decode cJ5_append_c97b9 18 = .ok (.invokevirtual 83, 3) := dko_182 (dk_t 4 18 [182, 0, 83, 153, 0, 16, 27, 29, 42] dwJ5_append_c97b9_14 rfl rfl)
theorem dJ5_append_c97b9_21 : decode cJ5_append_c97b9 21 = .ok (.ifCond .eq 16, 3) := dko_153 (dk_t 7 21 [153, 0, 16, 27, 29, 42] dwJ5_append_c97b9_14 rfl rfl)
theorem dJ5_append_c97b9_24 : decode cJ5_append_c97b9 24 = .ok (.iload_n 1, 1) := dko_27 (dk_t 10 24 [27, 29, 42] dwJ5_append_c97b9_14 rfl rfl)
theorem dJ5_append_c97b9_25 : decode cJ5_append_c97b9 25 = .ok (.iload_n 3, 1) := dko_29 (dk_t 11 25 [29, 42] dwJ5_append_c97b9_14 rfl rfl)
theorem dJ5_append_c97b9_26 : decode cJ5_append_c97b9 26 = .ok (.aload_n 0, 1) := dko_42 (dk_t 12 26 [42] dwJ5_append_c97b9_14 rfl rfl)
theorem dwJ5_append_c97b9_27 : dkW cJ5_append_c97b9 27 [180, 0, 15, 184, 0, 248, 87, 167, 0, 14, 27, 28, 29, 42] = true := by decide +kernel
theorem dJ5_append_c97b9_27 : decode cJ5_append_c97b9 27 = .ok (.getfield 15, 3) := dko_180 dwJ5_append_c97b9_27
theorem dJ5_append_c97b9_30 : decode cJ5_append_c97b9 30 = .ok (.invokestatic 248, 3) := dko_184 (dk_t 3 30 [184, 0, 248, 87, 167, 0, 14, 27, 28, 29, 42] dwJ5_append_c97b9_27 rfl rfl)
theorem dJ5_append_c97b9_33 : decode cJ5_append_c97b9 33 = .ok (.pop, 1) := dko_87 (dk_t 6 33 [87, 167, 0, 14, 27, 28, 29, 42] dwJ5_append_c97b9_27 rfl rfl)
theorem dJ5_append_c97b9_34 : decode cJ5_append_c97b9 34 = .ok (.goto 14, 3) := dko_167 (dk_t 7 34 [167, 0, 14, 27, 28, 29, 42] dwJ5_append_c97b9_27 rfl rfl)
theorem dJ5_append_c97b9_37 : decode cJ5_append_c97b9 37 = .ok (.iload_n 1, 1) := dko_27 (dk_t 10 37 [27, 28, 29, 42] dwJ5_append_c97b9_27 rfl rfl)
theorem dJ5_append_c97b9_38 : decode cJ5_append_c97b9 38 = .ok (.iload_n 2, 1) := dko_28 (dk_t 11 38 [28, 29, 42] dwJ5_append_c97b9_27 rfl rfl)
theorem dJ5_append_c97b9_39 : decode cJ5_append_c97b9 39 = .ok (.iload_n 3, 1) := dko_29 (dk_t 12 39 [29, 42] dwJ5_append_c97b9_27 rfl rfl)
theorem dJ5_append_c97b9_40 : decode cJ5_append_c97b9 40 = .ok (.aload_n 0, 1) := dko_42 (dk_t 13 40 [42] dwJ5_append_c97b9_27 rfl rfl)
theorem dwJ5_append_c97b9_41 : dkW cJ5_append_c97b9 41 [180, 0, 15, 184, 0, 251, 87, 42, 29, 181, 0, 79, 42, 176] = true := by decide +kernel
theorem dJ5_append_c97b9_41 : decode cJ5_append_c97b9 41 = .ok (.getfield 15, 3) := dko_180 dwJ5_append_c97b9_41
theorem dJ5_append_c97b9_44 : decode cJ5_append_c97b9 44 = .ok (.invokestatic 251, 3) := dko_184 (dk_t 3 44 [184, 0, 251, 87, 42, 29, 181, 0, 79, 42, 176] dwJ5_append_c97b9_41 rfl rfl)
theorem dJ5_append_c97b9_47 : decode cJ5_append_c97b9 47 = .ok (.pop, 1) := dko_87 (dk_t 6 47 [87, 42, 29, 181, 0, 79, 42, 176] dwJ5_append_c97b9_41 rfl rfl)
theorem dJ5_append_c97b9_48 : decode cJ5_append_c97b9 48 = .ok (.aload_n 0, 1) := dko_42 (dk_t 7 48 [42, 29, 181, 0, 79, 42, 176] dwJ5_append_c97b9_41 rfl rfl)
theorem dJ5_append_c97b9_49 : decode cJ5_append_c97b9 49 = .ok (.iload_n 3, 1) := dko_29 (dk_t 8 49 [29, 181, 0, 79, 42, 176] dwJ5_append_c97b9_41 rfl rfl)
theorem dJ5_append_c97b9_50 : decode cJ5_append_c97b9 50 = .ok (.putfield 79, 3) := dko_181 (dk_t 9 50 [181, 0, 79, 42, 176] dwJ5_append_c97b9_41 rfl rfl)
theorem dJ5_append_c97b9_53 : decode cJ5_append_c97b9 53 = .ok (.aload_n 0, 1) := dko_42 (dk_t 12 53 [42, 176] dwJ5_append_c97b9_41 rfl rfl)
theorem dJ5_append_c97b9_54 : decode cJ5_append_c97b9 54 = .ok (.areturn, 1) := dko_176 (dk_t 13 54 [176] dwJ5_append_c97b9_41 rfl rfl)
theorem dwJ5_isLatin1_aae02_0 : dkW cJ5_isLatin1_aae02 0 [178, 0, 18, 153, 0, 14, 42, 180, 0, 22, 154, 0, 7, 4] = true := by decide +kernel
theorem dJ5_isLatin1_aae02_0 : decode cJ5_isLatin1_aae02 0 = .ok (.getstatic 18, 3) := dko_178 dwJ5_isLatin1_aae02_0
theorem dJ5_isLatin1_aae02_3 : decode cJ5_isLatin1_aae02 3 = .ok (.ifCond .eq 14, 3) := dko_153 (dk_t 3 3 [153, 0, 14, 42, 180, 0, 22, 154, 0, 7, 4] dwJ5_isLatin1_aae02_0 rfl rfl)
theorem dJ5_isLatin1_aae02_6 : decode cJ5_isLatin1_aae02 6 = .ok (.aload_n 0, 1) := dko_42 (dk_t 6 6 [42, 180, 0, 22, 154, 0, 7, 4] dwJ5_isLatin1_aae02_0 rfl rfl)
theorem dJ5_isLatin1_aae02_7 : decode cJ5_isLatin1_aae02 7 = .ok (.getfield 22, 3) := dko_180 (dk_t 7 7 [180, 0, 22, 154, 0, 7, 4] dwJ5_isLatin1_aae02_0 rfl rfl)
theorem dJ5_isLatin1_aae02_10 : decode cJ5_isLatin1_aae02 10 = .ok (.ifCond .ne 7, 3) := dko_154 (dk_t 10 10 [154, 0, 7, 4] dwJ5_isLatin1_aae02_0 rfl rfl)
theorem dJ5_isLatin1_aae02_13 : decode cJ5_isLatin1_aae02 13 = .ok (.iconst 1, 1) := dko_4 (dk_t 13 13 [4] dwJ5_isLatin1_aae02_0 rfl rfl)
theorem dwJ5_isLatin1_aae02_14 : dkW cJ5_isLatin1_aae02 14 [167, 0, 4, 3, 172] = true := by decide +kernel
theorem dJ5_isLatin1_aae02_14 : decode cJ5_isLatin1_aae02 14 = .ok (.goto 4, 3) := dko_167 dwJ5_isLatin1_aae02_14
theorem dJ5_isLatin1_aae02_17 : decode cJ5_isLatin1_aae02 17 = .ok (.iconst 0, 1) := dko_3 (dk_t 3 17 [3, 172] dwJ5_isLatin1_aae02_14 rfl rfl)
theorem dJ5_isLatin1_aae02_18 : decode cJ5_isLatin1_aae02 18 = .ok (.ireturn, 1) := dko_172 (dk_t 4 18 [172] dwJ5_isLatin1_aae02_14 rfl rfl)
theorem dwJ5_inflateIfNeededFor_a7421_0 : dkW cJ5_inflateIfNeededFor_a7421 0 [178, 0, 18, 153, 0, 18, 42, 180, 0, 22, 43, 182, 0, 40] = true := by decide +kernel
theorem dJ5_inflateIfNeededFor_a7421_0 : decode cJ5_inflateIfNeededFor_a7421 0 = .ok (.getstatic 18, 3) := dko_178 dwJ5_inflateIfNeededFor_a7421_0
theorem dJ5_inflateIfNeededFor_a7421_3 : decode cJ5_inflateIfNeededFor_a7421 3 = .ok (.ifCond .eq 18, 3) := dko_153 (dk_t 3 3 [153, 0, 18, 42, 180, 0, 22, 43, 182, 0, 40] dwJ5_inflateIfNeededFor_a7421_0 rfl rfl)
theorem dJ5_inflateIfNeededFor_a7421_6 : decode cJ5_inflateIfNeededFor_a7421 6 = .ok (.aload_n 0, 1) := dko_42 (dk_t 6 6 [42, 180, 0, 22, 43, 182, 0, 40] dwJ5_inflateIfNeededFor_a7421_0 rfl rfl)
theorem dJ5_inflateIfNeededFor_a7421_7 : decode cJ5_inflateIfNeededFor_a7421 7 = .ok (.getfield 22, 3) := dko_180 (dk_t 7 7 [180, 0, 22, 43, 182, 0, 40] dwJ5_inflateIfNeededFor_a7421_0 rfl rfl)
theorem dJ5_inflateIfNeededFor_a7421_10 : decode cJ5_inflateIfNeededFor_a7421 10 = .ok (.aload_n 1, 1) := dko_43 (dk_t 10 10 [43, 182, 0, 40] dwJ5_inflateIfNeededFor_a7421_0 rfl rfl)
theorem dJ5_inflateIfNeededFor_a7421_11 : decode cJ5_inflateIfNeededFor_a7421 11 = .ok (.invokevirtual 40, 3) := dko_182 (dk_t 11 11 [182, 0, 40] dwJ5_inflateIfNeededFor_a7421_0 rfl rfl)
theorem dwJ5_inflateIfNeededFor_a7421_14 : dkW cJ5_inflateIfNeededFor_a7421 14 [159, 0, 7, 42, 182, 0, 195, 177] = true := by decide +kernel
theorem dJ5_inflateIfNeededFor_a7421_14 : decode cJ5_inflateIfNeededFor_a7421 14 = .ok (.if_icmp .eq 7, 3) := dko_159 dwJ5_inflateIfNeededFor_a7421_14
theorem dJ5_inflateIfNeededFor_a7421_17 : decode cJ5_inflateIfNeededFor_a7421 17 = .ok (.aload_n 0, 1) := dko_42 (dk_t 3 17 [42, 182, 0, 195, 177] dwJ5_inflateIfNeededFor_a7421_14 rfl rfl)
theorem dJ5_inflateIfNeededFor_a7421_18 : decode cJ5_inflateIfNeededFor_a7421 18 = .ok (.invokevirtual 195, 3) := dko_182 (dk_t 4 18 [182, 0, 195, 177] dwJ5_inflateIfNeededFor_a7421_14 rfl rfl)
theorem dJ5_inflateIfNeededFor_a7421_21 : decode cJ5_inflateIfNeededFor_a7421 21 = .ok (.return_, 1) := dko_177 (dk_t 7 21 [177] dwJ5_inflateIfNeededFor_a7421_14 rfl rfl)
theorem dwJ5_putStringAt_47b60_0 : dkW cJ5_putStringAt_47b60 0 [42, 44, 182, 1, 141, 44, 42, 180, 0, 15, 27, 42] = true := by decide +kernel
theorem dJ5_putStringAt_47b60_0 : decode cJ5_putStringAt_47b60 0 = .ok (.aload_n 0, 1) := dko_42 dwJ5_putStringAt_47b60_0
theorem dJ5_putStringAt_47b60_1 : decode cJ5_putStringAt_47b60 1 = .ok (.aload_n 2, 1) := dko_44 (dk_t 1 1 [44, 182, 1, 141, 44, 42, 180, 0, 15, 27, 42] dwJ5_putStringAt_47b60_0 rfl rfl)
theorem dJ5_putStringAt_47b60_2 : decode cJ5_putStringAt_47b60 2 = .ok (.invokevirtual 397, 3) := dko_182 (dk_t 2 2 [182, 1, 141, 44, 42, 180, 0, 15, 27, 42] dwJ5_putStringAt_47b60_0 rfl rfl)
theorem dJ5_putStringAt_47b60_5 : decode cJ5_putStringAt_47b60 5 = .ok (.aload_n 2, 1) := dko_44 (dk_t 5 5 [44, 42, 180, 0, 15, 27, 42] dwJ5_putStringAt_47b60_0 rfl rfl)
theorem dJ5_putStringAt_47b60_6 : decode cJ5_putStringAt_47b60 6 = .ok (.aload_n 0, 1) := dko_42 (dk_t 6 6 [42, 180, 0, 15, 27, 42] dwJ5_putStringAt_47b60_0 rfl rfl)
theorem dJ5_putStringAt_47b60_7 : decode cJ5_putStringAt_47b60 7 = .ok (.getfield 15, 3) := dko_180 (dk_t 7 7 [180, 0, 15, 27, 42] dwJ5_putStringAt_47b60_0 rfl rfl)
theorem dJ5_putStringAt_47b60_10 : decode cJ5_putStringAt_47b60 10 = .ok (.iload_n 1, 1) := dko_27 (dk_t 10 10 [27, 42] dwJ5_putStringAt_47b60_0 rfl rfl)
theorem dJ5_putStringAt_47b60_11 : decode cJ5_putStringAt_47b60 11 = .ok (.aload_n 0, 1) := dko_42 (dk_t 11 11 [42] dwJ5_putStringAt_47b60_0 rfl rfl)
theorem dwJ5_putStringAt_47b60_12 : dkW cJ5_putStringAt_47b60 12 [180, 0, 22, 182, 1, 143, 177] = true := by decide +kernel
theorem dJ5_putStringAt_47b60_12 : decode cJ5_putStringAt_47b60 12 = .ok (.getfield 22, 3) := dko_180 dwJ5_putStringAt_47b60_12
theorem dJ5_putStringAt_47b60_15 : decode cJ5_putStringAt_47b60 15 = .ok (.invokevirtual 399, 3) := dko_182 (dk_t 3 15 [182, 1, 143, 177] dwJ5_putStringAt_47b60_12 rfl rfl)
theorem dJ5_putStringAt_47b60_18 : decode cJ5_putStringAt_47b60 18 = .ok (.return_, 1) := dko_177 (dk_t 6 18 [177] dwJ5_putStringAt_47b60_12 rfl rfl)
theorem dwJ6_getChars_ba4f3_0 : dkW cJ6_getChars_ba4f3 0 [27, 54, 5, 26, 156, 0, 7, 4, 167, 0, 4, 3, 54, 6] = true := by decide +kernel
theorem dJ6_getChars_ba4f3_0 : decode cJ6_getChars_ba4f3 0 = .ok (.iload_n 1, 1) := dko_27 dwJ6_getChars_ba4f3_0
theorem dJ6_getChars_ba4f3_1 : decode cJ6_getChars_ba4f3 1 = .ok (.istore 5, 2) := dko_54 (dk_t 1 1 [54, 5, 26, 156, 0, 7, 4, 167, 0, 4, 3, 54, 6] dwJ6_getChars_ba4f3_0 rfl rfl)
theorem dJ6_getChars_ba4f3_3 : decode cJ6_getChars_ba4f3 3 = .ok (.iload_n 0, 1) := dko_26 (dk_t 3 3 [26, 156, 0, 7, 4, 167, 0, 4, 3, 54, 6] dwJ6_getChars_ba4f3_0 rfl rfl)
theorem dJ6_getChars_ba4f3_4 : decode cJ6_getChars_ba4f3 4 = .ok (.ifCond .ge 7, 3) := dko_156 (dk_t 4 4 [156, 0, 7, 4, 167, 0, 4, 3, 54, 6] dwJ6_getChars_ba4f3_0 rfl rfl)
theorem dJ6_getChars_ba4f3_7 : decode cJ6_getChars_ba4f3 7 = .ok (.iconst 1, 1) := dko_4 (dk_t 7 7 [4, 167, 0, 4, 3, 54, 6] dwJ6_getChars_ba4f3_0 rfl rfl)
theorem dJ6_getChars_ba4f3_8 : decode cJ6_getChars_ba4f3 8 = .ok (.goto 4, 3) := dko_167 (dk_t 8 8 [167, 0, 4, 3, 54, 6] dwJ6_getChars_ba4f3_0 rfl rfl)
theorem dJ6_getChars_ba4f3_11 : decode cJ6_getChars_ba4f3 11 = .ok (.iconst 0, 1) := dko_3 (dk_t 11 11 [3, 54, 6] dwJ6_getChars_ba4f3_0 rfl rfl)
theorem dJ6_getChars_ba4f3_12 : decode cJ6_getChars_ba4f3 12 = .ok (.istore 6, 2) := dko_54 (dk_t 12 12 [54, 6] dwJ6_getChars_ba4f3_0 rfl rfl)
theorem dwJ6_getChars_ba4f3_14 : dkW cJ6_getChars_ba4f3 14 [21, 6, 154, 0, 6, 26, 116, 59, 26, 16, 156, 163, 0, 47] = true := by decide +kernel
theorem dJ6_getChars_ba4f3_14 : decode cJ6_getChars_ba4f3 14 = .ok (.iload 6, 2) := dko_21 dwJ6_getChars_ba4f3_14
theorem dJ6_getChars_ba4f3_16 : decode cJ6_getChars_ba4f3 16 = .ok (.ifCond .ne 6, 3) := dko_154 (dk_t 2 16 [154, 0, 6, 26, 116, 59, 26, 16, 156, 163, 0, 47] dwJ6_getChars_ba4f3_14 rfl rfl)
theorem dJ6_getChars_ba4f3_19 : decode cJ6_getChars_ba4f3 19 = .ok (.iload_n 0, 1) := dko_26 (dk_t 5 19 [26, 116, 59, 26, 16, 156, 163, 0, 47] dwJ6_getChars_ba4f3_14 rfl rfl)
theorem dJ6_getChars_ba4f3_20 : decode cJ6_getChars_ba4f3 20 = .ok (.ineg, 1) := dko_116 (dk_t 6 20 [116, 59, 26, 16, 156, 163, 0, 47] dwJ6_getChars_ba4f3_14 rfl rfl)
theorem dJ6_getChars_ba4f3_21 : decode cJ6_getChars_ba4f3 21 = .ok (.istore_n 0, 1) := dko_59 (dk_t 7 21 [59, 26, 16, 156, 163, 0, 47] dwJ6_getChars_ba4f3_14 rfl rfl)
theorem dJ6_getChars_ba4f3_22 : decode cJ6_getChars_ba4f3 22 = .ok (.iload_n 0, 1) := dko_26 (dk_t 8 22 [26, 16, 156, 163, 0, 47] dwJ6_getChars_ba4f3_14 rfl rfl)
theorem dJ6_getChars_ba4f3_23 : decode cJ6_getChars_ba4f3 23 = .ok (.bipush (-100), 2) := dko_16 (dk_t 9 23 [16, 156, 163, 0, 47] dwJ6_getChars_ba4f3_14 rfl rfl)
theorem dJ6_getChars_ba4f3_25 : decode cJ6_getChars_ba4f3 25 = .ok (.if_icmp .gt 47, 3) := dko_163 (dk_t 11 25 [163, 0, 47] dwJ6_getChars_ba4f3_14 rfl rfl)
theorem dwJ6_getChars_ba4f3_28 : dkW cJ6_getChars_ba4f3 28 [26, 16, 100, 108, 62, 29, 16, 100, 104, 26, 100, 54, 4, 29] = true := by decide +kernel
theorem dJ6_getChars_ba4f3_28 : decode cJ6_getChars_ba4f3 28 = .ok (.iload_n 0, 1) := dko_26 dwJ6_getChars_ba4f3_28
theorem dJ6_getChars_ba4f3_29 : decode cJ6_getChars_ba4f3 29 = .ok (.bipush 100, 2) := dko_16 (dk_t 1 29 [16, 100, 108, 62, 29, 16, 100, 104, 26, 100, 54, 4, 29] dwJ6_getChars_ba4f3_28 rfl rfl)
theorem dJ6_getChars_ba4f3_31 : decode cJ6_getChars_ba4f3 31 = .ok (.idiv, 1) := dko_108 (dk_t 3 31 [108, 62, 29, 16, 100, 104, 26, 100, 54, 4, 29] dwJ6_getChars_ba4f3_28 rfl rfl)
theorem dJ6_getChars_ba4f3_32 : decode cJ6_getChars_ba4f3 32 = .ok (.istore_n 3, 1) := dko_62 (dk_t 4 32 [62, 29, 16, 100, 104, 26, 100, 54, 4, 29] dwJ6_getChars_ba4f3_28 rfl rfl)
theorem dJ6_getChars_ba4f3_33 : decode cJ6_getChars_ba4f3 33 = .ok (.iload_n 3, 1) := dko_29 (dk_t 5 33 [29, 16, 100, 104, 26, 100, 54, 4, 29] dwJ6_getChars_ba4f3_28 rfl rfl)
theorem dJ6_getChars_ba4f3_34 : decode cJ6_getChars_ba4f3 34 = .ok (.bipush 100, 2) := dko_16 (dk_t 6 34 [16, 100, 104, 26, 100, 54, 4, 29] dwJ6_getChars_ba4f3_28 rfl rfl)
theorem dJ6_getChars_ba4f3_36 : decode cJ6_getChars_ba4f3 36 = .ok (.imul, 1) := dko_104 (dk_t 8 36 [104, 26, 100, 54, 4, 29] dwJ6_getChars_ba4f3_28 rfl rfl)
theorem dJ6_getChars_ba4f3_37 : decode cJ6_getChars_ba4f3 37 = .ok (.iload_n 0, 1) := dko_26 (dk_t 9 37 [26, 100, 54, 4, 29] dwJ6_getChars_ba4f3_28 rfl rfl)
theorem dJ6_getChars_ba4f3_38 : decode cJ6_getChars_ba4f3 38 = .ok (.isub, 1) := dko_100 (dk_t 10 38 [100, 54, 4, 29] dwJ6_getChars_ba4f3_28 rfl rfl)
theorem dJ6_getChars_ba4f3_39 : decode cJ6_getChars_ba4f3 39 = .ok (.istore 4, 2) := dko_54 (dk_t 11 39 [54, 4, 29] dwJ6_getChars_ba4f3_28 rfl rfl)
theorem dJ6_getChars_ba4f3_41 : decode cJ6_getChars_ba4f3 41 = .ok (.iload_n 3, 1) := dko_29 (dk_t 13 41 [29] dwJ6_getChars_ba4f3_28 rfl rfl)
theorem dwJ6_getChars_ba4f3_42 : dkW cJ6_getChars_ba4f3 42 [59, 44, 132, 5, 255, 21, 5, 178, 0, 83, 21, 4, 51, 84] = true := by decide +kernel
theorem dJ6_getChars_ba4f3_42 : decode cJ6_getChars_ba4f3 42 = .ok (.istore_n 0, 1) := dko_59 dwJ6_getChars_ba4f3_42
theorem dJ6_getChars_ba4f3_43 : decode cJ6_getChars_ba4f3 43 = .ok (.aload_n 2, 1) := dko_44 (dk_t 1 43 [44, 132, 5, 255, 21, 5, 178, 0, 83, 21, 4, 51, 84] dwJ6_getChars_ba4f3_42 rfl rfl)
theorem dJ6_getChars_ba4f3_44 : decode cJ6_getChars_ba4f3 44 = .ok (.iinc 5 (-1), 3) := dko_132 (dk_t 2 44 [132, 5, 255, 21, 5, 178, 0, 83, 21, 4, 51, 84] dwJ6_getChars_ba4f3_42 rfl rfl)
theorem dJ6_getChars_ba4f3_47 : decode cJ6_getChars_ba4f3 47 = .ok (.iload 5, 2) := dko_21 (dk_t 5 47 [21, 5, 178, 0, 83, 21, 4, 51, 84] dwJ6_getChars_ba4f3_42 rfl rfl)
theorem dJ6_getChars_ba4f3_49 : decode cJ6_getChars_ba4f3 49 = .ok (.getstatic 83, 3) := dko_178 (dk_t 7 49 [178, 0, 83, 21, 4, 51, 84] dwJ6_getChars_ba4f3_42 rfl rfl)
theorem dJ6_getChars_ba4f3_52 : decode cJ6_getChars_ba4f3 52 = .ok (.iload 4, 2) := dko_21 (dk_t 10 52 [21, 4, 51, 84] dwJ6_getChars_ba4f3_42 rfl rfl)
theorem dJ6_getChars_ba4f3_54 : decode cJ6_getChars_ba4f3 54 = .ok (.baload, 1) := dko_51 (dk_t 12 54 [51, 84] dwJ6_getChars_ba4f3_42 rfl rfl)
theorem dJ6_getChars_ba4f3_55 : decode cJ6_getChars_ba4f3 55 = .ok (.bastore, 1) := dko_84 (dk_t 13 55 [84] dwJ6_getChars_ba4f3_42 rfl rfl)
theorem dwJ6_getChars_ba4f3_56 : dkW cJ6_getChars_ba4f3 56 [44, 132, 5, 255, 21, 5, 178, 0, 87, 21, 4, 51, 84] = true := by decide +kernel
theorem dJ6_getChars_ba4f3_56 : decode cJ6_getChars_ba4f3 56 = .ok (.aload_n 2, 1) := dko_44 dwJ6_getChars_ba4f3_56
theorem dJ6_getChars_ba4f3_57 : decode cJ6_getChars_ba4f3 57 = .ok (.iinc 5 (-1), 3) := dko_132 (dk_t 1 57 [132, 5, 255, 21, 5, 178, 0, 87, 21, 4, 51, 84] dwJ6_getChars_ba4f3_56 rfl rfl)
theorem dJ6_getChars_ba4f3_60 : decode cJ6_getChars_ba4f3 60 = .ok (.iload 5, 2) := dko_21 (dk_t 4 60 [21, 5, 178, 0, 87, 21, 4, 51, 84] dwJ6_getChars_ba4f3_56 rfl rfl)
theorem dJ6_getChars_ba4f3_62 : decode cJ6_getChars_ba4f3 62 = .ok (.getstatic 87, 3) := dko_178 (dk_t 6 62 [178, 0, 87, 21, 4, 51, 84] dwJ6_getChars_ba4f3_56 rfl rfl)
theorem dJ6_getChars_ba4f3_65 : decode cJ6_getChars_ba4f3 65 = .ok (.iload 4, 2) := dko_21 (dk_t 9 65 [21, 4, 51, 84] dwJ6_getChars_ba4f3_56 rfl rfl)
theorem dJ6_getChars_ba4f3_67 : decode cJ6_getChars_ba4f3 67 = .ok (.baload, 1) := dko_51 (dk_t 11 67 [51, 84] dwJ6_getChars_ba4f3_56 rfl rfl)
theorem dJ6_getChars_ba4f3_68 : decode cJ6_getChars_ba4f3 68 = .ok (.bastore, 1) := dko_84 (dk_t 12 68 [84] dwJ6_getChars_ba4f3_56 rfl rfl)
theorem dwJ6_getChars_ba4f3_69 : dkW cJ6_getChars_ba4f3 69 [167, 255, 209, 44, 132, 5, 255, 21, 5, 178, 0, 83, 26, 116] = true := by decide +kernel
theorem dJ6_getChars_ba4f3_69 : decode cJ6_getChars_ba4f3 69 = .ok (.goto (-47), 3) := dko_167 dwJ6_getChars_ba4f3_69
theorem dJ6_getChars_ba4f3_72 : decode cJ6_getChars_ba4f3 72 = .ok (.aload_n 2, 1) := dko_44 (dk_t 3 72 [44, 132, 5, 255, 21, 5, 178, 0, 83, 26, 116] dwJ6_getChars_ba4f3_69 rfl rfl)
theorem dJ6_getChars_ba4f3_73 : decode cJ6_getChars_ba4f3 73 = .ok (.iinc 5 (-1), 3) := dko_132 (dk_t 4 73 [132, 5, 255, 21, 5, 178, 0, 83, 26, 116] dwJ6_getChars_ba4f3_69 rfl rfl)
theorem dJ6_getChars_ba4f3_76 : decode cJ6_getChars_ba4f3 76 = .ok (.iload 5, 2) := dko_21 (dk_t 7 76 [21, 5, 178, 0, 83, 26, 116] dwJ6_getChars_ba4f3_69 rfl rfl)
theorem dJ6_getChars_ba4f3_78 : decode cJ6_getChars_ba4f3 78 = .ok (.getstatic 83, 3) := dko_178 (dk_t 9 78 [178, 0, 83, 26, 116] dwJ6_getChars_ba4f3_69 rfl rfl)
theorem dJ6_getChars_ba4f3_81 : decode cJ6_getChars_ba4f3 81 = .ok (.iload_n 0, 1) := dko_26 (dk_t 12 81 [26, 116] dwJ6_getChars_ba4f3_69 rfl rfl)
theorem dJ6_getChars_ba4f3_82 : decode cJ6_getChars_ba4f3 82 = .ok (.ineg, 1) := dko_116 (dk_t 13 82 [116] dwJ6_getChars_ba4f3_69 rfl rfl)
theorem dwJ6_getChars_ba4f3_83 : dkW cJ6_getChars_ba4f3 83 [51, 84, 26, 16, 247, 162, 0, 16, 44, 132, 5, 255, 21, 5] = true := by decide +kernel
theorem dJ6_getChars_ba4f3_83 : decode cJ6_getChars_ba4f3 83 = .ok (.baload, 1) := dko_51 dwJ6_getChars_ba4f3_83
theorem dJ6_getChars_ba4f3_84 : decode cJ6_getChars_ba4f3 84 = .ok (.bastore, 1) := dko_84 (dk_t 1 84 [84, 26, 16, 247, 162, 0, 16, 44, 132, 5, 255, 21, 5] dwJ6_getChars_ba4f3_83 rfl rfl)
theorem dJ6_getChars_ba4f3_85 : decode cJ6_getChars_ba4f3 85 = .ok (.iload_n 0, 1) := dko_26 (dk_t 2 85 [26, 16, 247, 162, 0, 16, 44, 132, 5, 255, 21, 5] dwJ6_getChars_ba4f3_83 rfl rfl)
theorem dJ6_getChars_ba4f3_86 : decode cJ6_getChars_ba4f3 86 = .ok (.bipush (-9), 2) := dko_16 (dk_t 3 86 [16, 247, 162, 0, 16, 44, 132, 5, 255, 21, 5] dwJ6_getChars_ba4f3_83 rfl rfl)
theorem dJ6_getChars_ba4f3_88 : decode cJ6_getChars_ba4f3 88 = .ok (.if_icmp .ge 16, 3) := dko_162 (dk_t 5 88 [162, 0, 16, 44, 132, 5, 255, 21, 5] dwJ6_getChars_ba4f3_83 rfl rfl)
theorem dJ6_getChars_ba4f3_91 : decode cJ6_getChars_ba4f3 91 = .ok (.aload_n 2, 1) := dko_44 (dk_t 8 91 [44, 132, 5, 255, 21, 5] dwJ6_getChars_ba4f3_83 rfl rfl)
theorem dJ6_getChars_ba4f3_92 : decode cJ6_getChars_ba4f3 92 = .ok (.iinc 5 (-1), 3) := dko_132 (dk_t 9 92 [132, 5, 255, 21, 5] dwJ6_getChars_ba4f3_83 rfl rfl)
theorem dJ6_getChars_ba4f3_95 : decode cJ6_getChars_ba4f3 95 = .ok (.iload 5, 2) := dko_21 (dk_t 12 95 [21, 5] dwJ6_getChars_ba4f3_83 rfl rfl)
theorem dwJ6_getChars_ba4f3_97 : dkW cJ6_getChars_ba4f3 97 [178, 0, 87, 26, 116, 51, 84, 21, 6, 153, 0, 12, 44] = true := by decide +kernel
theorem dJ6_getChars_ba4f3_97 : decode cJ6_getChars_ba4f3 97 = .ok (.getstatic 87, 3) := dko_178 dwJ6_getChars_ba4f3_97
theorem dJ6_getChars_ba4f3_100 : decode cJ6_getChars_ba4f3 100 = .ok (.iload_n 0, 1) := dko_26 (dk_t 3 100 [26, 116, 51, 84, 21, 6, 153, 0, 12, 44] dwJ6_getChars_ba4f3_97 rfl rfl)
theorem dJ6_getChars_ba4f3_101 : decode cJ6_getChars_ba4f3 101 = .ok (.ineg, 1) := dko_116 (dk_t 4 101 [116, 51, 84, 21, 6, 153, 0, 12, 44] dwJ6_getChars_ba4f3_97 rfl rfl)
theorem dJ6_getChars_ba4f3_102 : decode cJ6_getChars_ba4f3 102 = .ok (.baload, 1) := dko_51 (dk_t 5 102 [51, 84, 21, 6, 153, 0, 12, 44] dwJ6_getChars_ba4f3_97 rfl rfl)
theorem dJ6_getChars_ba4f3_103 : decode cJ6_getChars_ba4f3 103 = .ok (.bastore, 1) := dko_84 (dk_t 6 103 [84, 21, 6, 153, 0, 12, 44] dwJ6_getChars_ba4f3_97 rfl rfl)
theorem dJ6_getChars_ba4f3_104 : decode cJ6_getChars_ba4f3 104 = .ok (.iload 6, 2) := dko_21 (dk_t 7 104 [21, 6, 153, 0, 12, 44] dwJ6_getChars_ba4f3_97 rfl rfl)
theorem dJ6_getChars_ba4f3_106 : decode cJ6_getChars_ba4f3 106 = .ok (.ifCond .eq 12, 3) := dko_153 (dk_t 9 106 [153, 0, 12, 44] dwJ6_getChars_ba4f3_97 rfl rfl)
theorem dJ6_getChars_ba4f3_109 : decode cJ6_getChars_ba4f3 109 = .ok (.aload_n 2, 1) := dko_44 (dk_t 12 109 [44] dwJ6_getChars_ba4f3_97 rfl rfl)
theorem dwJ6_getChars_ba4f3_110 : dkW cJ6_getChars_ba4f3 110 [132, 5, 255, 21, 5, 16, 45, 84, 21, 5, 172] = true := by decide +kernel
theorem dJ6_getChars_ba4f3_110 : decode cJ6_getChars_ba4f3 110 = .ok (.iinc 5 (-1), 3) := dko_132 dwJ6_getChars_ba4f3_110
theorem dJ6_getChars_ba4f3_113 : decode cJ6_getChars_ba4f3 113 = .ok (.iload 5, 2) := dko_21 (dk_t 3 113 [21, 5, 16, 45, 84, 21, 5, 172] dwJ6_getChars_ba4f3_110 rfl rfl)
theorem dJ6_getChars_ba4f3_115 : decode cJ6_getChars_ba4f3 115 = .ok (.bipush 45, 2) := dko_16 (dk_t 5 115 [16, 45, 84, 21, 5, 172] dwJ6_getChars_ba4f3_110 rfl rfl)
theorem dJ6_getChars_ba4f3_117 : decode cJ6_getChars_ba4f3 117 = .ok (.bastore, 1) := dko_84 (dk_t 7 117 [84, 21, 5, 172] dwJ6_getChars_ba4f3_110 rfl rfl)
theorem dJ6_getChars_ba4f3_118 : decode cJ6_getChars_ba4f3 118 = .ok (.iload 5, 2) := dko_21 (dk_t 8 118 [21, 5, 172] dwJ6_getChars_ba4f3_110 rfl rfl)
theorem dJ6_getChars_ba4f3_120 : decode cJ6_getChars_ba4f3 120 = .ok (.ireturn, 1) := dko_172 (dk_t 10 120 [172] dwJ6_getChars_ba4f3_110 rfl rfl)
theorem dwJ6_stringSize_0f7a4_0 : dkW cJ6_stringSize_0f7a4 0 [4, 60, 26, 155, 0, 8, 3, 60, 26, 116, 59, 16, 246, 61] = true := by decide +kernel
theorem dJ6_stringSize_0f7a4_0 : decode cJ6_stringSize_0f7a4 0 = .ok (.iconst 1, 1) := dko_4 dwJ6_stringSize_0f7a4_0
theorem dJ6_stringSize_0f7a4_1 : decode cJ6_stringSize_0f7a4 1 = .ok (.istore_n 1, 1) := dko_60 (dk_t 1 1 [60, 26, 155, 0, 8, 3, 60, 26, 116, 59, 16, 246, 61] dwJ6_stringSize_0f7a4_0 rfl rfl)
theorem dJ6_stringSize_0f7a4_2 : decode cJ6_stringSize_0f7a4 2 = .ok (.iload_n 0, 1) := dko_26 (dk_t 2 2 [26, 155, 0, 8, 3, 60, 26, 116, 59, 16, 246, 61] dwJ6_stringSize_0f7a4_0 rfl rfl)
theorem dJ6_stringSize_0f7a4_3 : decode cJ6_stringSize_0f7a4 3 = .ok (.ifCond .lt 8, 3) := dko_155 (dk_t 3 3 [155, 0, 8, 3, 60, 26, 116, 59, 16, 246, 61] dwJ6_stringSize_0f7a4_0 rfl rfl)
theorem dJ6_stringSize_0f7a4_6 : decode cJ6_stringSize_0f7a4 6 = .ok (.iconst 0, 1) := dko_3 (dk_t 6 6 [3, 60, 26, 116, 59, 16, 246, 61] dwJ6_stringSize_0f7a4_0 rfl rfl)
theorem dJ6_stringSize_0f7a4_7 : decode cJ6_stringSize_0f7a4 7 = .ok (.istore_n 1, 1) := dko_60 (dk_t 7 7 [60, 26, 116, 59, 16, 246, 61] dwJ6_stringSize_0f7a4_0 rfl rfl)
theorem dJ6_stringSize_0f7a4_8 : decode cJ6_stringSize_0f7a4 8 = .ok (.iload_n 0, 1) := dko_26 (dk_t 8 8 [26, 116, 59, 16, 246, 61] dwJ6_stringSize_0f7a4_0 rfl rfl)
theorem dJ6_stringSize_0f7a4_9 : decode cJ6_stringSize_0f7a4 9 = .ok (.ineg, 1) := dko_116 (dk_t 9 9 [116, 59, 16, 246, 61] dwJ6_stringSize_0f7a4_0 rfl rfl)
theorem dJ6_stringSize_0f7a4_10 : decode cJ6_stringSize_0f7a4 10 = .ok (.istore_n 0, 1) := dko_59 (dk_t 10 10 [59, 16, 246, 61] dwJ6_stringSize_0f7a4_0 rfl rfl)
theorem dJ6_stringSize_0f7a4_11 : decode cJ6_stringSize_0f7a4 11 = .ok (.bipush (-10), 2) := dko_16 (dk_t 11 11 [16, 246, 61] dwJ6_stringSize_0f7a4_0 rfl rfl)
theorem dJ6_stringSize_0f7a4_13 : decode cJ6_stringSize_0f7a4 13 = .ok (.istore_n 2, 1) := dko_61 (dk_t 13 13 [61] dwJ6_stringSize_0f7a4_0 rfl rfl)
theorem dwJ6_stringSize_0f7a4_14 : dkW cJ6_stringSize_0f7a4 14 [4, 62, 29, 16, 10, 162, 0, 23, 26, 28, 164, 0, 7, 29] = true := by decide +kernel
theorem dJ6_stringSize_0f7a4_14 : decode cJ6_stringSize_0f7a4 14 = .ok (.iconst 1, 1) := dko_4 dwJ6_stringSize_0f7a4_14
theorem dJ6_stringSize_0f7a4_15 : decode cJ6_stringSize_0f7a4 15 = .ok (.istore_n 3, 1) := dko_62 (dk_t 1 15 [62, 29, 16, 10, 162, 0, 23, 26, 28, 164, 0, 7, 29] dwJ6_stringSize_0f7a4_14 rfl rfl)
theorem dJ6_stringSize_0f7a4_16 : decode cJ6_stringSize_0f7a4 16 = .ok (.iload_n 3, 1) := dko_29 (dk_t 2 16 [29, 16, 10, 162, 0, 23, 26, 28, 164, 0, 7, 29] dwJ6_stringSize_0f7a4_14 rfl rfl)
theorem dJ6_stringSize_0f7a4_17 : decode cJ6_stringSize_0f7a4 17 = .ok (.bipush 10, 2) := dko_16 (dk_t 3 17 [16, 10, 162, 0, 23, 26, 28, 164, 0, 7, 29] dwJ6_stringSize_0f7a4_14 rfl rfl)
theorem dJ6_stringSize_0f7a4_19 : decode cJ6_stringSize_0f7a4 19 = .ok (.if_icmp .ge 23, 3) := dko_162 (dk_t 5 19 [162, 0, 23, 26, 28, 164, 0, 7, 29] dwJ6_stringSize_0f7a4_14 rfl rfl)
theorem dJ6_stringSize_0f7a4_22 : decode cJ6_stringSize_0f7a4 22 = .ok (.iload_n 0, 1) := dko_26 (dk_t 8 22 [26, 28, 164, 0, 7, 29] dwJ6_stringSize_0f7a4_14 rfl rfl)
theorem dJ6_stringSize_0f7a4_23 : decode cJ6_stringSize_0f7a4 23 = .ok (.iload_n 2, 1) := dko_28 (dk_t 9 23 [28, 164, 0, 7, 29] dwJ6_stringSize_0f7a4_14 rfl rfl)
theorem dJ6_stringSize_0f7a4_24 : decode cJ6_stringSize_0f7a4 24 = .ok (.if_icmp .le 7, 3) := dko_164 (dk_t 10 24 [164, 0, 7, 29] dwJ6_stringSize_0f7a4_14 rfl rfl)
theorem dJ6_stringSize_0f7a4_27 : decode cJ6_stringSize_0f7a4 27 = .ok (.iload_n 3, 1) := dko_29 (dk_t 13 27 [29] dwJ6_stringSize_0f7a4_14 rfl rfl)
theorem dwJ6_stringSize_0f7a4_28 : dkW cJ6_stringSize_0f7a4 28 [27, 96, 172, 16, 10, 28, 104, 61, 132, 3, 1, 167, 255, 233] = true := by decide +kernel
theorem dJ6_stringSize_0f7a4_28 : decode cJ6_stringSize_0f7a4 28 = .ok (.iload_n 1, 1) := dko_27 dwJ6_stringSize_0f7a4_28
theorem dJ6_stringSize_0f7a4_29 : decode cJ6_stringSize_0f7a4 29 = .ok (.iadd, 1) := dko_96 (dk_t 1 29 [96, 172, 16, 10, 28, 104, 61, 132, 3, 1, 167, 255, 233] dwJ6_stringSize_0f7a4_28 rfl rfl)
theorem dJ6_stringSize_0f7a4_30 : decode cJ6_stringSize_0f7a4 30 = .ok (.ireturn, 1) := dko_172 (dk_t 2 30 [172, 16, 10, 28, 104, 61, 132, 3, 1, 167, 255, 233] dwJ6_stringSize_0f7a4_28 rfl rfl)
theorem dJ6_stringSize_0f7a4_31 : decode cJ6_stringSize_0f7a4 31 = .ok (.bipush 10, 2) := dko_16 (dk_t 3 31 [16, 10, 28, 104, 61, 132, 3, 1, 167, 255, 233] dwJ6_stringSize_0f7a4_28 rfl rfl)
theorem dJ6_stringSize_0f7a4_33 : decode cJ6_stringSize_0f7a4 33 = .ok (.iload_n 2, 1) := dko_28 (dk_t 5 33 [28, 104, 61, 132, 3, 1, 167, 255, 233] dwJ6_stringSize_0f7a4_28 rfl rfl)
theorem dJ6_stringSize_0f7a4_34 : decode cJ6_stringSize_0f7a4 34 = .ok (.imul, 1) := dko_104 (dk_t 6 34 [104, 61, 132, 3, 1, 167, 255, 233] dwJ6_stringSize_0f7a4_28 rfl rfl)
theorem dJ6_stringSize_0f7a4_35 : decode cJ6_stringSize_0f7a4 35 = .ok (.istore_n 2, 1) := dko_61 (dk_t 7 35 [61, 132, 3, 1, 167, 255, 233] dwJ6_stringSize_0f7a4_28 rfl rfl)
theorem dJ6_stringSize_0f7a4_36 : decode cJ6_stringSize_0f7a4 36 = .ok (.iinc 3 1, 3) := dko_132 (dk_t 8 36 [132, 3, 1, 167, 255, 233] dwJ6_stringSize_0f7a4_28 rfl rfl)
theorem dJ6_stringSize_0f7a4_39 : decode cJ6_stringSize_0f7a4 39 = .ok (.goto (-23), 3) := dko_167 (dk_t 11 39 [167, 255, 233] dwJ6_stringSize_0f7a4_28 rfl rfl)
theorem dwJ6_stringSize_0f7a4_42 : dkW cJ6_stringSize_0f7a4 42 [16, 10, 27, 96, 172] = true := by decide +kernel
theorem dJ6_stringSize_0f7a4_42 : decode cJ6_stringSize_0f7a4 42 = .ok (.bipush 10, 2) := dko_16 dwJ6_stringSize_0f7a4_42
theorem dJ6_stringSize_0f7a4_44 : decode cJ6_stringSize_0f7a4 44 = .ok (.iload_n 1, 1) := dko_27 (dk_t 2 44 [27, 96, 172] dwJ6_stringSize_0f7a4_42 rfl rfl)
theorem dJ6_stringSize_0f7a4_45 : decode cJ6_stringSize_0f7a4 45 = .ok (.iadd, 1) := dko_96 (dk_t 3 45 [96, 172] dwJ6_stringSize_0f7a4_42 rfl rfl)
theorem dJ6_stringSize_0f7a4_46 : decode cJ6_stringSize_0f7a4 46 = .ok (.ireturn, 1) := dko_172 (dk_t 4 46 [172] dwJ6_stringSize_0f7a4_42 rfl rfl)
theorem dwJ6_bitCount_0f7a4_0 : dkW cJ6_bitCount_0f7a4 0 [26, 26, 4, 124, 19, 1, 9, 126, 100, 59, 26, 19, 1, 10] = true := by decide +kernel
theorem dJ6_bitCount_0f7a4_0 : decode cJ6_bitCount_0f7a4 0 = .ok (.iload_n 0, 1) := dko_26 dwJ6_bitCount_0f7a4_0
theorem dJ6_bitCount_0f7a4_1 : decode cJ6_bitCount_0f7a4 1 = .ok (.iload_n 0, 1) := dko_26 (dk_t 1 1 [26, 4, 124, 19, 1, 9, 126, 100, 59, 26, 19, 1, 10] dwJ6_bitCount_0f7a4_0 rfl rfl)
theorem dJ6_bitCount_0f7a4_2 : decode cJ6_bitCount_0f7a4 2 = .ok (.iconst 1, 1) := dko_4 (dk_t 2 2 [4, 124, 19, 1, 9, 126, 100, 59, 26, 19, 1, 10] dwJ6_bitCount_0f7a4_0 rfl rfl)
theorem dJ6_bitCount_0f7a4_3 : decode cJ6_bitCount_0f7a4 3 = .ok (.iushr, 1) := dko_124 (dk_t 3 3 [124, 19, 1, 9, 126, 100, 59, 26, 19, 1, 10] dwJ6_bitCount_0f7a4_0 rfl rfl)
theorem dJ6_bitCount_0f7a4_4 : decode cJ6_bitCount_0f7a4 4 = .ok (.ldc_w 265, 3) := dko_19 (dk_t 4 4 [19, 1, 9, 126, 100, 59, 26, 19, 1, 10] dwJ6_bitCount_0f7a4_0 rfl rfl)
theorem dJ6_bitCount_0f7a4_7 : decode cJ6_bitCount_0f7a4 7 = .ok (.iand, 1) := dko_126 (dk_t 7 7 [126, 100, 59, 26, 19, 1, 10] dwJ6_bitCount_0f7a4_0 rfl rfl)
theorem dJ6_bitCount_0f7a4_8 : decode cJ6_bitCount_0f7a4 8 = .ok (.isub, 1) := dko_100 (dk_t 8 8 [100, 59, 26, 19, 1, 10] dwJ6_bitCount_0f7a4_0 rfl rfl)
theorem dJ6_bitCount_0f7a4_9 : decode cJ6_bitCount_0f7a4 9 = .ok (.istore_n 0, 1) := dko_59 (dk_t 9 9 [59, 26, 19, 1, 10] dwJ6_bitCount_0f7a4_0 rfl rfl)
theorem dJ6_bitCount_0f7a4_10 : decode cJ6_bitCount_0f7a4 10 = .ok (.iload_n 0, 1) := dko_26 (dk_t 10 10 [26, 19, 1, 10] dwJ6_bitCount_0f7a4_0 rfl rfl)
theorem dJ6_bitCount_0f7a4_11 : decode cJ6_bitCount_0f7a4 11 = .ok (.ldc_w 266, 3) := dko_19 (dk_t 11 11 [19, 1, 10] dwJ6_bitCount_0f7a4_0 rfl rfl)
theorem dwJ6_bitCount_0f7a4_14 : dkW cJ6_bitCount_0f7a4 14 [126, 26, 5, 124, 19, 1, 10, 126, 96, 59, 26, 26, 7, 124] = true := by decide +kernel
theorem dJ6_bitCount_0f7a4_14 : decode cJ6_bitCount_0f7a4 14 = .ok (.iand, 1) := dko_126 dwJ6_bitCount_0f7a4_14
theorem dJ6_bitCount_0f7a4_15 : decode cJ6_bitCount_0f7a4 15 = .ok (.iload_n 0, 1) := dko_26 (dk_t 1 15 [26, 5, 124, 19, 1, 10, 126, 96, 59, 26, 26, 7, 124] dwJ6_bitCount_0f7a4_14 rfl rfl)
theorem dJ6_bitCount_0f7a4_16 : decode cJ6_bitCount_0f7a4 16 = .ok (.iconst 2, 1) := dko_5 (dk_t 2 16 [5, 124, 19, 1, 10, 126, 96, 59, 26, 26, 7, 124] dwJ6_bitCount_0f7a4_14 rfl rfl)
theorem dJ6_bitCount_0f7a4_17 : decode cJ6_bitCount_0f7a4 17 = .ok (.iushr, 1) := dko_124 (dk_t 3 17 [124, 19, 1, 10, 126, 96, 59, 26, 26, 7, 124] dwJ6_bitCount_0f7a4_14 rfl rfl)
theorem dJ6_bitCount_0f7a4_18 : decode cJ6_bitCount_0f7a4 18 = .ok (.ldc_w 266, 3) := dko_19 (dk_t 4 18 [19, 1, 10, 126, 96, 59, 26, 26, 7, 124] dwJ6_bitCount_0f7a4_14 rfl rfl)
theorem dJ6_bitCount_0f7a4_21 : decode cJ6_bitCount_0f7a4 21 = .ok (.iand, 1) := dko_126 (dk_t 7 21 [126, 96, 59, 26, 26, 7, 124] dwJ6_bitCount_0f7a4_14 rfl rfl)
theorem dJ6_bitCount_0f7a4_22 : decode cJ6_bitCount_0f7a4 22 = .ok (.iadd, 1) := dko_96 (dk_t 8 22 [96, 59, 26, 26, 7, 124] dwJ6_bitCount_0f7a4_14 rfl rfl)
theorem dJ6_bitCount_0f7a4_23 : decode cJ6_bitCount_0f7a4 23 = .ok (.istore_n 0, 1) := dko_59 (dk_t 9 23 [59, 26, 26, 7, 124] dwJ6_bitCount_0f7a4_14 rfl rfl)
theorem dJ6_bitCount_0f7a4_24 : decode cJ6_bitCount_0f7a4 24 = .ok (.iload_n 0, 1) := dko_26 (dk_t 10 24 [26, 26, 7, 124] dwJ6_bitCount_0f7a4_14 rfl rfl)
theorem dJ6_bitCount_0f7a4_25 : decode cJ6_bitCount_0f7a4 25 = .ok (.iload_n 0, 1) := dko_26 (dk_t 11 25 [26, 7, 124] dwJ6_bitCount_0f7a4_14 rfl rfl)
theorem dJ6_bitCount_0f7a4_26 : decode cJ6_bitCount_0f7a4 26 = .ok (.iconst 4, 1) := dko_7 (dk_t 12 26 [7, 124] dwJ6_bitCount_0f7a4_14 rfl rfl)
theorem dJ6_bitCount_0f7a4_27 : decode cJ6_bitCount_0f7a4 27 = .ok (.iushr, 1) := dko_124 (dk_t 13 27 [124] dwJ6_bitCount_0f7a4_14 rfl rfl)
theorem dwJ6_bitCount_0f7a4_28 : dkW cJ6_bitCount_0f7a4 28 [96, 19, 1, 11, 126, 59, 26, 26, 16, 8, 124, 96, 59, 26] = true := by decide +kernel
theorem dJ6_bitCount_0f7a4_28 : decode cJ6_bitCount_0f7a4 28 = .ok (.iadd, 1) := dko_96 dwJ6_bitCount_0f7a4_28
theorem dJ6_bitCount_0f7a4_29 : decode cJ6_bitCount_0f7a4 29 = .ok (.ldc_w 267, 3) := dko_19 (dk_t 1 29 [19, 1, 11, 126, 59, 26, 26, 16, 8, 124, 96, 59, 26] dwJ6_bitCount_0f7a4_28 rfl rfl)
theorem dJ6_bitCount_0f7a4_32 : decode cJ6_bitCount_0f7a4 32 = .ok (.iand, 1) := dko_126 (dk_t 4 32 [126, 59, 26, 26, 16, 8, 124, 96, 59, 26] dwJ6_bitCount_0f7a4_28 rfl rfl)
theorem dJ6_bitCount_0f7a4_33 : decode cJ6_bitCount_0f7a4 33 = .ok (.istore_n 0, 1) := dko_59 (dk_t 5 33 [59, 26, 26, 16, 8, 124, 96, 59, 26] dwJ6_bitCount_0f7a4_28 rfl rfl)
theorem dJ6_bitCount_0f7a4_34 : decode cJ6_bitCount_0f7a4 34 = .ok (.iload_n 0, 1) := dko_26 (dk_t 6 34 [26, 26, 16, 8, 124, 96, 59, 26] dwJ6_bitCount_0f7a4_28 rfl rfl)
theorem dJ6_bitCount_0f7a4_35 : decode cJ6_bitCount_0f7a4 35 = .ok (.iload_n 0, 1) := dko_26 (dk_t 7 35 [26, 16, 8, 124, 96, 59, 26] dwJ6_bitCount_0f7a4_28 rfl rfl)
theorem dJ6_bitCount_0f7a4_36 : decode cJ6_bitCount_0f7a4 36 = .ok (.bipush 8, 2) := dko_16 (dk_t 8 36 [16, 8, 124, 96, 59, 26] dwJ6_bitCount_0f7a4_28 rfl rfl)
theorem dJ6_bitCount_0f7a4_38 : decode cJ6_bitCount_0f7a4 38 = .ok (.iushr, 1) := dko_124 (dk_t 10 38 [124, 96, 59, 26] dwJ6_bitCount_0f7a4_28 rfl rfl)
theorem dJ6_bitCount_0f7a4_39 : decode cJ6_bitCount_0f7a4 39 = .ok (.iadd, 1) := dko_96 (dk_t 11 39 [96, 59, 26] dwJ6_bitCount_0f7a4_28 rfl rfl)
theorem dJ6_bitCount_0f7a4_40 : decode cJ6_bitCount_0f7a4 40 = .ok (.istore_n 0, 1) := dko_59 (dk_t 12 40 [59, 26] dwJ6_bitCount_0f7a4_28 rfl rfl)
theorem dJ6_bitCount_0f7a4_41 : decode cJ6_bitCount_0f7a4 41 = .ok (.iload_n 0, 1) := dko_26 (dk_t 13 41 [26] dwJ6_bitCount_0f7a4_28 rfl rfl)
theorem dwJ6_bitCount_0f7a4_42 : dkW cJ6_bitCount_0f7a4 42 [26, 16, 16, 124, 96, 59, 26, 16, 63, 126, 172] = true := by decide +kernel
theorem dJ6_bitCount_0f7a4_42 : decode cJ6_bitCount_0f7a4 42 = .ok (.iload_n 0, 1) := dko_26 dwJ6_bitCount_0f7a4_42
theorem dJ6_bitCount_0f7a4_43 : decode cJ6_bitCount_0f7a4 43 = .ok (.bipush 16, 2) := dko_16 (dk_t 1 43 [16, 16, 124, 96, 59, 26, 16, 63, 126, 172] dwJ6_bitCount_0f7a4_42 rfl rfl)
theorem dJ6_bitCount_0f7a4_45 : decode cJ6_bitCount_0f7a4 45 = .ok (.iushr, 1) := dko_124 (dk_t 3 45 [124, 96, 59, 26, 16, 63, 126, 172] dwJ6_bitCount_0f7a4_42 rfl rfl)
theorem dJ6_bitCount_0f7a4_46 : decode cJ6_bitCount_0f7a4 46 = .ok (.iadd, 1) := dko_96 (dk_t 4 46 [96, 59, 26, 16, 63, 126, 172] dwJ6_bitCount_0f7a4_42 rfl rfl)
theorem dJ6_bitCount_0f7a4_47 : decode cJ6_bitCount_0f7a4 47 = .ok (.istore_n 0, 1) := dko_59 (dk_t 5 47 [59, 26, 16, 63, 126, 172] dwJ6_bitCount_0f7a4_42 rfl rfl)
theorem dJ6_bitCount_0f7a4_48 : decode cJ6_bitCount_0f7a4 48 = .ok (.iload_n 0, 1) := dko_26 (dk_t 6 48 [26, 16, 63, 126, 172] dwJ6_bitCount_0f7a4_42 rfl rfl)
theorem dJ6_bitCount_0f7a4_49 : decode cJ6_bitCount_0f7a4 49 = .ok (.bipush 63, 2) := dko_16 (dk_t 7 49 [16, 63, 126, 172] dwJ6_bitCount_0f7a4_42 rfl rfl)
theorem dJ6_bitCount_0f7a4_51 : decode cJ6_bitCount_0f7a4 51 = .ok (.iand, 1) := dko_126 (dk_t 9 51 [126, 172] dwJ6_bitCount_0f7a4_42 rfl rfl)
theorem dJ6_bitCount_0f7a4_52 : decode cJ6_bitCount_0f7a4 52 = .ok (.ireturn, 1) := dko_172 (dk_t 10 52 [172] dwJ6_bitCount_0f7a4_42 rfl rfl)
theorem dwJ9_max_7cf53_0 : dkW cJ9_max_7cf53 0 [26, 27, 161, 0, 7, 26, 167, 0, 4, 27, 172] = true := by decide +kernel
theorem dJ9_max_7cf53_0 : decode cJ9_max_7cf53 0 = .ok (.iload_n 0, 1) := dko_26 dwJ9_max_7cf53_0
theorem dJ9_max_7cf53_1 : decode cJ9_max_7cf53 1 = .ok (.iload_n 1, 1) := dko_27 (dk_t 1 1 [27, 161, 0, 7, 26, 167, 0, 4, 27, 172] dwJ9_max_7cf53_0 rfl rfl)
theorem dJ9_max_7cf53_2 : decode cJ9_max_7cf53 2 = .ok (.if_icmp .lt 7, 3) := dko_161 (dk_t 2 2 [161, 0, 7, 26, 167, 0, 4, 27, 172] dwJ9_max_7cf53_0 rfl rfl)
theorem dJ9_max_7cf53_5 : decode cJ9_max_7cf53 5 = .ok (.iload_n 0, 1) := dko_26 (dk_t 5 5 [26, 167, 0, 4, 27, 172] dwJ9_max_7cf53_0 rfl rfl)
theorem dJ9_max_7cf53_6 : decode cJ9_max_7cf53 6 = .ok (.goto 4, 3) := dko_167 (dk_t 6 6 [167, 0, 4, 27, 172] dwJ9_max_7cf53_0 rfl rfl)
theorem dJ9_max_7cf53_9 : decode cJ9_max_7cf53 9 = .ok (.iload_n 1, 1) := dko_27 (dk_t 9 9 [27, 172] dwJ9_max_7cf53_0 rfl rfl)
theorem dJ9_max_7cf53_10 : decode cJ9_max_7cf53 10 = .ok (.ireturn, 1) := dko_172 (dk_t 10 10 [172] dwJ9_max_7cf53_0 rfl rfl)
theorem dwJ9_min_7cf53_0 : dkW cJ9_min_7cf53 0 [26, 27, 163, 0, 7, 26, 167, 0, 4, 27, 172] = true := by decide +kernel
theorem dJ9_min_7cf53_0 : decode cJ9_min_7cf53 0 = .ok (.iload_n 0, 1) := dko_26 dwJ9_min_7cf53_0
theorem dJ9_min_7cf53_1 : decode cJ9_min_7cf53 1 = .ok (.iload_n 1, 1) := dko_27 (dk_t 1 1 [27, 163, 0, 7, 26, 167, 0, 4, 27, 172] dwJ9_min_7cf53_0 rfl rfl)
theorem dJ9_min_7cf53_2 : decode cJ9_min_7cf53 2 = .ok (.if_icmp .gt 7, 3) := dko_163 (dk_t 2 2 [163, 0, 7, 26, 167, 0, 4, 27, 172] dwJ9_min_7cf53_0 rfl rfl)
theorem dJ9_min_7cf53_5 : decode cJ9_min_7cf53 5 = .ok (.iload_n 0, 1) := dko_26 (dk_t 5 5 [26, 167, 0, 4, 27, 172] dwJ9_min_7cf53_0 rfl rfl)
theorem dJ9_min_7cf53_6 : decode cJ9_min_7cf53 6 = .ok (.goto 4, 3) := dko_167 (dk_t 6 6 [167, 0, 4, 27, 172] dwJ9_min_7cf53_0 rfl rfl)
theorem dJ9_min_7cf53_9 : decode cJ9_min_7cf53 9 = .ok (.iload_n 1, 1) := dko_27 (dk_t 9 9 [27, 172] dwJ9_min_7cf53_0 rfl rfl)
theorem dJ9_min_7cf53_10 : decode cJ9_min_7cf53 10 = .ok (.ireturn, 1) := dko_172 (dk_t 10 10 [172] dwJ9_min_7cf53_0 rfl rfl)
theorem dwJ0_length_8abf5_0 : dkW cJ0_length_8abf5 0 [42, 180, 0, 9, 190, 42, 182, 1, 79, 122, 172] = true := by decide +kernel
theorem dJ0_length_8abf5_0 : decode cJ0_length_8abf5 0 = .ok (.aload_n 0, 1) := dko_42 dwJ0_length_8abf5_0
theorem dJ0_length_8abf5_1 : decode cJ0_length_8abf5 1 = .ok (.getfield 9, 3) := dko_180 (dk_t 1 1 [180, 0, 9, 190, 42, 182, 1, 79, 122, 172] dwJ0_length_8abf5_0 rfl rfl)
theorem dJ0_length_8abf5_4 : decode cJ0_length_8abf5 4 = .ok (.arraylength, 1) := dko_190 (dk_t 4 4 [190, 42, 182, 1, 79, 122, 172] dwJ0_length_8abf5_0 rfl rfl)
theorem dJ0_length_8abf5_5 : decode cJ0_length_8abf5 5 = .ok (.aload_n 0, 1) := dko_42 (dk_t 5 5 [42, 182, 1, 79, 122, 172] dwJ0_length_8abf5_0 rfl rfl)
theorem dJ0_length_8abf5_6 : decode cJ0_length_8abf5 6 = .ok (.invokevirtual 335, 3) := dko_182 (dk_t 6 6 [182, 1, 79, 122, 172] dwJ0_length_8abf5_0 rfl rfl)
theorem dJ0_length_8abf5_9 : decode cJ0_length_8abf5 9 = .ok (.ishr, 1) := dko_122 (dk_t 9 9 [122, 172] dwJ0_length_8abf5_0 rfl rfl)
theorem dJ0_length_8abf5_10 : decode cJ0_length_8abf5 10 = .ok (.ireturn, 1) := dko_172 (dk_t 10 10 [172] dwJ0_length_8abf5_0 rfl rfl)
theorem dwJ0_charAt_5068e_0 : dkW cJ0_charAt_5068e 0 [42, 182, 1, 236, 153, 0, 12, 42, 180, 0, 9, 27] = true := by decide +kernel
theorem dJ0_charAt_5068e_0 : decode cJ0_charAt_5068e 0 = .ok (.aload_n 0, 1) := dko_42 dwJ0_charAt_5068e_0
theorem dJ0_charAt_5068e_1 : decode cJ0_charAt_5068e 1 = .ok (.invokevirtual 492, 3) := dko_182 (dk_t 1 1 [182, 1, 236, 153, 0, 12, 42, 180, 0, 9, 27] dwJ0_charAt_5068e_0 rfl rfl)
theorem dJ0_charAt_5068e_4 : decode cJ0_charAt_5068e 4 = .ok (.ifCond .eq 12, 3) := dko_153 (dk_t 4 4 [153, 0, 12, 42, 180, 0, 9, 27] dwJ0_charAt_5068e_0 rfl rfl)
theorem dJ0_charAt_5068e_7 : decode cJ0_charAt_5068e 7 = .ok (.aload_n 0, 1) := dko_42 (dk_t 7 7 [42, 180, 0, 9, 27] dwJ0_charAt_5068e_0 rfl rfl)
theorem dJ0_charAt_5068e_8 : decode cJ0_charAt_5068e 8 = .ok (.getfield 9, 3) := dko_180 (dk_t 8 8 [180, 0, 9, 27] dwJ0_charAt_5068e_0 rfl rfl)
theorem dJ0_charAt_5068e_11 : decode cJ0_charAt_5068e 11 = .ok (.iload_n 1, 1) := dko_27 (dk_t 11 11 [27] dwJ0_charAt_5068e_0 rfl rfl)
theorem dwJ0_charAt_5068e_12 : dkW cJ0_charAt_5068e 12 [184, 1, 239, 172, 42, 180, 0, 9, 27, 184, 1, 242, 172] = true := by decide +kernel
theorem dJ0_charAt_5068e_12 : decode cJ0_charAt_5068e 12 = .ok (.invokestatic 495, 3) := dko_184 dwJ0_charAt_5068e_12
theorem dJ0_charAt_5068e_15 : decode cJ0_charAt_5068e 15 = .ok (.ireturn, 1) := dko_172 (dk_t 3 15 [172, 42, 180, 0, 9, 27, 184, 1, 242, 172] dwJ0_charAt_5068e_12 rfl rfl)
theorem dJ0_charAt_5068e_16 : decode cJ0_charAt_5068e 16 = .ok (.aload_n 0, 1) := dko_42 (dk_t 4 16 [42, 180, 0, 9, 27, 184, 1, 242, 172] dwJ0_charAt_5068e_12 rfl rfl)
theorem dJ0_charAt_5068e_17 : decode cJ0_charAt_5068e 17 = .ok (.getfield 9, 3) := dko_180 (dk_t 5 17 [180, 0, 9, 27, 184, 1, 242, 172] dwJ0_charAt_5068e_12 rfl rfl)
theorem dJ0_charAt_5068e_20 : decode cJ0_charAt_5068e 20 = .ok (.iload_n 1, 1) := dko_27 (dk_t 8 20 [27, 184, 1, 242, 172] dwJ0_charAt_5068e_12 rfl rfl)
theorem dJ0_charAt_5068e_21 : decode cJ0_charAt_5068e 21 = .ok (.invokestatic 498, 3) := dko_184 (dk_t 9 21 [184, 1, 242, 172] dwJ0_charAt_5068e_12 rfl rfl)
theorem dJ0_charAt_5068e_24 : decode cJ0_charAt_5068e 24 = .ok (.ireturn, 1) := dko_172 (dk_t 12 24 [172] dwJ0_charAt_5068e_12 rfl rfl)
theorem dwJ0_getBytes_840e7_0 : dkW cJ0_getBytes_840e7 0 [42, 182, 1, 79, 29, 160, 0, 23, 42, 180, 0, 9, 3, 43] = true := by decide +kernel
theorem dJ0_getBytes_840e7_0 : decode cJ0_getBytes_840e7 0 = .ok (.aload_n 0, 1) := dko_42 dwJ0_getBytes_840e7_0
theorem dJ0_getBytes_840e7_1 : decode cJ0_getBytes_840e7 1 = .ok (.invokevirtual 335, 3) := dko_182 (dk_t 1 1 [182, 1, 79, 29, 160, 0, 23, 42, 180, 0, 9, 3, 43] dwJ0_getBytes_840e7_0 rfl rfl)
theorem dJ0_getBytes_840e7_4 : decode cJ0_getBytes_840e7 4 = .ok (.iload_n 3, 1) := dko_29 (dk_t 4 4 [29, 160, 0, 23, 42, 180, 0, 9, 3, 43] dwJ0_getBytes_840e7_0 rfl rfl)
theorem dJ0_getBytes_840e7_5 : decode cJ0_getBytes_840e7 5 = .ok (.if_icmp .ne 23, 3) := dko_160 (dk_t 5 5 [160, 0, 23, 42, 180, 0, 9, 3, 43] dwJ0_getBytes_840e7_0 rfl rfl)
theorem dJ0_getBytes_840e7_8 : decode cJ0_getBytes_840e7 8 = .ok (.aload_n 0, 1) := dko_42 (dk_t 8 8 [42, 180, 0, 9, 3, 43] dwJ0_getBytes_840e7_0 rfl rfl)
theorem dJ0_getBytes_840e7_9 : decode cJ0_getBytes_840e7 9 = .ok (.getfield 9, 3) := dko_180 (dk_t 9 9 [180, 0, 9, 3, 43] dwJ0_getBytes_840e7_0 rfl rfl)
theorem dJ0_getBytes_840e7_12 : decode cJ0_getBytes_840e7 12 = .ok (.iconst 0, 1) := dko_3 (dk_t 12 12 [3, 43] dwJ0_getBytes_840e7_0 rfl rfl)
theorem dJ0_getBytes_840e7_13 : decode cJ0_getBytes_840e7 13 = .ok (.aload_n 1, 1) := dko_43 (dk_t 13 13 [43] dwJ0_getBytes_840e7_0 rfl rfl)
theorem dwJ0_getBytes_840e7_14 : dkW cJ0_getBytes_840e7 14 [28, 29, 120, 42, 180, 0, 9, 190, 184, 0, 212, 167, 0, 18] = true := by decide +kernel
theorem dJ0_getBytes_840e7_14 : decode cJ0_getBytes_840e7 14 = .ok (.iload_n 2, 1) := dko_28 dwJ0_getBytes_840e7_14
theorem dJ0_getBytes_840e7_15 : decode cJ0_getBytes_840e7 15 = .ok (.iload_n 3, 1) := dko_29 (dk_t 1 15 [29, 120, 42, 180, 0, 9, 190, 184, 0, 212, 167, 0, 18] dwJ0_getBytes_840e7_14 rfl rfl)
theorem dJ0_getBytes_840e7_16 : decode cJ0_getBytes_840e7 16 = .ok (.ishl, 1) := dko_120 (dk_t 2 16 [120, 42, 180, 0, 9, 190, 184, 0, 212, 167, 0, 18] dwJ0_getBytes_840e7_14 rfl rfl)
theorem dJ0_getBytes_840e7_17 : decode cJ0_getBytes_840e7 17 = .ok (.aload_n 0, 1) := dko_42 (dk_t 3 17 [42, 180, 0, 9, 190, 184, 0, 212, 167, 0, 18] dwJ0_getBytes_840e7_14 rfl rfl)
theorem dJ0_getBytes_840e7_18 : decode cJ0_getBytes_840e7 18 = .ok (.getfield 9, 3) := dko_180 (dk_t 4 18 [180, 0, 9, 190, 184, 0, 212, 167, 0, 18] dwJ0_getBytes_840e7_14 rfl rfl)
theorem dJ0_getBytes_840e7_21 : decode cJ0_getBytes_840e7 21 = .ok (.arraylength, 1) := dko_190 (dk_t 7 21 [190, 184, 0, 212, 167, 0, 18] dwJ0_getBytes_840e7_14 rfl rfl)
theorem dJ0_getBytes_840e7_22 : decode cJ0_getBytes_840e7 22 = .ok (.invokestatic 212, 3) := dko_184 (dk_t 8 22 [184, 0, 212, 167, 0, 18] dwJ0_getBytes_840e7_14 rfl rfl)
theorem dJ0_getBytes_840e7_25 : decode cJ0_getBytes_840e7 25 = .ok (.goto 18, 3) := dko_167 (dk_t 11 25 [167, 0, 18] dwJ0_getBytes_840e7_14 rfl rfl)
theorem dwJ0_getBytes_840e7_28 : dkW cJ0_getBytes_840e7 28 [42, 180, 0, 9, 3, 43, 28, 42, 180, 0, 9, 190] = true := by decide +kernel
theorem dJ0_getBytes_840e7_28 : decode cJ0_getBytes_840e7 28 = .ok (.aload_n 0, 1) := dko_42 dwJ0_getBytes_840e7_28
theorem dJ0_getBytes_840e7_29 : decode cJ0_getBytes_840e7 29 = .ok (.getfield 9, 3) := dko_180 (dk_t 1 29 [180, 0, 9, 3, 43, 28, 42, 180, 0, 9, 190] dwJ0_getBytes_840e7_28 rfl rfl)
theorem dJ0_getBytes_840e7_32 : decode cJ0_getBytes_840e7 32 = .ok (.iconst 0, 1) := dko_3 (dk_t 4 32 [3, 43, 28, 42, 180, 0, 9, 190] dwJ0_getBytes_840e7_28 rfl rfl)
theorem dJ0_getBytes_840e7_33 : decode cJ0_getBytes_840e7 33 = .ok (.aload_n 1, 1) := dko_43 (dk_t 5 33 [43, 28, 42, 180, 0, 9, 190] dwJ0_getBytes_840e7_28 rfl rfl)
theorem dJ0_getBytes_840e7_34 : decode cJ0_getBytes_840e7 34 = .ok (.iload_n 2, 1) := dko_28 (dk_t 6 34 [28, 42, 180, 0, 9, 190] dwJ0_getBytes_840e7_28 rfl rfl)
theorem dJ0_getBytes_840e7_35 : decode cJ0_getBytes_840e7 35 = .ok (.aload_n 0, 1) := dko_42 (dk_t 7 35 [42, 180, 0, 9, 190] dwJ0_getBytes_840e7_28 rfl rfl)
theorem dJ0_getBytes_840e7_36 : decode cJ0_getBytes_840e7 36 = .ok (.getfield 9, 3) := dko_180 (dk_t 8 36 [180, 0, 9, 190] dwJ0_getBytes_840e7_28 rfl rfl)
theorem dJ0_getBytes_840e7_39 : decode cJ0_getBytes_840e7 39 = .ok (.arraylength, 1) := dko_190 (dk_t 11 39 [190] dwJ0_getBytes_840e7_28 rfl rfl)
theorem dwJ0_getBytes_840e7_40 : dkW cJ0_getBytes_840e7 40 [184, 0, 106, 177] = true := by decide +kernel
theorem dJ0_getBytes_840e7_40 : decode cJ0_getBytes_840e7 40 = .ok (.invokestatic 106, 3) := dko_184 dwJ0_getBytes_840e7_40
theorem dJ0_getBytes_840e7_43 : decode cJ0_getBytes_840e7 43 = .ok (.return_, 1) := dko_177 (dk_t 3 43 [177] dwJ0_getBytes_840e7_40 rfl rfl)
theorem dwJ0_coder_7d493_0 : dkW cJ0_coder_7d493 0 [178, 0, 38, 153, 0, 10, 42, 180, 0, 15, 167, 0, 4, 4] = true := by decide +kernel
theorem dJ0_coder_7d493_0 : decode cJ0_coder_7d493 0 = .ok (.getstatic 38, 3) := dko_178 dwJ0_coder_7d493_0
theorem dJ0_coder_7d493_3 : decode cJ0_coder_7d493 3 = .ok (.ifCond .eq 10, 3) := dko_153 (dk_t 3 3 [153, 0, 10, 42, 180, 0, 15, 167, 0, 4, 4] dwJ0_coder_7d493_0 rfl rfl)
theorem dJ0_coder_7d493_6 : decode cJ0_coder_7d493 6 = .ok (.aload_n 0, 1) := dko_42 (dk_t 6 6 [42, 180, 0, 15, 167, 0, 4, 4] dwJ0_coder_7d493_0 rfl rfl)
theorem dJ0_coder_7d493_7 : decode cJ0_coder_7d493 7 = .ok (.getfield 15, 3) := dko_180 (dk_t 7 7 [180, 0, 15, 167, 0, 4, 4] dwJ0_coder_7d493_0 rfl rfl)
theorem dJ0_coder_7d493_10 : decode cJ0_coder_7d493 10 = .ok (.goto 4, 3) := dko_167 (dk_t 10 10 [167, 0, 4, 4] dwJ0_coder_7d493_0 rfl rfl)
theorem dJ0_coder_7d493_13 : decode cJ0_coder_7d493 13 = .ok (.iconst 1, 1) := dko_4 (dk_t 13 13 [4] dwJ0_coder_7d493_0 rfl rfl)
theorem dwJ0_coder_7d493_14 : dkW cJ0_coder_7d493 14 [172] = true := by decide +kernel
theorem dJ0_coder_7d493_14 : decode cJ0_coder_7d493 14 = .ok (.ireturn, 1) := dko_172 dwJ0_coder_7d493_14
theorem dwJ0_isLatin1_aae02_0 : dkW cJ0_isLatin1_aae02 0 [178, 0, 38, 153, 0, 14, 42, 180, 0, 15, 154, 0, 7, 4] = true := by decide +kernel
theorem dJ0_isLatin1_aae02_0 : decode cJ0_isLatin1_aae02 0 = .ok (.getstatic 38, 3) := dko_178 dwJ0_isLatin1_aae02_0
theorem dJ0_isLatin1_aae02_3 : decode cJ0_isLatin1_aae02 3 = .ok (.ifCond .eq 14, 3) := dko_153 (dk_t 3 3 [153, 0, 14, 42, 180, 0, 15, 154, 0, 7, 4] dwJ0_isLatin1_aae02_0 rfl rfl)
theorem dJ0_isLatin1_aae02_6 : decode cJ0_isLatin1_aae02 6 = .ok (.aload_n 0, 1) := dko_42 (dk_t 6 6 [42, 180, 0, 15, 154, 0, 7, 4] dwJ0_isLatin1_aae02_0 rfl rfl)
theorem dJ0_isLatin1_aae02_7 : decode cJ0_isLatin1_aae02 7 = .ok (.getfield 15, 3) := dko_180 (dk_t 7 7 [180, 0, 15, 154, 0, 7, 4] dwJ0_isLatin1_aae02_0 rfl rfl)
theorem dJ0_isLatin1_aae02_10 : decode cJ0_isLatin1_aae02 10 = .ok (.ifCond .ne 7, 3) := dko_154 (dk_t 10 10 [154, 0, 7, 4] dwJ0_isLatin1_aae02_0 rfl rfl)
theorem dJ0_isLatin1_aae02_13 : decode cJ0_isLatin1_aae02 13 = .ok (.iconst 1, 1) := dko_4 (dk_t 13 13 [4] dwJ0_isLatin1_aae02_0 rfl rfl)
theorem dwJ0_isLatin1_aae02_14 : dkW cJ0_isLatin1_aae02 14 [167, 0, 4, 3, 172] = true := by decide +kernel
theorem dJ0_isLatin1_aae02_14 : decode cJ0_isLatin1_aae02 14 = .ok (.goto 4, 3) := dko_167 dwJ0_isLatin1_aae02_14
theorem dJ0_isLatin1_aae02_17 : decode cJ0_isLatin1_aae02 17 = .ok (.iconst 0, 1) := dko_3 (dk_t 3 17 [3, 172] dwJ0_isLatin1_aae02_14 rfl rfl)
theorem dJ0_isLatin1_aae02_18 : decode cJ0_isLatin1_aae02 18 = .ok (.ireturn, 1) := dko_172 (dk_t 4 18 [172] dwJ0_isLatin1_aae02_14 rfl rfl)
theorem dwJ0_checkIndex_df160_0 : dkW cJ0_checkIndex_df160 0 [26, 27, 178, 4, 29, 184, 4, 35, 87, 177] = true := by decide +kernel
theorem dJ0_checkIndex_df160_0 : decode cJ0_checkIndex_df160 0 = .ok (.iload_n 0, 1) := dko_26 dwJ0_checkIndex_df160_0
theorem dJ0_checkIndex_df160_1 : decode cJ0_checkIndex_df160 1 = .ok (.iload_n 1, 1) := dko_27 (dk_t 1 1 [27, 178, 4, 29, 184, 4, 35, 87, 177] dwJ0_checkIndex_df160_0 rfl rfl)
theorem dJ0_checkIndex_df160_2 : decode cJ0_checkIndex_df160 2 = .ok (.getstatic 1053, 3) := dko_178 (dk_t 2 2 [178, 4, 29, 184, 4, 35, 87, 177] dwJ0_checkIndex_df160_0 rfl rfl)
theorem dJ0_checkIndex_df160_5 : decode cJ0_checkIndex_df160 5 = .ok (.invokestatic 1059, 3) := dko_184 (dk_t 5 5 [184, 4, 35, 87, 177] dwJ0_checkIndex_df160_0 rfl rfl)
theorem dJ0_checkIndex_df160_8 : decode cJ0_checkIndex_df160 8 = .ok (.pop, 1) := dko_87 (dk_t 8 8 [87, 177] dwJ0_checkIndex_df160_0 rfl rfl)
theorem dJ0_checkIndex_df160_9 : decode cJ0_checkIndex_df160 9 = .ok (.return_, 1) := dko_177 (dk_t 9 9 [177] dwJ0_checkIndex_df160_0 rfl rfl)
theorem dwJ0_checkBoundsOffCount_cabcc_0 : dkW cJ0_checkBoundsOffCount_cabcc 0 [26, 27, 28, 178, 4, 29, 184, 4, 41, 172] = true := by decide +kernel
theorem dJ0_checkBoundsOffCount_cabcc_0 : decode cJ0_checkBoundsOffCount_cabcc 0 = .ok (.iload_n 0, 1) := dko_26 dwJ0_checkBoundsOffCount_cabcc_0
theorem dJ0_checkBoundsOffCount_cabcc_1 : decode cJ0_checkBoundsOffCount_cabcc 1 = .ok (.iload_n 1, 1) := dko_27 (dk_t 1 1 [27, 28, 178, 4, 29, 184, 4, 41, 172] dwJ0_checkBoundsOffCount_cabcc_0 rfl rfl)
theorem dJ0_checkBoundsOffCount_cabcc_2 : decode cJ0_checkBoundsOffCount_cabcc 2 = .ok (.iload_n 2, 1) := dko_28 (dk_t 2 2 [28, 178, 4, 29, 184, 4, 41, 172] dwJ0_checkBoundsOffCount_cabcc_0 rfl rfl)
theorem dJ0_checkBoundsOffCount_cabcc_3 : decode cJ0_checkBoundsOffCount_cabcc 3 = .ok (.getstatic 1053, 3) := dko_178 (dk_t 3 3 [178, 4, 29, 184, 4, 41, 172] dwJ0_checkBoundsOffCount_cabcc_0 rfl rfl)
theorem dJ0_checkBoundsOffCount_cabcc_6 : decode cJ0_checkBoundsOffCount_cabcc 6 = .ok (.invokestatic 1065, 3) := dko_184 (dk_t 6 6 [184, 4, 41, 172] dwJ0_checkBoundsOffCount_cabcc_0 rfl rfl)
theorem dJ0_checkBoundsOffCount_cabcc_9 : decode cJ0_checkBoundsOffCount_cabcc 9 = .ok (.ireturn, 1) := dko_172 (dk_t 9 9 [172] dwJ0_checkBoundsOffCount_cabcc_0 rfl rfl)
theorem dwJ0_checkBoundsBeginEnd_23922_0 : dkW cJ0_checkBoundsBeginEnd_23922 0 [26, 27, 28, 178, 4, 29, 184, 4, 38, 87, 177] = true := by decide +kernel
theorem dJ0_checkBoundsBeginEnd_23922_0 : decode cJ0_checkBoundsBeginEnd_23922 0 = .ok (.iload_n 0, 1) := dko_26 dwJ0_checkBoundsBeginEnd_23922_0
theorem dJ0_checkBoundsBeginEnd_23922_1 : decode cJ0_checkBoundsBeginEnd_23922 1 = .ok (.iload_n 1, 1) := dko_27 (dk_t 1 1 [27, 28, 178, 4, 29, 184, 4, 38, 87, 177] dwJ0_checkBoundsBeginEnd_23922_0 rfl rfl)
theorem dJ0_checkBoundsBeginEnd_23922_2 : decode cJ0_checkBoundsBeginEnd_23922 2 = .ok (.iload_n 2, 1) := dko_28 (dk_t 2 2 [28, 178, 4, 29, 184, 4, 38, 87, 177] dwJ0_checkBoundsBeginEnd_23922_0 rfl rfl)
theorem dJ0_checkBoundsBeginEnd_23922_3 : decode cJ0_checkBoundsBeginEnd_23922 3 = .ok (.getstatic 1053, 3) := dko_178 (dk_t 3 3 [178, 4, 29, 184, 4, 38, 87, 177] dwJ0_checkBoundsBeginEnd_23922_0 rfl rfl)
theorem dJ0_checkBoundsBeginEnd_23922_6 : decode cJ0_checkBoundsBeginEnd_23922 6 = .ok (.invokestatic 1062, 3) := dko_184 (dk_t 6 6 [184, 4, 38, 87, 177] dwJ0_checkBoundsBeginEnd_23922_0 rfl rfl)
theorem dJ0_checkBoundsBeginEnd_23922_9 : decode cJ0_checkBoundsBeginEnd_23922 9 = .ok (.pop, 1) := dko_87 (dk_t 9 9 [87, 177] dwJ0_checkBoundsBeginEnd_23922_0 rfl rfl)
theorem dJ0_checkBoundsBeginEnd_23922_10 : decode cJ0_checkBoundsBeginEnd_23922 10 = .ok (.return_, 1) := dko_177 (dk_t 10 10 [177] dwJ0_checkBoundsBeginEnd_23922_0 rfl rfl)
theorem dwJ4_init_da8c8_0 : dkW cJ4_init_da8c8 0 [42, 16, 16, 183, 0, 1, 177] = true := by decide +kernel
theorem dJ4_init_da8c8_0 : decode cJ4_init_da8c8 0 = .ok (.aload_n 0, 1) := dko_42 dwJ4_init_da8c8_0
theorem dJ4_init_da8c8_1 : decode cJ4_init_da8c8 1 = .ok (.bipush 16, 2) := dko_16 (dk_t 1 1 [16, 16, 183, 0, 1, 177] dwJ4_init_da8c8_0 rfl rfl)
theorem dJ4_init_da8c8_3 : decode cJ4_init_da8c8 3 = .ok (.invokespecial 1, 3) := dko_183 (dk_t 3 3 [183, 0, 1, 177] dwJ4_init_da8c8_0 rfl rfl)
theorem dJ4_init_da8c8_6 : decode cJ4_init_da8c8 6 = .ok (.return_, 1) := dko_177 (dk_t 6 6 [177] dwJ4_init_da8c8_0 rfl rfl)
theorem dwJ4_append_15ec4_0 : dkW cJ4_append_15ec4 0 [42, 43, 183, 0, 29, 87, 42, 176] = true := by decide +kernel
theorem dJ4_append_15ec4_0 : decode cJ4_append_15ec4 0 = .ok (.aload_n 0, 1) := dko_42 dwJ4_append_15ec4_0
theorem dJ4_append_15ec4_1 : decode cJ4_append_15ec4 1 = .ok (.aload_n 1, 1) := dko_43 (dk_t 1 1 [43, 183, 0, 29, 87, 42, 176] dwJ4_append_15ec4_0 rfl rfl)
theorem dJ4_append_15ec4_2 : decode cJ4_append_15ec4 2 = .ok (.invokespecial 29, 3) := dko_183 (dk_t 2 2 [183, 0, 29, 87, 42, 176] dwJ4_append_15ec4_0 rfl rfl)
theorem dJ4_append_15ec4_5 : decode cJ4_append_15ec4 5 = .ok (.pop, 1) := dko_87 (dk_t 5 5 [87, 42, 176] dwJ4_append_15ec4_0 rfl rfl)
theorem dJ4_append_15ec4_6 : decode cJ4_append_15ec4 6 = .ok (.aload_n 0, 1) := dko_42 (dk_t 6 6 [42, 176] dwJ4_append_15ec4_0 rfl rfl)
theorem dJ4_append_15ec4_7 : decode cJ4_append_15ec4 7 = .ok (.areturn, 1) := dko_176 (dk_t 7 7 [176] dwJ4_append_15ec4_0 rfl rfl)
theorem dwJ4_append_cf468_0 : dkW cJ4_append_cf468 0 [42, 27, 183, 0, 50, 87, 42, 176] = true := by decide +kernel
theorem dJ4_append_cf468_0 : decode cJ4_append_cf468 0 = .ok (.aload_n 0, 1) := dko_42 dwJ4_append_cf468_0
theorem dJ4_append_cf468_1 : decode cJ4_append_cf468 1 = .ok (.iload_n 1, 1) := dko_27 (dk_t 1 1 [27, 183, 0, 50, 87, 42, 176] dwJ4_append_cf468_0 rfl rfl)
theorem dJ4_append_cf468_2 : decode cJ4_append_cf468 2 = .ok (.invokespecial 50, 3) := dko_183 (dk_t 2 2 [183, 0, 50, 87, 42, 176] dwJ4_append_cf468_0 rfl rfl)
theorem dJ4_append_cf468_5 : decode cJ4_append_cf468 5 = .ok (.pop, 1) := dko_87 (dk_t 5 5 [87, 42, 176] dwJ4_append_cf468_0 rfl rfl)
theorem dJ4_append_cf468_6 : decode cJ4_append_cf468 6 = .ok (.aload_n 0, 1) := dko_42 (dk_t 6 6 [42, 176] dwJ4_append_cf468_0 rfl rfl)
theorem dJ4_append_cf468_7 : decode cJ4_append_cf468 7 = .ok (.areturn, 1) := dko_176 (dk_t 7 7 [176] dwJ4_append_cf468_0 rfl rfl)
theorem dwJ4_append_bf812_0 : dkW cJ4_append_bf812 0 [42, 27, 183, 0, 53, 87, 42, 176] = true := by decide +kernel
theorem dJ4_append_bf812_0 : decode cJ4_append_bf812 0 = .ok (.aload_n 0, 1) := dko_42 dwJ4_append_bf812_0
theorem dJ4_append_bf812_1 : decode cJ4_append_bf812 1 = .ok (.iload_n 1, 1) := dko_27 (dk_t 1 1 [27, 183, 0, 53, 87, 42, 176] dwJ4_append_bf812_0 rfl rfl)
theorem dJ4_append_bf812_2 : decode cJ4_append_bf812 2 = .ok (.invokespecial 53, 3) := dko_183 (dk_t 2 2 [183, 0, 53, 87, 42, 176] dwJ4_append_bf812_0 rfl rfl)
theorem dJ4_append_bf812_5 : decode cJ4_append_bf812 5 = .ok (.pop, 1) := dko_87 (dk_t 5 5 [87, 42, 176] dwJ4_append_bf812_0 rfl rfl)
theorem dJ4_append_bf812_6 : decode cJ4_append_bf812 6 = .ok (.aload_n 0, 1) := dko_42 (dk_t 6 6 [42, 176] dwJ4_append_bf812_0 rfl rfl)
theorem dJ4_append_bf812_7 : decode cJ4_append_bf812 7 = .ok (.areturn, 1) := dko_176 (dk_t 7 7 [176] dwJ4_append_bf812_0 rfl rfl)
theorem dwJ4_charAt_5068e_0 : dkW cJ4_charAt_5068e 0 [42, 27, 183, 1, 73, 172] = true := by decide +kernel
theorem dJ4_charAt_5068e_0 : decode cJ4_charAt_5068e 0 = .ok (.aload_n 0, 1) := dko_42 dwJ4_charAt_5068e_0
theorem dJ4_charAt_5068e_1 : decode cJ4_charAt_5068e 1 = .ok (.iload_n 1, 1) := dko_27 (dk_t 1 1 [27, 183, 1, 73, 172] dwJ4_charAt_5068e_0 rfl rfl)
theorem dJ4_charAt_5068e_2 : decode cJ4_charAt_5068e 2 = .ok (.invokespecial 329, 3) := dko_183 (dk_t 2 2 [183, 1, 73, 172] dwJ4_charAt_5068e_0 rfl rfl)
theorem dJ4_charAt_5068e_5 : decode cJ4_charAt_5068e 5 = .ok (.ireturn, 1) := dko_172 (dk_t 5 5 [172] dwJ4_charAt_5068e_0 rfl rfl)
theorem dwJ4_setLength_d00df_0 : dkW cJ4_setLength_d00df 0 [42, 27, 183, 1, 77, 177] = true := by decide +kernel
theorem dJ4_setLength_d00df_0 : decode cJ4_setLength_d00df 0 = .ok (.aload_n 0, 1) := dko_42 dwJ4_setLength_d00df_0
theorem dJ4_setLength_d00df_1 : decode cJ4_setLength_d00df 1 = .ok (.iload_n 1, 1) := dko_27 (dk_t 1 1 [27, 183, 1, 77, 177] dwJ4_setLength_d00df_0 rfl rfl)
theorem dJ4_setLength_d00df_2 : decode cJ4_setLength_d00df 2 = .ok (.invokespecial 333, 3) := dko_183 (dk_t 2 2 [183, 1, 77, 177] dwJ4_setLength_d00df_0 rfl rfl)
theorem dJ4_setLength_d00df_5 : decode cJ4_setLength_d00df 5 = .ok (.return_, 1) := dko_177 (dk_t 5 5 [177] dwJ4_setLength_d00df_0 rfl rfl)
theorem dwJ4_length_8abf5_0 : dkW cJ4_length_8abf5 0 [42, 183, 1, 87, 172] = true := by decide +kernel
theorem dJ4_length_8abf5_0 : decode cJ4_length_8abf5 0 = .ok (.aload_n 0, 1) := dko_42 dwJ4_length_8abf5_0
theorem dJ4_length_8abf5_1 : decode cJ4_length_8abf5 1 = .ok (.invokespecial 343, 3) := dko_183 (dk_t 1 1 [183, 1, 87, 172] dwJ4_length_8abf5_0 rfl rfl)
theorem dJ4_length_8abf5_4 : decode cJ4_length_8abf5 4 = .ok (.ireturn, 1) := dko_172 (dk_t 4 4 [172] dwJ4_length_8abf5_0 rfl rfl)
theorem dwJ1_charAt_3b067_0 : dkW cJ1_charAt_3b067 0 [27, 42, 190, 184, 0, 9, 42, 27, 51, 17, 0, 255, 126, 146] = true := by decide +kernel
theorem dJ1_charAt_3b067_0 : decode cJ1_charAt_3b067 0 = .ok (.iload_n 1, 1) := dko_27 dwJ1_charAt_3b067_0
theorem dJ1_charAt_3b067_1 : decode cJ1_charAt_3b067 1 = .ok (.aload_n 0, 1) := dko_42 (dk_t 1 1 [42, 190, 184, 0, 9, 42, 27, 51, 17, 0, 255, 126, 146] dwJ1_charAt_3b067_0 rfl rfl)
theorem dJ1_charAt_3b067_2 : decode cJ1_charAt_3b067 2 = .ok (.arraylength, 1) := dko_190 (dk_t 2 2 [190, 184, 0, 9, 42, 27, 51, 17, 0, 255, 126, 146] dwJ1_charAt_3b067_0 rfl rfl)
theorem dJ1_charAt_3b067_3 : decode cJ1_charAt_3b067 3 = .ok (.invokestatic 9, 3) := dko_184 (dk_t 3 3 [184, 0, 9, 42, 27, 51, 17, 0, 255, 126, 146] dwJ1_charAt_3b067_0 rfl rfl)
theorem dJ1_charAt_3b067_6 : decode cJ1_charAt_3b067 6 = .ok (.aload_n 0, 1) := dko_42 (dk_t 6 6 [42, 27, 51, 17, 0, 255, 126, 146] dwJ1_charAt_3b067_0 rfl rfl)
theorem dJ1_charAt_3b067_7 : decode cJ1_charAt_3b067 7 = .ok (.iload_n 1, 1) := dko_27 (dk_t 7 7 [27, 51, 17, 0, 255, 126, 146] dwJ1_charAt_3b067_0 rfl rfl)
theorem dJ1_charAt_3b067_8 : decode cJ1_charAt_3b067 8 = .ok (.baload, 1) := dko_51 (dk_t 8 8 [51, 17, 0, 255, 126, 146] dwJ1_charAt_3b067_0 rfl rfl)
theorem dJ1_charAt_3b067_9 : decode cJ1_charAt_3b067 9 = .ok (.sipush 255, 3) := dko_17 (dk_t 9 9 [17, 0, 255, 126, 146] dwJ1_charAt_3b067_0 rfl rfl)
theorem dJ1_charAt_3b067_12 : decode cJ1_charAt_3b067 12 = .ok (.iand, 1) := dko_126 (dk_t 12 12 [126, 146] dwJ1_charAt_3b067_0 rfl rfl)
theorem dJ1_charAt_3b067_13 : decode cJ1_charAt_3b067 13 = .ok (.i2c, 1) := dko_146 (dk_t 13 13 [146] dwJ1_charAt_3b067_0 rfl rfl)
theorem dwJ1_charAt_3b067_14 : dkW cJ1_charAt_3b067 14 [172] = true := by decide +kernel
theorem dJ1_charAt_3b067_14 : decode cJ1_charAt_3b067 14 = .ok (.ireturn, 1) := dko_172 dwJ1_charAt_3b067_14
theorem dwJ1_canEncode_fc78d_0 : dkW cJ1_canEncode_fc78d 0 [26, 17, 0, 255, 163, 0, 7, 4, 167, 0, 4, 3, 172] = true := by decide +kernel
theorem dJ1_canEncode_fc78d_0 : decode cJ1_canEncode_fc78d 0 = .ok (.iload_n 0, 1) := dko_26 dwJ1_canEncode_fc78d_0
theorem dJ1_canEncode_fc78d_1 : decode cJ1_canEncode_fc78d 1 = .ok (.sipush 255, 3) := dko_17 (dk_t 1 1 [17, 0, 255, 163, 0, 7, 4, 167, 0, 4, 3, 172] dwJ1_canEncode_fc78d_0 rfl rfl)
theorem dJ1_canEncode_fc78d_4 : decode cJ1_canEncode_fc78d 4 = .ok (.if_icmp .gt 7, 3) := dko_163 (dk_t 4 4 [163, 0, 7, 4, 167, 0, 4, 3, 172] dwJ1_canEncode_fc78d_0 rfl rfl)
theorem dJ1_canEncode_fc78d_7 : decode cJ1_canEncode_fc78d 7 = .ok (.iconst 1, 1) := dko_4 (dk_t 7 7 [4, 167, 0, 4, 3, 172] dwJ1_canEncode_fc78d_0 rfl rfl)
theorem dJ1_canEncode_fc78d_8 : decode cJ1_canEncode_fc78d 8 = .ok (.goto 4, 3) := dko_167 (dk_t 8 8 [167, 0, 4, 3, 172] dwJ1_canEncode_fc78d_0 rfl rfl)
theorem dJ1_canEncode_fc78d_11 : decode cJ1_canEncode_fc78d 11 = .ok (.iconst 0, 1) := dko_3 (dk_t 11 11 [3, 172] dwJ1_canEncode_fc78d_0 rfl rfl)
theorem dJ1_canEncode_fc78d_12 : decode cJ1_canEncode_fc78d 12 = .ok (.ireturn, 1) := dko_172 (dk_t 12 12 [172] dwJ1_canEncode_fc78d_0 rfl rfl)
theorem dwJ1_fillNull_b72d1_0 : dkW cJ1_fillNull_b72d1 0 [42, 27, 28, 3, 184, 0, 236, 177] = true := by decide +kernel
theorem dJ1_fillNull_b72d1_0 : decode cJ1_fillNull_b72d1 0 = .ok (.aload_n 0, 1) := dko_42 dwJ1_fillNull_b72d1_0
theorem dJ1_fillNull_b72d1_1 : decode cJ1_fillNull_b72d1 1 = .ok (.iload_n 1, 1) := dko_27 (dk_t 1 1 [27, 28, 3, 184, 0, 236, 177] dwJ1_fillNull_b72d1_0 rfl rfl)
theorem dJ1_fillNull_b72d1_2 : decode cJ1_fillNull_b72d1 2 = .ok (.iload_n 2, 1) := dko_28 (dk_t 2 2 [28, 3, 184, 0, 236, 177] dwJ1_fillNull_b72d1_0 rfl rfl)
theorem dJ1_fillNull_b72d1_3 : decode cJ1_fillNull_b72d1 3 = .ok (.iconst 0, 1) := dko_3 (dk_t 3 3 [3, 184, 0, 236, 177] dwJ1_fillNull_b72d1_0 rfl rfl)
theorem dJ1_fillNull_b72d1_4 : decode cJ1_fillNull_b72d1 4 = .ok (.invokestatic 236, 3) := dko_184 (dk_t 4 4 [184, 0, 236, 177] dwJ1_fillNull_b72d1_0 rfl rfl)
theorem dJ1_fillNull_b72d1_7 : decode cJ1_fillNull_b72d1 7 = .ok (.return_, 1) := dko_177 (dk_t 7 7 [177] dwJ1_fillNull_b72d1_0 rfl rfl)
theorem dwJ1_inflate_0e8fd_0 : dkW cJ1_inflate_0e8fd 0 [42, 27, 44, 29, 21, 4, 184, 0, 240, 177] = true := by decide +kernel
theorem dJ1_inflate_0e8fd_0 : decode cJ1_inflate_0e8fd 0 = .ok (.aload_n 0, 1) := dko_42 dwJ1_inflate_0e8fd_0
theorem dJ1_inflate_0e8fd_1 : decode cJ1_inflate_0e8fd 1 = .ok (.iload_n 1, 1) := dko_27 (dk_t 1 1 [27, 44, 29, 21, 4, 184, 0, 240, 177] dwJ1_inflate_0e8fd_0 rfl rfl)
theorem dJ1_inflate_0e8fd_2 : decode cJ1_inflate_0e8fd 2 = .ok (.aload_n 2, 1) := dko_44 (dk_t 2 2 [44, 29, 21, 4, 184, 0, 240, 177] dwJ1_inflate_0e8fd_0 rfl rfl)
theorem dJ1_inflate_0e8fd_3 : decode cJ1_inflate_0e8fd 3 = .ok (.iload_n 3, 1) := dko_29 (dk_t 3 3 [29, 21, 4, 184, 0, 240, 177] dwJ1_inflate_0e8fd_0 rfl rfl)
theorem dJ1_inflate_0e8fd_4 : decode cJ1_inflate_0e8fd 4 = .ok (.iload 4, 2) := dko_21 (dk_t 4 4 [21, 4, 184, 0, 240, 177] dwJ1_inflate_0e8fd_0 rfl rfl)
theorem dJ1_inflate_0e8fd_6 : decode cJ1_inflate_0e8fd 6 = .ok (.invokestatic 240, 3) := dko_184 (dk_t 6 6 [184, 0, 240, 177] dwJ1_inflate_0e8fd_0 rfl rfl)
theorem dJ1_inflate_0e8fd_9 : decode cJ1_inflate_0e8fd 9 = .ok (.return_, 1) := dko_177 (dk_t 9 9 [177] dwJ1_inflate_0e8fd_0 rfl rfl)
theorem dwJ2_newBytesFor_77867_0 : dkW cJ2_newBytesFor_77867 0 [26, 184, 0, 11, 188, 8, 176] = true := by decide +kernel
theorem dJ2_newBytesFor_77867_0 : decode cJ2_newBytesFor_77867 0 = .ok (.iload_n 0, 1) := dko_26 dwJ2_newBytesFor_77867_0
theorem dJ2_newBytesFor_77867_1 : decode cJ2_newBytesFor_77867 1 = .ok (.invokestatic 11, 3) := dko_184 (dk_t 1 1 [184, 0, 11, 188, 8, 176] dwJ2_newBytesFor_77867_0 rfl rfl)
theorem dJ2_newBytesFor_77867_4 : decode cJ2_newBytesFor_77867 4 = .ok (.newarray .byte, 2) := dko_188_8 (dk_t 4 4 [188, 8, 176] dwJ2_newBytesFor_77867_0 rfl rfl)
theorem dJ2_newBytesFor_77867_6 : decode cJ2_newBytesFor_77867 6 = .ok (.areturn, 1) := dko_176 (dk_t 6 6 [176] dwJ2_newBytesFor_77867_0 rfl rfl)
theorem dwJ2_newBytesLength_0f7a4_0 : dkW cJ2_newBytesLength_0f7a4 0 [26, 156, 0, 11, 187, 0, 17, 89, 183, 0, 19, 191, 26] = true := by decide +kernel
theorem dJ2_newBytesLength_0f7a4_0 : decode cJ2_newBytesLength_0f7a4 0 = .ok (.iload_n 0, 1) := dko_26 dwJ2_newBytesLength_0f7a4_0
theorem dJ2_newBytesLength_0f7a4_1 : decode cJ2_newBytesLength_0f7a4 1 = .ok (.ifCond .ge 11, 3) := dko_156 (dk_t 1 1 [156, 0, 11, 187, 0, 17, 89, 183, 0, 19, 191, 26] dwJ2_newBytesLength_0f7a4_0 rfl rfl)
theorem dJ2_newBytesLength_0f7a4_4 : decode cJ2_newBytesLength_0f7a4 4 = .ok (.new 17, 3) := dko_187 (dk_t 4 4 [187, 0, 17, 89, 183, 0, 19, 191, 26] dwJ2_newBytesLength_0f7a4_0 rfl rfl)
theorem dJ2_newBytesLength_0f7a4_7 : decode cJ2_newBytesLength_0f7a4 7 = .ok (.dup, 1) := dko_89 (dk_t 7 7 [89, 183, 0, 19, 191, 26] dwJ2_newBytesLength_0f7a4_0 rfl rfl)
theorem dJ2_newBytesLength_0f7a4_8 : decode cJ2_newBytesLength_0f7a4 8 = .ok (.invokespecial 19, 3) := dko_183 (dk_t 8 8 [183, 0, 19, 191, 26] dwJ2_newBytesLength_0f7a4_0 rfl rfl)
theorem dJ2_newBytesLength_0f7a4_11 : decode cJ2_newBytesLength_0f7a4 11 = .ok (.athrow, 1) := dko_191 (dk_t 11 11 [191, 26] dwJ2_newBytesLength_0f7a4_0 rfl rfl)
theorem dJ2_newBytesLength_0f7a4_12 : decode cJ2_newBytesLength_0f7a4 12 = .ok (.iload_n 0, 1) := dko_26 (dk_t 12 12 [26] dwJ2_newBytesLength_0f7a4_0 rfl rfl)
theorem dwJ2_newBytesLength_0f7a4_13 : dkW cJ2_newBytesLength_0f7a4 13 [18, 20, 161, 0, 40, 187, 0, 21, 89, 187, 0, 23, 89] = true := by decide +kernel
theorem dJ2_newBytesLength_0f7a4_13 : decode cJ2_newBytesLength_0f7a4 13 = .ok (.ldc 20, 2) := dko_18 dwJ2_newBytesLength_0f7a4_13
theorem dJ2_newBytesLength_0f7a4_15 : decode cJ2_newBytesLength_0f7a4 15 = .ok (.if_icmp .lt 40, 3) := dko_161 (dk_t 2 15 [161, 0, 40, 187, 0, 21, 89, 187, 0, 23, 89] dwJ2_newBytesLength_0f7a4_13 rfl rfl)
theorem dJ2_newBytesLength_0f7a4_18 : decode cJ2_newBytesLength_0f7a4 18 = .ok (.new 21, 3) := dko_187 (dk_t 5 18 [187, 0, 21, 89, 187, 0, 23, 89] dwJ2_newBytesLength_0f7a4_13 rfl rfl)
theorem dJ2_newBytesLength_0f7a4_21 : decode cJ2_newBytesLength_0f7a4 21 = .ok (.dup, 1) := dko_89 (dk_t 8 21 [89, 187, 0, 23, 89] dwJ2_newBytesLength_0f7a4_13 rfl rfl)
theorem dJ2_newBytesLength_0f7a4_22 : decode cJ2_newBytesLength_0f7a4 22 = .ok (.new 23, 3) := dko_187 (dk_t 9 22 [187, 0, 23, 89] dwJ2_newBytesLength_0f7a4_13 rfl rfl)
theorem dJ2_newBytesLength_0f7a4_25 : decode cJ2_newBytesLength_0f7a4 25 = .ok (.dup, 1) := dko_89 (dk_t 12 25 [89] dwJ2_newBytesLength_0f7a4_13 rfl rfl)
theorem dwJ2_newBytesLength_0f7a4_26 : dkW cJ2_newBytesLength_0f7a4 26 [183, 0, 25, 18, 26, 182, 0, 28, 26, 182, 0, 32, 18, 35] = true := by decide +kernel
theorem dJ2_newBytesLength_0f7a4_26 : decode cJ2_newBytesLength_0f7a4 26 = .ok (.invokespecial 25, 3) := dko_183 dwJ2_newBytesLength_0f7a4_26
theorem dJ2_newBytesLength_0f7a4_29 : decode cJ2_newBytesLength_0f7a4 29 = .ok (.ldc 26, 2) := dko_18 (dk_t 3 29 [18, 26, 182, 0, 28, 26, 182, 0, 32, 18, 35] dwJ2_newBytesLength_0f7a4_26 rfl rfl)
theorem dJ2_newBytesLength_0f7a4_31 : decode cJ2_newBytesLength_0f7a4 31 = .ok (.invokevirtual 28, 3) := dko_182 (dk_t 5 31 [182, 0, 28, 26, 182, 0, 32, 18, 35] dwJ2_newBytesLength_0f7a4_26 rfl rfl)
theorem dJ2_newBytesLength_0f7a4_34 : decode cJ2_newBytesLength_0f7a4 34 = .ok (.iload_n 0, 1) := dko_26 (dk_t 8 34 [26, 182, 0, 32, 18, 35] dwJ2_newBytesLength_0f7a4_26 rfl rfl)
theorem dJ2_newBytesLength_0f7a4_35 : decode cJ2_newBytesLength_0f7a4 35 = .ok (.invokevirtual 32, 3) := dko_182 (dk_t 9 35 [182, 0, 32, 18, 35] dwJ2_newBytesLength_0f7a4_26 rfl rfl)
theorem dJ2_newBytesLength_0f7a4_38 : decode cJ2_newBytesLength_0f7a4 38 = .ok (.ldc 35, 2) := dko_18 (dk_t 12 38 [18, 35] dwJ2_newBytesLength_0f7a4_26 rfl rfl)
theorem dwJ2_newBytesLength_0f7a4_40 : dkW cJ2_newBytesLength_0f7a4 40 [182, 0, 28, 18, 20, 182, 0, 32, 182, 0, 37, 183, 0, 41] = true := by decide +kernel
theorem dJ2_newBytesLength_0f7a4_40 : decode cJ2_newBytesLength_0f7a4 40 = .ok (.invokevirtual 28, 3) := dko_182 dwJ2_newBytesLength_0f7a4_40
theorem dJ2_newBytesLength_0f7a4_43 : decode cJ2_newBytesLength_0f7a4 43 = .ok (.ldc 20, 2) := dko_18 (dk_t 3 43 [18, 20, 182, 0, 32, 182, 0, 37, 183, 0, 41] dwJ2_newBytesLength_0f7a4_40 rfl rfl)
theorem dJ2_newBytesLength_0f7a4_45 : decode cJ2_newBytesLength_0f7a4 45 = .ok (.invokevirtual 32, 3) := dko_182 (dk_t 5 45 [182, 0, 32, 182, 0, 37, 183, 0, 41] dwJ2_newBytesLength_0f7a4_40 rfl rfl)
theorem dJ2_newBytesLength_0f7a4_48 : decode cJ2_newBytesLength_0f7a4 48 = .ok (.invokevirtual 37, 3) := dko_182 (dk_t 8 48 [182, 0, 37, 183, 0, 41] dwJ2_newBytesLength_0f7a4_40 rfl rfl)
theorem dJ2_newBytesLength_0f7a4_51 : decode cJ2_newBytesLength_0f7a4 51 = .ok (.invokespecial 41, 3) := dko_183 (dk_t 11 51 [183, 0, 41] dwJ2_newBytesLength_0f7a4_40 rfl rfl)
theorem dwJ2_newBytesLength_0f7a4_54 : dkW cJ2_newBytesLength_0f7a4 54 [191, 26, 4, 120, 172] = true := by decide +kernel
theorem dJ2_newBytesLength_0f7a4_54 : decode cJ2_newBytesLength_0f7a4 54 = .ok (.athrow, 1) := dko_191 dwJ2_newBytesLength_0f7a4_54
theorem dJ2_newBytesLength_0f7a4_55 : decode cJ2_newBytesLength_0f7a4 55 = .ok (.iload_n 0, 1) := dko_26 (dk_t 1 55 [26, 4, 120, 172] dwJ2_newBytesLength_0f7a4_54 rfl rfl)
theorem dJ2_newBytesLength_0f7a4_56 : decode cJ2_newBytesLength_0f7a4 56 = .ok (.iconst 1, 1) := dko_4 (dk_t 2 56 [4, 120, 172] dwJ2_newBytesLength_0f7a4_54 rfl rfl)
theorem dJ2_newBytesLength_0f7a4_57 : decode cJ2_newBytesLength_0f7a4 57 = .ok (.ishl, 1) := dko_120 (dk_t 3 57 [120, 172] dwJ2_newBytesLength_0f7a4_54 rfl rfl)
theorem dJ2_newBytesLength_0f7a4_58 : decode cJ2_newBytesLength_0f7a4 58 = .ok (.ireturn, 1) := dko_172 (dk_t 4 58 [172] dwJ2_newBytesLength_0f7a4_54 rfl rfl)
theorem dwJ2_putChar_b72d1_0 : dkW cJ2_putChar_b72d1 0 [178, 0, 44, 154, 0, 25, 27, 155, 0, 11, 27, 42] = true := by decide +kernel
theorem dJ2_putChar_b72d1_0 : decode cJ2_putChar_b72d1 0 = .ok (.getstatic 44, 3) := dko_178 dwJ2_putChar_b72d1_0
theorem dJ2_putChar_b72d1_3 : decode cJ2_putChar_b72d1 3 = .ok (.ifCond .ne 25, 3) := dko_154 (dk_t 3 3 [154, 0, 25, 27, 155, 0, 11, 27, 42] dwJ2_putChar_b72d1_0 rfl rfl)
theorem dJ2_putChar_b72d1_6 : decode cJ2_putChar_b72d1 6 = .ok (.iload_n 1, 1) := dko_27 (dk_t 6 6 [27, 155, 0, 11, 27, 42] dwJ2_putChar_b72d1_0 rfl rfl)
theorem dJ2_putChar_b72d1_7 : decode cJ2_putChar_b72d1 7 = .ok (.ifCond .lt 11, 3) := dko_155 (dk_t 7 7 [155, 0, 11, 27, 42] dwJ2_putChar_b72d1_0 rfl rfl)
theorem dJ2_putChar_b72d1_10 : decode cJ2_putChar_b72d1 10 = .ok (.iload_n 1, 1) := dko_27 (dk_t 10 10 [27, 42] dwJ2_putChar_b72d1_0 rfl rfl)
theorem dJ2_putChar_b72d1_11 : decode cJ2_putChar_b72d1 11 = .ok (.aload_n 0, 1) := dko_42 (dk_t 11 11 [42] dwJ2_putChar_b72d1_0 rfl rfl)
theorem dwJ2_putChar_b72d1_12 : dkW cJ2_putChar_b72d1 12 [184, 0, 48, 161, 0, 13, 187, 0, 52, 89, 18, 54] = true := by decide +kernel
theorem dJ2_putChar_b72d1_12 : decode cJ2_putChar_b72d1 12 = .ok (.invokestatic 48, 3) := dko_184 dwJ2_putChar_b72d1_12
theorem dJ2_putChar_b72d1_15 : decode cJ2_putChar_b72d1 15 = .ok (.if_icmp .lt 13, 3) := dko_161 (dk_t 3 15 [161, 0, 13, 187, 0, 52, 89, 18, 54] dwJ2_putChar_b72d1_12 rfl rfl)
theorem dJ2_putChar_b72d1_18 : decode cJ2_putChar_b72d1 18 = .ok (.new 52, 3) := dko_187 (dk_t 6 18 [187, 0, 52, 89, 18, 54] dwJ2_putChar_b72d1_12 rfl rfl)
theorem dJ2_putChar_b72d1_21 : decode cJ2_putChar_b72d1 21 = .ok (.dup, 1) := dko_89 (dk_t 9 21 [89, 18, 54] dwJ2_putChar_b72d1_12 rfl rfl)
theorem dJ2_putChar_b72d1_22 : decode cJ2_putChar_b72d1 22 = .ok (.ldc 54, 2) := dko_18 (dk_t 10 22 [18, 54] dwJ2_putChar_b72d1_12 rfl rfl)
theorem dwJ2_putChar_b72d1_24 : dkW cJ2_putChar_b72d1 24 [183, 0, 56, 191, 27, 4, 120, 60, 42, 27, 132, 1, 1, 28] = true := by decide +kernel
theorem dJ2_putChar_b72d1_24 : decode cJ2_putChar_b72d1 24 = .ok (.invokespecial 56, 3) := dko_183 dwJ2_putChar_b72d1_24
theorem dJ2_putChar_b72d1_27 : decode cJ2_putChar_b72d1 27 = .ok (.athrow, 1) := dko_191 (dk_t 3 27 [191, 27, 4, 120, 60, 42, 27, 132, 1, 1, 28] dwJ2_putChar_b72d1_24 rfl rfl)
theorem dJ2_putChar_b72d1_28 : decode cJ2_putChar_b72d1 28 = .ok (.iload_n 1, 1) := dko_27 (dk_t 4 28 [27, 4, 120, 60, 42, 27, 132, 1, 1, 28] dwJ2_putChar_b72d1_24 rfl rfl)
theorem dJ2_putChar_b72d1_29 : decode cJ2_putChar_b72d1 29 = .ok (.iconst 1, 1) := dko_4 (dk_t 5 29 [4, 120, 60, 42, 27, 132, 1, 1, 28] dwJ2_putChar_b72d1_24 rfl rfl)
theorem dJ2_putChar_b72d1_30 : decode cJ2_putChar_b72d1 30 = .ok (.ishl, 1) := dko_120 (dk_t 6 30 [120, 60, 42, 27, 132, 1, 1, 28] dwJ2_putChar_b72d1_24 rfl rfl)
theorem dJ2_putChar_b72d1_31 : decode cJ2_putChar_b72d1 31 = .ok (.istore_n 1, 1) := dko_60 (dk_t 7 31 [60, 42, 27, 132, 1, 1, 28] dwJ2_putChar_b72d1_24 rfl rfl)
theorem dJ2_putChar_b72d1_32 : decode cJ2_putChar_b72d1 32 = .ok (.aload_n 0, 1) := dko_42 (dk_t 8 32 [42, 27, 132, 1, 1, 28] dwJ2_putChar_b72d1_24 rfl rfl)
theorem dJ2_putChar_b72d1_33 : decode cJ2_putChar_b72d1 33 = .ok (.iload_n 1, 1) := dko_27 (dk_t 9 33 [27, 132, 1, 1, 28] dwJ2_putChar_b72d1_24 rfl rfl)
theorem dJ2_putChar_b72d1_34 : decode cJ2_putChar_b72d1 34 = .ok (.iinc 1 1, 3) := dko_132 (dk_t 10 34 [132, 1, 1, 28] dwJ2_putChar_b72d1_24 rfl rfl)
theorem dJ2_putChar_b72d1_37 : decode cJ2_putChar_b72d1 37 = .ok (.iload_n 2, 1) := dko_28 (dk_t 13 37 [28] dwJ2_putChar_b72d1_24 rfl rfl)
theorem dwJ2_putChar_b72d1_38 : dkW cJ2_putChar_b72d1 38 [178, 0, 59, 122, 145, 84, 42, 27, 28, 178, 0, 63, 122, 145] = true := by decide +kernel
theorem dJ2_putChar_b72d1_38 : decode cJ2_putChar_b72d1 38 = .ok (.getstatic 59, 3) := dko_178 dwJ2_putChar_b72d1_38
theorem dJ2_putChar_b72d1_41 : decode cJ2_putChar_b72d1 41 = .ok (.ishr, 1) := dko_122 (dk_t 3 41 [122, 145, 84, 42, 27, 28, 178, 0, 63, 122, 145] dwJ2_putChar_b72d1_38 rfl rfl)
theorem dJ2_putChar_b72d1_42 : decode cJ2_putChar_b72d1 42 = .ok (.i2b, 1) := dko_145 (dk_t 4 42 [145, 84, 42, 27, 28, 178, 0, 63, 122, 145] dwJ2_putChar_b72d1_38 rfl rfl)
theorem dJ2_putChar_b72d1_43 : decode cJ2_putChar_b72d1 43 = .ok (.bastore, 1) := dko_84 (dk_t 5 43 [84, 42, 27, 28, 178, 0, 63, 122, 145] dwJ2_putChar_b72d1_38 rfl rfl)
theorem dJ2_putChar_b72d1_44 : decode cJ2_putChar_b72d1 44 = .ok (.aload_n 0, 1) := dko_42 (dk_t 6 44 [42, 27, 28, 178, 0, 63, 122, 145] dwJ2_putChar_b72d1_38 rfl rfl)
theorem dJ2_putChar_b72d1_45 : decode cJ2_putChar_b72d1 45 = .ok (.iload_n 1, 1) := dko_27 (dk_t 7 45 [27, 28, 178, 0, 63, 122, 145] dwJ2_putChar_b72d1_38 rfl rfl)
theorem dJ2_putChar_b72d1_46 : decode cJ2_putChar_b72d1 46 = .ok (.iload_n 2, 1) := dko_28 (dk_t 8 46 [28, 178, 0, 63, 122, 145] dwJ2_putChar_b72d1_38 rfl rfl)
theorem dJ2_putChar_b72d1_47 : decode cJ2_putChar_b72d1 47 = .ok (.getstatic 63, 3) := dko_178 (dk_t 9 47 [178, 0, 63, 122, 145] dwJ2_putChar_b72d1_38 rfl rfl)
theorem dJ2_putChar_b72d1_50 : decode cJ2_putChar_b72d1 50 = .ok (.ishr, 1) := dko_122 (dk_t 12 50 [122, 145] dwJ2_putChar_b72d1_38 rfl rfl)
theorem dJ2_putChar_b72d1_51 : decode cJ2_putChar_b72d1 51 = .ok (.i2b, 1) := dko_145 (dk_t 13 51 [145] dwJ2_putChar_b72d1_38 rfl rfl)
theorem dwJ2_putChar_b72d1_52 : dkW cJ2_putChar_b72d1 52 [84, 177] = true := by decide +kernel
theorem dJ2_putChar_b72d1_52 : decode cJ2_putChar_b72d1 52 = .ok (.bastore, 1) := dko_84 dwJ2_putChar_b72d1_52
theorem dJ2_putChar_b72d1_53 : decode cJ2_putChar_b72d1 53 = .ok (.return_, 1) := dko_177 (dk_t 1 53 [177] dwJ2_putChar_b72d1_52 rfl rfl)
theorem dwJ2_getChar_3b067_0 : dkW cJ2_getChar_3b067 0 [178, 0, 44, 154, 0, 25, 27, 155, 0, 11, 27, 42] = true := by decide +kernel
theorem dJ2_getChar_3b067_0 : decode cJ2_getChar_3b067 0 = .ok (.getstatic 44, 3) := dko_178 dwJ2_getChar_3b067_0
theorem dJ2_getChar_3b067_3 : decode cJ2_getChar_3b067 3 = .ok (.ifCond .ne 25, 3) := dko_154 (dk_t 3 3 [154, 0, 25, 27, 155, 0, 11, 27, 42] dwJ2_getChar_3b067_0 rfl rfl)
theorem dJ2_getChar_3b067_6 : decode cJ2_getChar_3b067 6 = .ok (.iload_n 1, 1) := dko_27 (dk_t 6 6 [27, 155, 0, 11, 27, 42] dwJ2_getChar_3b067_0 rfl rfl)
theorem dJ2_getChar_3b067_7 : decode cJ2_getChar_3b067 7 = .ok (.ifCond .lt 11, 3) := dko_155 (dk_t 7 7 [155, 0, 11, 27, 42] dwJ2_getChar_3b067_0 rfl rfl)
theorem dJ2_getChar_3b067_10 : decode cJ2_getChar_3b067 10 = .ok (.iload_n 1, 1) := dko_27 (dk_t 10 10 [27, 42] dwJ2_getChar_3b067_0 rfl rfl)
theorem dJ2_getChar_3b067_11 : decode cJ2_getChar_3b067 11 = .ok (.aload_n 0, 1) := dko_42 (dk_t 11 11 [42] dwJ2_getChar_3b067_0 rfl rfl)
theorem dwJ2_getChar_3b067_12 : dkW cJ2_getChar_3b067 12 [184, 0, 48, 161, 0, 13, 187, 0, 52, 89, 18, 54] = true := by decide +kernel
theorem dJ2_getChar_3b067_12 : decode cJ2_getChar_3b067 12 = .ok (.invokestatic 48, 3) := dko_184 dwJ2_getChar_3b067_12
theorem dJ2_getChar_3b067_15 : decode cJ2_getChar_3b067 15 = .ok (.if_icmp .lt 13, 3) := dko_161 (dk_t 3 15 [161, 0, 13, 187, 0, 52, 89, 18, 54] dwJ2_getChar_3b067_12 rfl rfl)
theorem dJ2_getChar_3b067_18 : decode cJ2_getChar_3b067 18 = .ok (.new 52, 3) := dko_187 (dk_t 6 18 [187, 0, 52, 89, 18, 54] dwJ2_getChar_3b067_12 rfl rfl)
theorem dJ2_getChar_3b067_21 : decode cJ2_getChar_3b067 21 = .ok (.dup, 1) := dko_89 (dk_t 9 21 [89, 18, 54] dwJ2_getChar_3b067_12 rfl rfl)
theorem dJ2_getChar_3b067_22 : decode cJ2_getChar_3b067 22 = .ok (.ldc 54, 2) := dko_18 (dk_t 10 22 [18, 54] dwJ2_getChar_3b067_12 rfl rfl)
theorem dwJ2_getChar_3b067_24 : dkW cJ2_getChar_3b067 24 [183, 0, 56, 191, 27, 4, 120, 60, 42, 27, 132, 1, 1, 51] = true := by decide +kernel
theorem dJ2_getChar_3b067_24 : decode cJ2_getChar_3b067 24 = .ok (.invokespecial 56, 3) := dko_183 dwJ2_getChar_3b067_24
theorem dJ2_getChar_3b067_27 : decode cJ2_getChar_3b067 27 = .ok (.athrow, 1) := dko_191 (dk_t 3 27 [191, 27, 4, 120, 60, 42, 27, 132, 1, 1, 51] dwJ2_getChar_3b067_24 rfl rfl)
theorem dJ2_getChar_3b067_28 : decode cJ2_getChar_3b067 28 = .ok (.iload_n 1, 1) := dko_27 (dk_t 4 28 [27, 4, 120, 60, 42, 27, 132, 1, 1, 51] dwJ2_getChar_3b067_24 rfl rfl)
theorem dJ2_getChar_3b067_29 : decode cJ2_getChar_3b067 29 = .ok (.iconst 1, 1) := dko_4 (dk_t 5 29 [4, 120, 60, 42, 27, 132, 1, 1, 51] dwJ2_getChar_3b067_24 rfl rfl)
theorem dJ2_getChar_3b067_30 : decode cJ2_getChar_3b067 30 = .ok (.ishl, 1) := dko_120 (dk_t 6 30 [120, 60, 42, 27, 132, 1, 1, 51] dwJ2_getChar_3b067_24 rfl rfl)
theorem dJ2_getChar_3b067_31 : decode cJ2_getChar_3b067 31 = .ok (.istore_n 1, 1) := dko_60 (dk_t 7 31 [60, 42, 27, 132, 1, 1, 51] dwJ2_getChar_3b067_24 rfl rfl)
theorem dJ2_getChar_3b067_32 : decode cJ2_getChar_3b067 32 = .ok (.aload_n 0, 1) := dko_42 (dk_t 8 32 [42, 27, 132, 1, 1, 51] dwJ2_getChar_3b067_24 rfl rfl)
theorem dJ2_getChar_3b067_33 : decode cJ2_getChar_3b067 33 = .ok (.iload_n 1, 1) := dko_27 (dk_t 9 33 [27, 132, 1, 1, 51] dwJ2_getChar_3b067_24 rfl rfl)
theorem dJ2_getChar_3b067_34 : decode cJ2_getChar_3b067 34 = .ok (.iinc 1 1, 3) := dko_132 (dk_t 10 34 [132, 1, 1, 51] dwJ2_getChar_3b067_24 rfl rfl)
theorem dJ2_getChar_3b067_37 : decode cJ2_getChar_3b067 37 = .ok (.baload, 1) := dko_51 (dk_t 13 37 [51] dwJ2_getChar_3b067_24 rfl rfl)
theorem dwJ2_getChar_3b067_38 : dkW cJ2_getChar_3b067 38 [17, 0, 255, 126, 178, 0, 59, 120, 42, 27, 51, 17, 0, 255] = true := by decide +kernel
theorem dJ2_getChar_3b067_38 : decode cJ2_getChar_3b067 38 = .ok (.sipush 255, 3) := dko_17 dwJ2_getChar_3b067_38
theorem dJ2_getChar_3b067_41 : decode cJ2_getChar_3b067 41 = .ok (.iand, 1) := dko_126 (dk_t 3 41 [126, 178, 0, 59, 120, 42, 27, 51, 17, 0, 255] dwJ2_getChar_3b067_38 rfl rfl)
theorem dJ2_getChar_3b067_42 : decode cJ2_getChar_3b067 42 = .ok (.getstatic 59, 3) := dko_178 (dk_t 4 42 [178, 0, 59, 120, 42, 27, 51, 17, 0, 255] dwJ2_getChar_3b067_38 rfl rfl)
theorem dJ2_getChar_3b067_45 : decode cJ2_getChar_3b067 45 = .ok (.ishl, 1) := dko_120 (dk_t 7 45 [120, 42, 27, 51, 17, 0, 255] dwJ2_getChar_3b067_38 rfl rfl)
theorem dJ2_getChar_3b067_46 : decode cJ2_getChar_3b067 46 = .ok (.aload_n 0, 1) := dko_42 (dk_t 8 46 [42, 27, 51, 17, 0, 255] dwJ2_getChar_3b067_38 rfl rfl)
theorem dJ2_getChar_3b067_47 : decode cJ2_getChar_3b067 47 = .ok (.iload_n 1, 1) := dko_27 (dk_t 9 47 [27, 51, 17, 0, 255] dwJ2_getChar_3b067_38 rfl rfl)
theorem dJ2_getChar_3b067_48 : decode cJ2_getChar_3b067 48 = .ok (.baload, 1) := dko_51 (dk_t 10 48 [51, 17, 0, 255] dwJ2_getChar_3b067_38 rfl rfl)
theorem dJ2_getChar_3b067_49 : decode cJ2_getChar_3b067 49 = .ok (.sipush 255, 3) := dko_17 (dk_t 11 49 [17, 0, 255] dwJ2_getChar_3b067_38 rfl rfl)
theorem dwJ2_getChar_3b067_52 : dkW cJ2_getChar_3b067 52 [126, 178, 0, 63, 120, 128, 146, 172] = true := by decide +kernel
theorem dJ2_getChar_3b067_52 : decode cJ2_getChar_3b067 52 = .ok (.iand, 1) := dko_126 dwJ2_getChar_3b067_52
theorem dJ2_getChar_3b067_53 : decode cJ2_getChar_3b067 53 = .ok (.getstatic 63, 3) := dko_178 (dk_t 1 53 [178, 0, 63, 120, 128, 146, 172] dwJ2_getChar_3b067_52 rfl rfl)
theorem dJ2_getChar_3b067_56 : decode cJ2_getChar_3b067 56 = .ok (.ishl, 1) := dko_120 (dk_t 4 56 [120, 128, 146, 172] dwJ2_getChar_3b067_52 rfl rfl)
theorem dJ2_getChar_3b067_57 : decode cJ2_getChar_3b067 57 = .ok (.ior, 1) := dko_128 (dk_t 5 57 [128, 146, 172] dwJ2_getChar_3b067_52 rfl rfl)
theorem dJ2_getChar_3b067_58 : decode cJ2_getChar_3b067 58 = .ok (.i2c, 1) := dko_146 (dk_t 6 58 [146, 172] dwJ2_getChar_3b067_52 rfl rfl)
theorem dJ2_getChar_3b067_59 : decode cJ2_getChar_3b067 59 = .ok (.ireturn, 1) := dko_172 (dk_t 7 59 [172] dwJ2_getChar_3b067_52 rfl rfl)
theorem dwJ2_length_9d52b_0 : dkW cJ2_length_9d52b 0 [42, 190, 4, 122, 172] = true := by decide +kernel
theorem dJ2_length_9d52b_0 : decode cJ2_length_9d52b 0 = .ok (.aload_n 0, 1) := dko_42 dwJ2_length_9d52b_0
theorem dJ2_length_9d52b_1 : decode cJ2_length_9d52b 1 = .ok (.arraylength, 1) := dko_190 (dk_t 1 1 [190, 4, 122, 172] dwJ2_length_9d52b_0 rfl rfl)
theorem dJ2_length_9d52b_2 : decode cJ2_length_9d52b 2 = .ok (.iconst 1, 1) := dko_4 (dk_t 2 2 [4, 122, 172] dwJ2_length_9d52b_0 rfl rfl)
theorem dJ2_length_9d52b_3 : decode cJ2_length_9d52b 3 = .ok (.ishr, 1) := dko_122 (dk_t 3 3 [122, 172] dwJ2_length_9d52b_0 rfl rfl)
theorem dJ2_length_9d52b_4 : decode cJ2_length_9d52b 4 = .ok (.ireturn, 1) := dko_172 (dk_t 4 4 [172] dwJ2_length_9d52b_0 rfl rfl)
theorem dwJ2_fillNull_b72d1_0 : dkW cJ2_fillNull_b72d1 0 [42, 27, 4, 120, 28, 4, 120, 3, 184, 1, 124, 177] = true := by decide +kernel
theorem dJ2_fillNull_b72d1_0 : decode cJ2_fillNull_b72d1 0 = .ok (.aload_n 0, 1) := dko_42 dwJ2_fillNull_b72d1_0
theorem dJ2_fillNull_b72d1_1 : decode cJ2_fillNull_b72d1 1 = .ok (.iload_n 1, 1) := dko_27 (dk_t 1 1 [27, 4, 120, 28, 4, 120, 3, 184, 1, 124, 177] dwJ2_fillNull_b72d1_0 rfl rfl)
theorem dJ2_fillNull_b72d1_2 : decode cJ2_fillNull_b72d1 2 = .ok (.iconst 1, 1) := dko_4 (dk_t 2 2 [4, 120, 28, 4, 120, 3, 184, 1, 124, 177] dwJ2_fillNull_b72d1_0 rfl rfl)
theorem dJ2_fillNull_b72d1_3 : decode cJ2_fillNull_b72d1 3 = .ok (.ishl, 1) := dko_120 (dk_t 3 3 [120, 28, 4, 120, 3, 184, 1, 124, 177] dwJ2_fillNull_b72d1_0 rfl rfl)
theorem dJ2_fillNull_b72d1_4 : decode cJ2_fillNull_b72d1 4 = .ok (.iload_n 2, 1) := dko_28 (dk_t 4 4 [28, 4, 120, 3, 184, 1, 124, 177] dwJ2_fillNull_b72d1_0 rfl rfl)
theorem dJ2_fillNull_b72d1_5 : decode cJ2_fillNull_b72d1 5 = .ok (.iconst 1, 1) := dko_4 (dk_t 5 5 [4, 120, 3, 184, 1, 124, 177] dwJ2_fillNull_b72d1_0 rfl rfl)
theorem dJ2_fillNull_b72d1_6 : decode cJ2_fillNull_b72d1 6 = .ok (.ishl, 1) := dko_120 (dk_t 6 6 [120, 3, 184, 1, 124, 177] dwJ2_fillNull_b72d1_0 rfl rfl)
theorem dJ2_fillNull_b72d1_7 : decode cJ2_fillNull_b72d1 7 = .ok (.iconst 0, 1) := dko_3 (dk_t 7 7 [3, 184, 1, 124, 177] dwJ2_fillNull_b72d1_0 rfl rfl)
theorem dJ2_fillNull_b72d1_8 : decode cJ2_fillNull_b72d1 8 = .ok (.invokestatic 380, 3) := dko_184 (dk_t 8 8 [184, 1, 124, 177] dwJ2_fillNull_b72d1_0 rfl rfl)
theorem dJ2_fillNull_b72d1_11 : decode cJ2_fillNull_b72d1 11 = .ok (.return_, 1) := dko_177 (dk_t 11 11 [177] dwJ2_fillNull_b72d1_0 rfl rfl)
theorem dwJ2_putCharSB_b72d1_0 : dkW cJ2_putCharSB_b72d1 0 [27, 42, 184, 0, 67, 42, 27, 28, 184, 0, 111, 177] = true := by decide +kernel
theorem dJ2_putCharSB_b72d1_0 : decode cJ2_putCharSB_b72d1 0 = .ok (.iload_n 1, 1) := dko_27 dwJ2_putCharSB_b72d1_0
theorem dJ2_putCharSB_b72d1_1 : decode cJ2_putCharSB_b72d1 1 = .ok (.aload_n 0, 1) := dko_42 (dk_t 1 1 [42, 184, 0, 67, 42, 27, 28, 184, 0, 111, 177] dwJ2_putCharSB_b72d1_0 rfl rfl)
theorem dJ2_putCharSB_b72d1_2 : decode cJ2_putCharSB_b72d1 2 = .ok (.invokestatic 67, 3) := dko_184 (dk_t 2 2 [184, 0, 67, 42, 27, 28, 184, 0, 111, 177] dwJ2_putCharSB_b72d1_0 rfl rfl)
theorem dJ2_putCharSB_b72d1_5 : decode cJ2_putCharSB_b72d1 5 = .ok (.aload_n 0, 1) := dko_42 (dk_t 5 5 [42, 27, 28, 184, 0, 111, 177] dwJ2_putCharSB_b72d1_0 rfl rfl)
theorem dJ2_putCharSB_b72d1_6 : decode cJ2_putCharSB_b72d1 6 = .ok (.iload_n 1, 1) := dko_27 (dk_t 6 6 [27, 28, 184, 0, 111, 177] dwJ2_putCharSB_b72d1_0 rfl rfl)
theorem dJ2_putCharSB_b72d1_7 : decode cJ2_putCharSB_b72d1 7 = .ok (.iload_n 2, 1) := dko_28 (dk_t 7 7 [28, 184, 0, 111, 177] dwJ2_putCharSB_b72d1_0 rfl rfl)
theorem dJ2_putCharSB_b72d1_8 : decode cJ2_putCharSB_b72d1 8 = .ok (.invokestatic 111, 3) := dko_184 (dk_t 8 8 [184, 0, 111, 177] dwJ2_putCharSB_b72d1_0 rfl rfl)
theorem dJ2_putCharSB_b72d1_11 : decode cJ2_putCharSB_b72d1 11 = .ok (.return_, 1) := dko_177 (dk_t 11 11 [177] dwJ2_putCharSB_b72d1_0 rfl rfl)
theorem dwJ2_getChars_46870_0 : dkW cJ2_getChars_46870 0 [27, 28, 45, 184, 0, 96, 26, 28, 45, 184, 1, 137, 54, 4] = true := by decide +kernel
theorem dJ2_getChars_46870_0 : decode cJ2_getChars_46870 0 = .ok (.iload_n 1, 1) := dko_27 dwJ2_getChars_46870_0
theorem dJ2_getChars_46870_1 : decode cJ2_getChars_46870 1 = .ok (.iload_n 2, 1) := dko_28 (dk_t 1 1 [28, 45, 184, 0, 96, 26, 28, 45, 184, 1, 137, 54, 4] dwJ2_getChars_46870_0 rfl rfl)
theorem dJ2_getChars_46870_2 : decode cJ2_getChars_46870 2 = .ok (.aload_n 3, 1) := dko_45 (dk_t 2 2 [45, 184, 0, 96, 26, 28, 45, 184, 1, 137, 54, 4] dwJ2_getChars_46870_0 rfl rfl)
theorem dJ2_getChars_46870_3 : decode cJ2_getChars_46870 3 = .ok (.invokestatic 96, 3) := dko_184 (dk_t 3 3 [184, 0, 96, 26, 28, 45, 184, 1, 137, 54, 4] dwJ2_getChars_46870_0 rfl rfl)
theorem dJ2_getChars_46870_6 : decode cJ2_getChars_46870 6 = .ok (.iload_n 0, 1) := dko_26 (dk_t 6 6 [26, 28, 45, 184, 1, 137, 54, 4] dwJ2_getChars_46870_0 rfl rfl)
theorem dJ2_getChars_46870_7 : decode cJ2_getChars_46870 7 = .ok (.iload_n 2, 1) := dko_28 (dk_t 7 7 [28, 45, 184, 1, 137, 54, 4] dwJ2_getChars_46870_0 rfl rfl)
theorem dJ2_getChars_46870_8 : decode cJ2_getChars_46870 8 = .ok (.aload_n 3, 1) := dko_45 (dk_t 8 8 [45, 184, 1, 137, 54, 4] dwJ2_getChars_46870_0 rfl rfl)
theorem dJ2_getChars_46870_9 : decode cJ2_getChars_46870 9 = .ok (.invokestatic 393, 3) := dko_184 (dk_t 9 9 [184, 1, 137, 54, 4] dwJ2_getChars_46870_0 rfl rfl)
theorem dJ2_getChars_46870_12 : decode cJ2_getChars_46870 12 = .ok (.istore 4, 2) := dko_54 (dk_t 12 12 [54, 4] dwJ2_getChars_46870_0 rfl rfl)
theorem dwJ2_getChars_46870_14 : dkW cJ2_getChars_46870 14 [178, 0, 44, 154, 0, 17, 27, 21, 4, 159, 0, 11] = true := by decide +kernel
theorem dJ2_getChars_46870_14 : decode cJ2_getChars_46870 14 = .ok (.getstatic 44, 3) := dko_178 dwJ2_getChars_46870_14
theorem dJ2_getChars_46870_17 : decode cJ2_getChars_46870 17 = .ok (.ifCond .ne 17, 3) := dko_154 (dk_t 3 17 [154, 0, 17, 27, 21, 4, 159, 0, 11] dwJ2_getChars_46870_14 rfl rfl)
theorem dJ2_getChars_46870_20 : decode cJ2_getChars_46870 20 = .ok (.iload_n 1, 1) := dko_27 (dk_t 6 20 [27, 21, 4, 159, 0, 11] dwJ2_getChars_46870_14 rfl rfl)
theorem dJ2_getChars_46870_21 : decode cJ2_getChars_46870 21 = .ok (.iload 4, 2) := dko_21 (dk_t 7 21 [21, 4, 159, 0, 11] dwJ2_getChars_46870_14 rfl rfl)
theorem dJ2_getChars_46870_23 : decode cJ2_getChars_46870 23 = .ok (.if_icmp .eq 11, 3) := dko_159 (dk_t 9 23 [159, 0, 11] dwJ2_getChars_46870_14 rfl rfl)
theorem dwJ2_getChars_46870_26 : dkW cJ2_getChars_46870 26 [187, 0, 52, 89, 183, 0, 66, 191, 21, 4, 172] = true := by decide +kernel
theorem dJ2_getChars_46870_26 : decode cJ2_getChars_46870 26 = .ok (.new 52, 3) := dko_187 dwJ2_getChars_46870_26
theorem dJ2_getChars_46870_29 : decode cJ2_getChars_46870 29 = .ok (.dup, 1) := dko_89 (dk_t 3 29 [89, 183, 0, 66, 191, 21, 4, 172] dwJ2_getChars_46870_26 rfl rfl)
theorem dJ2_getChars_46870_30 : decode cJ2_getChars_46870 30 = .ok (.invokespecial 66, 3) := dko_183 (dk_t 4 30 [183, 0, 66, 191, 21, 4, 172] dwJ2_getChars_46870_26 rfl rfl)
theorem dJ2_getChars_46870_33 : decode cJ2_getChars_46870 33 = .ok (.athrow, 1) := dko_191 (dk_t 7 33 [191, 21, 4, 172] dwJ2_getChars_46870_26 rfl rfl)
theorem dJ2_getChars_46870_34 : decode cJ2_getChars_46870 34 = .ok (.iload 4, 2) := dko_21 (dk_t 8 34 [21, 4, 172] dwJ2_getChars_46870_26 rfl rfl)
theorem dJ2_getChars_46870_36 : decode cJ2_getChars_46870 36 = .ok (.ireturn, 1) := dko_172 (dk_t 10 36 [172] dwJ2_getChars_46870_26 rfl rfl)
theorem dwJ2_putCharsAt_cd4e5_0 : dkW cJ2_putCharsAt_cd4e5 0 [27, 7, 96, 54, 6, 27, 21, 6, 42, 184, 0, 96, 42, 27] = true := by decide +kernel
theorem dJ2_putCharsAt_cd4e5_0 : decode cJ2_putCharsAt_cd4e5 0 = .ok (.iload_n 1, 1) := dko_27 dwJ2_putCharsAt_cd4e5_0
theorem dJ2_putCharsAt_cd4e5_1 : decode cJ2_putCharsAt_cd4e5 1 = .ok (.iconst 4, 1) := dko_7 (dk_t 1 1 [7, 96, 54, 6, 27, 21, 6, 42, 184, 0, 96, 42, 27] dwJ2_putCharsAt_cd4e5_0 rfl rfl)
theorem dJ2_putCharsAt_cd4e5_2 : decode cJ2_putCharsAt_cd4e5 2 = .ok (.iadd, 1) := dko_96 (dk_t 2 2 [96, 54, 6, 27, 21, 6, 42, 184, 0, 96, 42, 27] dwJ2_putCharsAt_cd4e5_0 rfl rfl)
theorem dJ2_putCharsAt_cd4e5_3 : decode cJ2_putCharsAt_cd4e5 3 = .ok (.istore 6, 2) := dko_54 (dk_t 3 3 [54, 6, 27, 21, 6, 42, 184, 0, 96, 42, 27] dwJ2_putCharsAt_cd4e5_0 rfl rfl)
theorem dJ2_putCharsAt_cd4e5_5 : decode cJ2_putCharsAt_cd4e5 5 = .ok (.iload_n 1, 1) := dko_27 (dk_t 5 5 [27, 21, 6, 42, 184, 0, 96, 42, 27] dwJ2_putCharsAt_cd4e5_0 rfl rfl)
theorem dJ2_putCharsAt_cd4e5_6 : decode cJ2_putCharsAt_cd4e5 6 = .ok (.iload 6, 2) := dko_21 (dk_t 6 6 [21, 6, 42, 184, 0, 96, 42, 27] dwJ2_putCharsAt_cd4e5_0 rfl rfl)
theorem dJ2_putCharsAt_cd4e5_8 : decode cJ2_putCharsAt_cd4e5 8 = .ok (.aload_n 0, 1) := dko_42 (dk_t 8 8 [42, 184, 0, 96, 42, 27] dwJ2_putCharsAt_cd4e5_0 rfl rfl)
theorem dJ2_putCharsAt_cd4e5_9 : decode cJ2_putCharsAt_cd4e5 9 = .ok (.invokestatic 96, 3) := dko_184 (dk_t 9 9 [184, 0, 96, 42, 27] dwJ2_putCharsAt_cd4e5_0 rfl rfl)
theorem dJ2_putCharsAt_cd4e5_12 : decode cJ2_putCharsAt_cd4e5 12 = .ok (.aload_n 0, 1) := dko_42 (dk_t 12 12 [42, 27] dwJ2_putCharsAt_cd4e5_0 rfl rfl)
theorem dJ2_putCharsAt_cd4e5_13 : decode cJ2_putCharsAt_cd4e5 13 = .ok (.iload_n 1, 1) := dko_27 (dk_t 13 13 [27] dwJ2_putCharsAt_cd4e5_0 rfl rfl)
theorem dwJ2_putCharsAt_cd4e5_14 : dkW cJ2_putCharsAt_cd4e5 14 [132, 1, 1, 28, 184, 0, 111, 42, 27, 132, 1, 1, 29] = true := by decide +kernel
theorem dJ2_putCharsAt_cd4e5_14 : decode cJ2_putCharsAt_cd4e5 14 = .ok (.iinc 1 1, 3) := dko_132 dwJ2_putCharsAt_cd4e5_14
theorem dJ2_putCharsAt_cd4e5_17 : decode cJ2_putCharsAt_cd4e5 17 = .ok (.iload_n 2, 1) := dko_28 (dk_t 3 17 [28, 184, 0, 111, 42, 27, 132, 1, 1, 29] dwJ2_putCharsAt_cd4e5_14 rfl rfl)
theorem dJ2_putCharsAt_cd4e5_18 : decode cJ2_putCharsAt_cd4e5 18 = .ok (.invokestatic 111, 3) := dko_184 (dk_t 4 18 [184, 0, 111, 42, 27, 132, 1, 1, 29] dwJ2_putCharsAt_cd4e5_14 rfl rfl)
theorem dJ2_putCharsAt_cd4e5_21 : decode cJ2_putCharsAt_cd4e5 21 = .ok (.aload_n 0, 1) := dko_42 (dk_t 7 21 [42, 27, 132, 1, 1, 29] dwJ2_putCharsAt_cd4e5_14 rfl rfl)
theorem dJ2_putCharsAt_cd4e5_22 : decode cJ2_putCharsAt_cd4e5 22 = .ok (.iload_n 1, 1) := dko_27 (dk_t 8 22 [27, 132, 1, 1, 29] dwJ2_putCharsAt_cd4e5_14 rfl rfl)
theorem dJ2_putCharsAt_cd4e5_23 : decode cJ2_putCharsAt_cd4e5 23 = .ok (.iinc 1 1, 3) := dko_132 (dk_t 9 23 [132, 1, 1, 29] dwJ2_putCharsAt_cd4e5_14 rfl rfl)
theorem dJ2_putCharsAt_cd4e5_26 : decode cJ2_putCharsAt_cd4e5 26 = .ok (.iload_n 3, 1) := dko_29 (dk_t 12 26 [29] dwJ2_putCharsAt_cd4e5_14 rfl rfl)
theorem dwJ2_putCharsAt_cd4e5_27 : dkW cJ2_putCharsAt_cd4e5 27 [184, 0, 111, 42, 27, 132, 1, 1, 21, 4, 184, 0, 111, 42] = true := by decide +kernel
theorem dJ2_putCharsAt_cd4e5_27 : decode cJ2_putCharsAt_cd4e5 27 = .ok (.invokestatic 111, 3) := dko_184 dwJ2_putCharsAt_cd4e5_27
theorem dJ2_putCharsAt_cd4e5_30 : decode cJ2_putCharsAt_cd4e5 30 = .ok (.aload_n 0, 1) := dko_42 (dk_t 3 30 [42, 27, 132, 1, 1, 21, 4, 184, 0, 111, 42] dwJ2_putCharsAt_cd4e5_27 rfl rfl)
theorem dJ2_putCharsAt_cd4e5_31 : decode cJ2_putCharsAt_cd4e5 31 = .ok (.iload_n 1, 1) := dko_27 (dk_t 4 31 [27, 132, 1, 1, 21, 4, 184, 0, 111, 42] dwJ2_putCharsAt_cd4e5_27 rfl rfl)
theorem dJ2_putCharsAt_cd4e5_32 : decode cJ2_putCharsAt_cd4e5 32 = .ok (.iinc 1 1, 3) := dko_132 (dk_t 5 32 [132, 1, 1, 21, 4, 184, 0, 111, 42] dwJ2_putCharsAt_cd4e5_27 rfl rfl)
theorem dJ2_putCharsAt_cd4e5_35 : decode cJ2_putCharsAt_cd4e5 35 = .ok (.iload 4, 2) := dko_21 (dk_t 8 35 [21, 4, 184, 0, 111, 42] dwJ2_putCharsAt_cd4e5_27 rfl rfl)
theorem dJ2_putCharsAt_cd4e5_37 : decode cJ2_putCharsAt_cd4e5 37 = .ok (.invokestatic 111, 3) := dko_184 (dk_t 10 37 [184, 0, 111, 42] dwJ2_putCharsAt_cd4e5_27 rfl rfl)
theorem dJ2_putCharsAt_cd4e5_40 : decode cJ2_putCharsAt_cd4e5 40 = .ok (.aload_n 0, 1) := dko_42 (dk_t 13 40 [42] dwJ2_putCharsAt_cd4e5_27 rfl rfl)
theorem dwJ2_putCharsAt_cd4e5_41 : dkW cJ2_putCharsAt_cd4e5 41 [27, 132, 1, 1, 21, 5, 184, 0, 111, 178, 0, 44] = true := by decide +kernel
theorem dJ2_putCharsAt_cd4e5_41 : decode cJ2_putCharsAt_cd4e5 41 = .ok (.iload_n 1, 1) := dko_27 dwJ2_putCharsAt_cd4e5_41
theorem dJ2_putCharsAt_cd4e5_42 : decode cJ2_putCharsAt_cd4e5 42 = .ok (.iinc 1 1, 3) := dko_132 (dk_t 1 42 [132, 1, 1, 21, 5, 184, 0, 111, 178, 0, 44] dwJ2_putCharsAt_cd4e5_41 rfl rfl)
theorem dJ2_putCharsAt_cd4e5_45 : decode cJ2_putCharsAt_cd4e5 45 = .ok (.iload 5, 2) := dko_21 (dk_t 4 45 [21, 5, 184, 0, 111, 178, 0, 44] dwJ2_putCharsAt_cd4e5_41 rfl rfl)
theorem dJ2_putCharsAt_cd4e5_47 : decode cJ2_putCharsAt_cd4e5 47 = .ok (.invokestatic 111, 3) := dko_184 (dk_t 6 47 [184, 0, 111, 178, 0, 44] dwJ2_putCharsAt_cd4e5_41 rfl rfl)
theorem dJ2_putCharsAt_cd4e5_50 : decode cJ2_putCharsAt_cd4e5 50 = .ok (.getstatic 44, 3) := dko_178 (dk_t 9 50 [178, 0, 44] dwJ2_putCharsAt_cd4e5_41 rfl rfl)
theorem dwJ2_putCharsAt_cd4e5_53 : dkW cJ2_putCharsAt_cd4e5 53 [154, 0, 17, 27, 21, 6, 159, 0, 11, 187, 0, 52, 89] = true := by decide +kernel
theorem dJ2_putCharsAt_cd4e5_53 : decode cJ2_putCharsAt_cd4e5 53 = .ok (.ifCond .ne 17, 3) := dko_154 dwJ2_putCharsAt_cd4e5_53
theorem dJ2_putCharsAt_cd4e5_56 : decode cJ2_putCharsAt_cd4e5 56 = .ok (.iload_n 1, 1) := dko_27 (dk_t 3 56 [27, 21, 6, 159, 0, 11, 187, 0, 52, 89] dwJ2_putCharsAt_cd4e5_53 rfl rfl)
theorem dJ2_putCharsAt_cd4e5_57 : decode cJ2_putCharsAt_cd4e5 57 = .ok (.iload 6, 2) := dko_21 (dk_t 4 57 [21, 6, 159, 0, 11, 187, 0, 52, 89] dwJ2_putCharsAt_cd4e5_53 rfl rfl)
theorem dJ2_putCharsAt_cd4e5_59 : decode cJ2_putCharsAt_cd4e5 59 = .ok (.if_icmp .eq 11, 3) := dko_159 (dk_t 6 59 [159, 0, 11, 187, 0, 52, 89] dwJ2_putCharsAt_cd4e5_53 rfl rfl)
theorem dJ2_putCharsAt_cd4e5_62 : decode cJ2_putCharsAt_cd4e5 62 = .ok (.new 52, 3) := dko_187 (dk_t 9 62 [187, 0, 52, 89] dwJ2_putCharsAt_cd4e5_53 rfl rfl)
theorem dJ2_putCharsAt_cd4e5_65 : decode cJ2_putCharsAt_cd4e5 65 = .ok (.dup, 1) := dko_89 (dk_t 12 65 [89] dwJ2_putCharsAt_cd4e5_53 rfl rfl)
theorem dwJ2_putCharsAt_cd4e5_66 : dkW cJ2_putCharsAt_cd4e5 66 [183, 0, 66, 191, 21, 6, 172] = true := by decide +kernel
theorem dJ2_putCharsAt_cd4e5_66 : decode cJ2_putCharsAt_cd4e5 66 = .ok (.invokespecial 66, 3) := dko_183 dwJ2_putCharsAt_cd4e5_66
theorem dJ2_putCharsAt_cd4e5_69 : decode cJ2_putCharsAt_cd4e5 69 = .ok (.athrow, 1) := dko_191 (dk_t 3 69 [191, 21, 6, 172] dwJ2_putCharsAt_cd4e5_66 rfl rfl)
theorem dJ2_putCharsAt_cd4e5_70 : decode cJ2_putCharsAt_cd4e5 70 = .ok (.iload 6, 2) := dko_21 (dk_t 4 70 [21, 6, 172] dwJ2_putCharsAt_cd4e5_66 rfl rfl)
theorem dJ2_putCharsAt_cd4e5_72 : decode cJ2_putCharsAt_cd4e5 72 = .ok (.ireturn, 1) := dko_172 (dk_t 6 72 [172] dwJ2_putCharsAt_cd4e5_66 rfl rfl)
theorem dwJ2_charAt_3b067_0 : dkW cJ2_charAt_3b067 0 [27, 42, 184, 0, 67, 42, 27, 184, 0, 71, 172] = true := by decide +kernel
theorem dJ2_charAt_3b067_0 : decode cJ2_charAt_3b067 0 = .ok (.iload_n 1, 1) := dko_27 dwJ2_charAt_3b067_0
theorem dJ2_charAt_3b067_1 : decode cJ2_charAt_3b067 1 = .ok (.aload_n 0, 1) := dko_42 (dk_t 1 1 [42, 184, 0, 67, 42, 27, 184, 0, 71, 172] dwJ2_charAt_3b067_0 rfl rfl)
theorem dJ2_charAt_3b067_2 : decode cJ2_charAt_3b067 2 = .ok (.invokestatic 67, 3) := dko_184 (dk_t 2 2 [184, 0, 67, 42, 27, 184, 0, 71, 172] dwJ2_charAt_3b067_0 rfl rfl)
theorem dJ2_charAt_3b067_5 : decode cJ2_charAt_3b067 5 = .ok (.aload_n 0, 1) := dko_42 (dk_t 5 5 [42, 27, 184, 0, 71, 172] dwJ2_charAt_3b067_0 rfl rfl)
theorem dJ2_charAt_3b067_6 : decode cJ2_charAt_3b067 6 = .ok (.iload_n 1, 1) := dko_27 (dk_t 6 6 [27, 184, 0, 71, 172] dwJ2_charAt_3b067_0 rfl rfl)
theorem dJ2_charAt_3b067_7 : decode cJ2_charAt_3b067 7 = .ok (.invokestatic 71, 3) := dko_184 (dk_t 7 7 [184, 0, 71, 172] dwJ2_charAt_3b067_0 rfl rfl)
theorem dJ2_charAt_3b067_10 : decode cJ2_charAt_3b067 10 = .ok (.ireturn, 1) := dko_172 (dk_t 10 10 [172] dwJ2_charAt_3b067_0 rfl rfl)
theorem dwJ2_inflate_0e8fd_0 : dkW cJ2_inflate_0e8fd 0 [29, 21, 4, 44, 184, 0, 173, 3, 54, 5, 21, 5, 21, 4] = true := by decide +kernel
theorem dJ2_inflate_0e8fd_0 : decode cJ2_inflate_0e8fd 0 = .ok (.iload_n 3, 1) := dko_29 dwJ2_inflate_0e8fd_0
theorem dJ2_inflate_0e8fd_1 : decode cJ2_inflate_0e8fd 1 = .ok (.iload 4, 2) := dko_21 (dk_t 1 1 [21, 4, 44, 184, 0, 173, 3, 54, 5, 21, 5, 21, 4] dwJ2_inflate_0e8fd_0 rfl rfl)
theorem dJ2_inflate_0e8fd_3 : decode cJ2_inflate_0e8fd 3 = .ok (.aload_n 2, 1) := dko_44 (dk_t 3 3 [44, 184, 0, 173, 3, 54, 5, 21, 5, 21, 4] dwJ2_inflate_0e8fd_0 rfl rfl)
theorem dJ2_inflate_0e8fd_4 : decode cJ2_inflate_0e8fd 4 = .ok (.invokestatic 173, 3) := dko_184 (dk_t 4 4 [184, 0, 173, 3, 54, 5, 21, 5, 21, 4] dwJ2_inflate_0e8fd_0 rfl rfl)
theorem dJ2_inflate_0e8fd_7 : decode cJ2_inflate_0e8fd 7 = .ok (.iconst 0, 1) := dko_3 (dk_t 7 7 [3, 54, 5, 21, 5, 21, 4] dwJ2_inflate_0e8fd_0 rfl rfl)
theorem dJ2_inflate_0e8fd_8 : decode cJ2_inflate_0e8fd 8 = .ok (.istore 5, 2) := dko_54 (dk_t 8 8 [54, 5, 21, 5, 21, 4] dwJ2_inflate_0e8fd_0 rfl rfl)
theorem dJ2_inflate_0e8fd_10 : decode cJ2_inflate_0e8fd 10 = .ok (.iload 5, 2) := dko_21 (dk_t 10 10 [21, 5, 21, 4] dwJ2_inflate_0e8fd_0 rfl rfl)
theorem dJ2_inflate_0e8fd_12 : decode cJ2_inflate_0e8fd 12 = .ok (.iload 4, 2) := dko_21 (dk_t 12 12 [21, 4] dwJ2_inflate_0e8fd_0 rfl rfl)
theorem dwJ2_inflate_0e8fd_14 : dkW cJ2_inflate_0e8fd 14 [162, 0, 27, 44, 29, 132, 3, 1, 42, 27, 132, 1, 1, 51] = true := by decide +kernel
theorem dJ2_inflate_0e8fd_14 : decode cJ2_inflate_0e8fd 14 = .ok (.if_icmp .ge 27, 3) := dko_162 dwJ2_inflate_0e8fd_14
theorem dJ2_inflate_0e8fd_17 : decode cJ2_inflate_0e8fd 17 = .ok (.aload_n 2, 1) := dko_44 (dk_t 3 17 [44, 29, 132, 3, 1, 42, 27, 132, 1, 1, 51] dwJ2_inflate_0e8fd_14 rfl rfl)
theorem dJ2_inflate_0e8fd_18 : decode cJ2_inflate_0e8fd 18 = .ok (.iload_n 3, 1) := dko_29 (dk_t 4 18 [29, 132, 3, 1, 42, 27, 132, 1, 1, 51] dwJ2_inflate_0e8fd_14 rfl rfl)
theorem dJ2_inflate_0e8fd_19 : decode cJ2_inflate_0e8fd 19 = .ok (.iinc 3 1, 3) := dko_132 (dk_t 5 19 [132, 3, 1, 42, 27, 132, 1, 1, 51] dwJ2_inflate_0e8fd_14 rfl rfl)
theorem dJ2_inflate_0e8fd_22 : decode cJ2_inflate_0e8fd 22 = .ok (.aload_n 0, 1) := dko_42 (dk_t 8 22 [42, 27, 132, 1, 1, 51] dwJ2_inflate_0e8fd_14 rfl rfl)
theorem dJ2_inflate_0e8fd_23 : decode cJ2_inflate_0e8fd 23 = .ok (.iload_n 1, 1) := dko_27 (dk_t 9 23 [27, 132, 1, 1, 51] dwJ2_inflate_0e8fd_14 rfl rfl)
theorem dJ2_inflate_0e8fd_24 : decode cJ2_inflate_0e8fd 24 = .ok (.iinc 1 1, 3) := dko_132 (dk_t 10 24 [132, 1, 1, 51] dwJ2_inflate_0e8fd_14 rfl rfl)
theorem dJ2_inflate_0e8fd_27 : decode cJ2_inflate_0e8fd 27 = .ok (.baload, 1) := dko_51 (dk_t 13 27 [51] dwJ2_inflate_0e8fd_14 rfl rfl)
theorem dwJ2_inflate_0e8fd_28 : dkW cJ2_inflate_0e8fd 28 [17, 0, 255, 126, 184, 0, 111, 132, 5, 1, 167, 255, 228, 177] = true := by decide +kernel
theorem dJ2_inflate_0e8fd_28 : decode cJ2_inflate_0e8fd 28 = .ok (.sipush 255, 3) := dko_17 dwJ2_inflate_0e8fd_28
theorem dJ2_inflate_0e8fd_31 : decode cJ2_inflate_0e8fd 31 = .ok (.iand, 1) := dko_126 (dk_t 3 31 [126, 184, 0, 111, 132, 5, 1, 167, 255, 228, 177] dwJ2_inflate_0e8fd_28 rfl rfl)
theorem dJ2_inflate_0e8fd_32 : decode cJ2_inflate_0e8fd 32 = .ok (.invokestatic 111, 3) := dko_184 (dk_t 4 32 [184, 0, 111, 132, 5, 1, 167, 255, 228, 177] dwJ2_inflate_0e8fd_28 rfl rfl)
theorem dJ2_inflate_0e8fd_35 : decode cJ2_inflate_0e8fd 35 = .ok (.iinc 5 1, 3) := dko_132 (dk_t 7 35 [132, 5, 1, 167, 255, 228, 177] dwJ2_inflate_0e8fd_28 rfl rfl)
theorem dJ2_inflate_0e8fd_38 : decode cJ2_inflate_0e8fd 38 = .ok (.goto (-28), 3) := dko_167 (dk_t 10 38 [167, 255, 228, 177] dwJ2_inflate_0e8fd_28 rfl rfl)
theorem dJ2_inflate_0e8fd_41 : decode cJ2_inflate_0e8fd 41 = .ok (.return_, 1) := dko_177 (dk_t 13 41 [177] dwJ2_inflate_0e8fd_28 rfl rfl)
theorem dwJ2_getChars_ba4f3_0 : dkW cJ2_getChars_ba4f3 0 [27, 54, 5, 26, 156, 0, 7, 4, 167, 0, 4, 3, 54, 6] = true := by decide +kernel
theorem dJ2_getChars_ba4f3_0 : decode cJ2_getChars_ba4f3 0 = .ok (.iload_n 1, 1) := dko_27 dwJ2_getChars_ba4f3_0
theorem dJ2_getChars_ba4f3_1 : decode cJ2_getChars_ba4f3 1 = .ok (.istore 5, 2) := dko_54 (dk_t 1 1 [54, 5, 26, 156, 0, 7, 4, 167, 0, 4, 3, 54, 6] dwJ2_getChars_ba4f3_0 rfl rfl)
theorem dJ2_getChars_ba4f3_3 : decode cJ2_getChars_ba4f3 3 = .ok (.iload_n 0, 1) := dko_26 (dk_t 3 3 [26, 156, 0, 7, 4, 167, 0, 4, 3, 54, 6] dwJ2_getChars_ba4f3_0 rfl rfl)
theorem dJ2_getChars_ba4f3_4 : decode cJ2_getChars_ba4f3 4 = .ok (.ifCond .ge 7, 3) := dko_156 (dk_t 4 4 [156, 0, 7, 4, 167, 0, 4, 3, 54, 6] dwJ2_getChars_ba4f3_0 rfl rfl)
theorem dJ2_getChars_ba4f3_7 : decode cJ2_getChars_ba4f3 7 = .ok (.iconst 1, 1) := dko_4 (dk_t 7 7 [4, 167, 0, 4, 3, 54, 6] dwJ2_getChars_ba4f3_0 rfl rfl)
theorem dJ2_getChars_ba4f3_8 : decode cJ2_getChars_ba4f3 8 = .ok (.goto 4, 3) := dko_167 (dk_t 8 8 [167, 0, 4, 3, 54, 6] dwJ2_getChars_ba4f3_0 rfl rfl)
theorem dJ2_getChars_ba4f3_11 : decode cJ2_getChars_ba4f3 11 = .ok (.iconst 0, 1) := dko_3 (dk_t 11 11 [3, 54, 6] dwJ2_getChars_ba4f3_0 rfl rfl)
theorem dJ2_getChars_ba4f3_12 : decode cJ2_getChars_ba4f3 12 = .ok (.istore 6, 2) := dko_54 (dk_t 12 12 [54, 6] dwJ2_getChars_ba4f3_0 rfl rfl)
theorem dwJ2_getChars_ba4f3_14 : dkW cJ2_getChars_ba4f3 14 [21, 6, 154, 0, 6, 26, 116, 59, 26, 16, 156, 163, 0, 51] = true := by decide +kernel
theorem dJ2_getChars_ba4f3_14 : decode cJ2_getChars_ba4f3 14 = .ok (.iload 6, 2) := dko_21 dwJ2_getChars_ba4f3_14
theorem dJ2_getChars_ba4f3_16 : decode cJ2_getChars_ba4f3 16 = .ok (.ifCond .ne 6, 3) := dko_154 (dk_t 2 16 [154, 0, 6, 26, 116, 59, 26, 16, 156, 163, 0, 51] dwJ2_getChars_ba4f3_14 rfl rfl)
theorem dJ2_getChars_ba4f3_19 : decode cJ2_getChars_ba4f3 19 = .ok (.iload_n 0, 1) := dko_26 (dk_t 5 19 [26, 116, 59, 26, 16, 156, 163, 0, 51] dwJ2_getChars_ba4f3_14 rfl rfl)
theorem dJ2_getChars_ba4f3_20 : decode cJ2_getChars_ba4f3 20 = .ok (.ineg, 1) := dko_116 (dk_t 6 20 [116, 59, 26, 16, 156, 163, 0, 51] dwJ2_getChars_ba4f3_14 rfl rfl)
theorem dJ2_getChars_ba4f3_21 : decode cJ2_getChars_ba4f3 21 = .ok (.istore_n 0, 1) := dko_59 (dk_t 7 21 [59, 26, 16, 156, 163, 0, 51] dwJ2_getChars_ba4f3_14 rfl rfl)
theorem dJ2_getChars_ba4f3_22 : decode cJ2_getChars_ba4f3 22 = .ok (.iload_n 0, 1) := dko_26 (dk_t 8 22 [26, 16, 156, 163, 0, 51] dwJ2_getChars_ba4f3_14 rfl rfl)
theorem dJ2_getChars_ba4f3_23 : decode cJ2_getChars_ba4f3 23 = .ok (.bipush (-100), 2) := dko_16 (dk_t 9 23 [16, 156, 163, 0, 51] dwJ2_getChars_ba4f3_14 rfl rfl)
theorem dJ2_getChars_ba4f3_25 : decode cJ2_getChars_ba4f3 25 = .ok (.if_icmp .gt 51, 3) := dko_163 (dk_t 11 25 [163, 0, 51] dwJ2_getChars_ba4f3_14 rfl rfl)
theorem dwJ2_getChars_ba4f3_28 : dkW cJ2_getChars_ba4f3 28 [26, 16, 100, 108, 62, 29, 16, 100, 104, 26, 100, 54, 4, 29] = true := by decide +kernel
theorem dJ2_getChars_ba4f3_28 : decode cJ2_getChars_ba4f3 28 = .ok (.iload_n 0, 1) := dko_26 dwJ2_getChars_ba4f3_28
theorem dJ2_getChars_ba4f3_29 : decode cJ2_getChars_ba4f3 29 = .ok (.bipush 100, 2) := dko_16 (dk_t 1 29 [16, 100, 108, 62, 29, 16, 100, 104, 26, 100, 54, 4, 29] dwJ2_getChars_ba4f3_28 rfl rfl)
theorem dJ2_getChars_ba4f3_31 : decode cJ2_getChars_ba4f3 31 = .ok (.idiv, 1) := dko_108 (dk_t 3 31 [108, 62, 29, 16, 100, 104, 26, 100, 54, 4, 29] dwJ2_getChars_ba4f3_28 rfl rfl)
theorem dJ2_getChars_ba4f3_32 : decode cJ2_getChars_ba4f3 32 = .ok (.istore_n 3, 1) := dko_62 (dk_t 4 32 [62, 29, 16, 100, 104, 26, 100, 54, 4, 29] dwJ2_getChars_ba4f3_28 rfl rfl)
theorem dJ2_getChars_ba4f3_33 : decode cJ2_getChars_ba4f3 33 = .ok (.iload_n 3, 1) := dko_29 (dk_t 5 33 [29, 16, 100, 104, 26, 100, 54, 4, 29] dwJ2_getChars_ba4f3_28 rfl rfl)
theorem dJ2_getChars_ba4f3_34 : decode cJ2_getChars_ba4f3 34 = .ok (.bipush 100, 2) := dko_16 (dk_t 6 34 [16, 100, 104, 26, 100, 54, 4, 29] dwJ2_getChars_ba4f3_28 rfl rfl)
theorem dJ2_getChars_ba4f3_36 : decode cJ2_getChars_ba4f3 36 = .ok (.imul, 1) := dko_104 (dk_t 8 36 [104, 26, 100, 54, 4, 29] dwJ2_getChars_ba4f3_28 rfl rfl)
theorem dJ2_getChars_ba4f3_37 : decode cJ2_getChars_ba4f3 37 = .ok (.iload_n 0, 1) := dko_26 (dk_t 9 37 [26, 100, 54, 4, 29] dwJ2_getChars_ba4f3_28 rfl rfl)
theorem dJ2_getChars_ba4f3_38 : decode cJ2_getChars_ba4f3 38 = .ok (.isub, 1) := dko_100 (dk_t 10 38 [100, 54, 4, 29] dwJ2_getChars_ba4f3_28 rfl rfl)
theorem dJ2_getChars_ba4f3_39 : decode cJ2_getChars_ba4f3 39 = .ok (.istore 4, 2) := dko_54 (dk_t 11 39 [54, 4, 29] dwJ2_getChars_ba4f3_28 rfl rfl)
theorem dJ2_getChars_ba4f3_41 : decode cJ2_getChars_ba4f3 41 = .ok (.iload_n 3, 1) := dko_29 (dk_t 13 41 [29] dwJ2_getChars_ba4f3_28 rfl rfl)
theorem dwJ2_getChars_ba4f3_42 : dkW cJ2_getChars_ba4f3 42 [59, 44, 132, 5, 255, 21, 5, 178, 1, 147, 21, 4, 51] = true := by decide +kernel
theorem dJ2_getChars_ba4f3_42 : decode cJ2_getChars_ba4f3 42 = .ok (.istore_n 0, 1) := dko_59 dwJ2_getChars_ba4f3_42
theorem dJ2_getChars_ba4f3_43 : decode cJ2_getChars_ba4f3 43 = .ok (.aload_n 2, 1) := dko_44 (dk_t 1 43 [44, 132, 5, 255, 21, 5, 178, 1, 147, 21, 4, 51] dwJ2_getChars_ba4f3_42 rfl rfl)
theorem dJ2_getChars_ba4f3_44 : decode cJ2_getChars_ba4f3 44 = .ok (.iinc 5 (-1), 3) := dko_132 (dk_t 2 44 [132, 5, 255, 21, 5, 178, 1, 147, 21, 4, 51] dwJ2_getChars_ba4f3_42 rfl rfl)
theorem dJ2_getChars_ba4f3_47 : decode cJ2_getChars_ba4f3 47 = .ok (.iload 5, 2) := dko_21 (dk_t 5 47 [21, 5, 178, 1, 147, 21, 4, 51] dwJ2_getChars_ba4f3_42 rfl rfl)
theorem dJ2_getChars_ba4f3_49 : decode cJ2_getChars_ba4f3 49 = .ok (.getstatic 403, 3) := dko_178 (dk_t 7 49 [178, 1, 147, 21, 4, 51] dwJ2_getChars_ba4f3_42 rfl rfl)
theorem dJ2_getChars_ba4f3_52 : decode cJ2_getChars_ba4f3 52 = .ok (.iload 4, 2) := dko_21 (dk_t 10 52 [21, 4, 51] dwJ2_getChars_ba4f3_42 rfl rfl)
theorem dJ2_getChars_ba4f3_54 : decode cJ2_getChars_ba4f3 54 = .ok (.baload, 1) := dko_51 (dk_t 12 54 [51] dwJ2_getChars_ba4f3_42 rfl rfl)
theorem dwJ2_getChars_ba4f3_55 : dkW cJ2_getChars_ba4f3 55 [184, 0, 111, 44, 132, 5, 255, 21, 5, 178, 1, 151, 21, 4] = true := by decide +kernel
theorem dJ2_getChars_ba4f3_55 : decode cJ2_getChars_ba4f3 55 = .ok (.invokestatic 111, 3) := dko_184 dwJ2_getChars_ba4f3_55
theorem dJ2_getChars_ba4f3_58 : decode cJ2_getChars_ba4f3 58 = .ok (.aload_n 2, 1) := dko_44 (dk_t 3 58 [44, 132, 5, 255, 21, 5, 178, 1, 151, 21, 4] dwJ2_getChars_ba4f3_55 rfl rfl)
theorem dJ2_getChars_ba4f3_59 : decode cJ2_getChars_ba4f3 59 = .ok (.iinc 5 (-1), 3) := dko_132 (dk_t 4 59 [132, 5, 255, 21, 5, 178, 1, 151, 21, 4] dwJ2_getChars_ba4f3_55 rfl rfl)
theorem dJ2_getChars_ba4f3_62 : decode cJ2_getChars_ba4f3 62 = .ok (.iload 5, 2) := dko_21 (dk_t 7 62 [21, 5, 178, 1, 151, 21, 4] dwJ2_getChars_ba4f3_55 rfl rfl)
theorem dJ2_getChars_ba4f3_64 : decode cJ2_getChars_ba4f3 64 = .ok (.getstatic 407, 3) := dko_178 (dk_t 9 64 [178, 1, 151, 21, 4] dwJ2_getChars_ba4f3_55 rfl rfl)
theorem dJ2_getChars_ba4f3_67 : decode cJ2_getChars_ba4f3 67 = .ok (.iload 4, 2) := dko_21 (dk_t 12 67 [21, 4] dwJ2_getChars_ba4f3_55 rfl rfl)
theorem dwJ2_getChars_ba4f3_69 : dkW cJ2_getChars_ba4f3 69 [51, 184, 0, 111, 167, 255, 205, 44, 132, 5, 255, 21, 5] = true := by decide +kernel
theorem dJ2_getChars_ba4f3_69 : decode cJ2_getChars_ba4f3 69 = .ok (.baload, 1) := dko_51 dwJ2_getChars_ba4f3_69
theorem dJ2_getChars_ba4f3_70 : decode cJ2_getChars_ba4f3 70 = .ok (.invokestatic 111, 3) := dko_184 (dk_t 1 70 [184, 0, 111, 167, 255, 205, 44, 132, 5, 255, 21, 5] dwJ2_getChars_ba4f3_69 rfl rfl)
theorem dJ2_getChars_ba4f3_73 : decode cJ2_getChars_ba4f3 73 = .ok (.goto (-51), 3) := dko_167 (dk_t 4 73 [167, 255, 205, 44, 132, 5, 255, 21, 5] dwJ2_getChars_ba4f3_69 rfl rfl)
theorem dJ2_getChars_ba4f3_76 : decode cJ2_getChars_ba4f3 76 = .ok (.aload_n 2, 1) := dko_44 (dk_t 7 76 [44, 132, 5, 255, 21, 5] dwJ2_getChars_ba4f3_69 rfl rfl)
theorem dJ2_getChars_ba4f3_77 : decode cJ2_getChars_ba4f3 77 = .ok (.iinc 5 (-1), 3) := dko_132 (dk_t 8 77 [132, 5, 255, 21, 5] dwJ2_getChars_ba4f3_69 rfl rfl)
theorem dJ2_getChars_ba4f3_80 : decode cJ2_getChars_ba4f3 80 = .ok (.iload 5, 2) := dko_21 (dk_t 11 80 [21, 5] dwJ2_getChars_ba4f3_69 rfl rfl)
theorem dwJ2_getChars_ba4f3_82 : dkW cJ2_getChars_ba4f3 82 [178, 1, 147, 26, 116, 51, 184, 0, 111, 26, 16, 247] = true := by decide +kernel
theorem dJ2_getChars_ba4f3_82 : decode cJ2_getChars_ba4f3 82 = .ok (.getstatic 403, 3) := dko_178 dwJ2_getChars_ba4f3_82
theorem dJ2_getChars_ba4f3_85 : decode cJ2_getChars_ba4f3 85 = .ok (.iload_n 0, 1) := dko_26 (dk_t 3 85 [26, 116, 51, 184, 0, 111, 26, 16, 247] dwJ2_getChars_ba4f3_82 rfl rfl)
theorem dJ2_getChars_ba4f3_86 : decode cJ2_getChars_ba4f3 86 = .ok (.ineg, 1) := dko_116 (dk_t 4 86 [116, 51, 184, 0, 111, 26, 16, 247] dwJ2_getChars_ba4f3_82 rfl rfl)
theorem dJ2_getChars_ba4f3_87 : decode cJ2_getChars_ba4f3 87 = .ok (.baload, 1) := dko_51 (dk_t 5 87 [51, 184, 0, 111, 26, 16, 247] dwJ2_getChars_ba4f3_82 rfl rfl)
theorem dJ2_getChars_ba4f3_88 : decode cJ2_getChars_ba4f3 88 = .ok (.invokestatic 111, 3) := dko_184 (dk_t 6 88 [184, 0, 111, 26, 16, 247] dwJ2_getChars_ba4f3_82 rfl rfl)
theorem dJ2_getChars_ba4f3_91 : decode cJ2_getChars_ba4f3 91 = .ok (.iload_n 0, 1) := dko_26 (dk_t 9 91 [26, 16, 247] dwJ2_getChars_ba4f3_82 rfl rfl)
theorem dJ2_getChars_ba4f3_92 : decode cJ2_getChars_ba4f3 92 = .ok (.bipush (-9), 2) := dko_16 (dk_t 10 92 [16, 247] dwJ2_getChars_ba4f3_82 rfl rfl)
theorem dwJ2_getChars_ba4f3_94 : dkW cJ2_getChars_ba4f3 94 [162, 0, 18, 44, 132, 5, 255, 21, 5, 178, 1, 151, 26, 116] = true := by decide +kernel
theorem dJ2_getChars_ba4f3_94 : decode cJ2_getChars_ba4f3 94 = .ok (.if_icmp .ge 18, 3) := dko_162 dwJ2_getChars_ba4f3_94
theorem dJ2_getChars_ba4f3_97 : decode cJ2_getChars_ba4f3 97 = .ok (.aload_n 2, 1) := dko_44 (dk_t 3 97 [44, 132, 5, 255, 21, 5, 178, 1, 151, 26, 116] dwJ2_getChars_ba4f3_94 rfl rfl)
theorem dJ2_getChars_ba4f3_98 : decode cJ2_getChars_ba4f3 98 = .ok (.iinc 5 (-1), 3) := dko_132 (dk_t 4 98 [132, 5, 255, 21, 5, 178, 1, 151, 26, 116] dwJ2_getChars_ba4f3_94 rfl rfl)
theorem dJ2_getChars_ba4f3_101 : decode cJ2_getChars_ba4f3 101 = .ok (.iload 5, 2) := dko_21 (dk_t 7 101 [21, 5, 178, 1, 151, 26, 116] dwJ2_getChars_ba4f3_94 rfl rfl)
theorem dJ2_getChars_ba4f3_103 : decode cJ2_getChars_ba4f3 103 = .ok (.getstatic 407, 3) := dko_178 (dk_t 9 103 [178, 1, 151, 26, 116] dwJ2_getChars_ba4f3_94 rfl rfl)
theorem dJ2_getChars_ba4f3_106 : decode cJ2_getChars_ba4f3 106 = .ok (.iload_n 0, 1) := dko_26 (dk_t 12 106 [26, 116] dwJ2_getChars_ba4f3_94 rfl rfl)
theorem dJ2_getChars_ba4f3_107 : decode cJ2_getChars_ba4f3 107 = .ok (.ineg, 1) := dko_116 (dk_t 13 107 [116] dwJ2_getChars_ba4f3_94 rfl rfl)
theorem dwJ2_getChars_ba4f3_108 : dkW cJ2_getChars_ba4f3 108 [51, 184, 0, 111, 21, 6, 153, 0, 14, 44, 132, 5, 255] = true := by decide +kernel
theorem dJ2_getChars_ba4f3_108 : decode cJ2_getChars_ba4f3 108 = .ok (.baload, 1) := dko_51 dwJ2_getChars_ba4f3_108
theorem dJ2_getChars_ba4f3_109 : decode cJ2_getChars_ba4f3 109 = .ok (.invokestatic 111, 3) := dko_184 (dk_t 1 109 [184, 0, 111, 21, 6, 153, 0, 14, 44, 132, 5, 255] dwJ2_getChars_ba4f3_108 rfl rfl)
theorem dJ2_getChars_ba4f3_112 : decode cJ2_getChars_ba4f3 112 = .ok (.iload 6, 2) := dko_21 (dk_t 4 112 [21, 6, 153, 0, 14, 44, 132, 5, 255] dwJ2_getChars_ba4f3_108 rfl rfl)
theorem dJ2_getChars_ba4f3_114 : decode cJ2_getChars_ba4f3 114 = .ok (.ifCond .eq 14, 3) := dko_153 (dk_t 6 114 [153, 0, 14, 44, 132, 5, 255] dwJ2_getChars_ba4f3_108 rfl rfl)
theorem dJ2_getChars_ba4f3_117 : decode cJ2_getChars_ba4f3 117 = .ok (.aload_n 2, 1) := dko_44 (dk_t 9 117 [44, 132, 5, 255] dwJ2_getChars_ba4f3_108 rfl rfl)
theorem dJ2_getChars_ba4f3_118 : decode cJ2_getChars_ba4f3 118 = .ok (.iinc 5 (-1), 3) := dko_132 (dk_t 10 118 [132, 5, 255] dwJ2_getChars_ba4f3_108 rfl rfl)
theorem dwJ2_getChars_ba4f3_121 : dkW cJ2_getChars_ba4f3 121 [21, 5, 16, 45, 184, 0, 111, 21, 5, 172] = true := by decide +kernel
theorem dJ2_getChars_ba4f3_121 : decode cJ2_getChars_ba4f3 121 = .ok (.iload 5, 2) := dko_21 dwJ2_getChars_ba4f3_121
theorem dJ2_getChars_ba4f3_123 : decode cJ2_getChars_ba4f3 123 = .ok (.bipush 45, 2) := dko_16 (dk_t 2 123 [16, 45, 184, 0, 111, 21, 5, 172] dwJ2_getChars_ba4f3_121 rfl rfl)
theorem dJ2_getChars_ba4f3_125 : decode cJ2_getChars_ba4f3 125 = .ok (.invokestatic 111, 3) := dko_184 (dk_t 4 125 [184, 0, 111, 21, 5, 172] dwJ2_getChars_ba4f3_121 rfl rfl)
theorem dJ2_getChars_ba4f3_128 : decode cJ2_getChars_ba4f3 128 = .ok (.iload 5, 2) := dko_21 (dk_t 7 128 [21, 5, 172] dwJ2_getChars_ba4f3_121 rfl rfl)
theorem dJ2_getChars_ba4f3_130 : decode cJ2_getChars_ba4f3 130 = .ok (.ireturn, 1) := dko_172 (dk_t 9 130 [172] dwJ2_getChars_ba4f3_121 rfl rfl)
theorem dwJ2_checkIndex_2214a_0 : dkW cJ2_checkIndex_2214a 0 [26, 43, 184, 0, 48, 184, 1, 158, 177] = true := by decide +kernel
theorem dJ2_checkIndex_2214a_0 : decode cJ2_checkIndex_2214a 0 = .ok (.iload_n 0, 1) := dko_26 dwJ2_checkIndex_2214a_0
theorem dJ2_checkIndex_2214a_1 : decode cJ2_checkIndex_2214a 1 = .ok (.aload_n 1, 1) := dko_43 (dk_t 1 1 [43, 184, 0, 48, 184, 1, 158, 177] dwJ2_checkIndex_2214a_0 rfl rfl)
theorem dJ2_checkIndex_2214a_2 : decode cJ2_checkIndex_2214a 2 = .ok (.invokestatic 48, 3) := dko_184 (dk_t 2 2 [184, 0, 48, 184, 1, 158, 177] dwJ2_checkIndex_2214a_0 rfl rfl)
theorem dJ2_checkIndex_2214a_5 : decode cJ2_checkIndex_2214a 5 = .ok (.invokestatic 414, 3) := dko_184 (dk_t 5 5 [184, 1, 158, 177] dwJ2_checkIndex_2214a_0 rfl rfl)
theorem dJ2_checkIndex_2214a_8 : decode cJ2_checkIndex_2214a 8 = .ok (.return_, 1) := dko_177 (dk_t 8 8 [177] dwJ2_checkIndex_2214a_0 rfl rfl)
theorem dwJ2_checkBoundsBeginEnd_d044e_0 : dkW cJ2_checkBoundsBeginEnd_d044e 0 [26, 27, 44, 184, 0, 48, 184, 0, 241, 177] = true := by decide +kernel
theorem dJ2_checkBoundsBeginEnd_d044e_0 : decode cJ2_checkBoundsBeginEnd_d044e 0 = .ok (.iload_n 0, 1) := dko_26 dwJ2_checkBoundsBeginEnd_d044e_0
theorem dJ2_checkBoundsBeginEnd_d044e_1 : decode cJ2_checkBoundsBeginEnd_d044e 1 = .ok (.iload_n 1, 1) := dko_27 (dk_t 1 1 [27, 44, 184, 0, 48, 184, 0, 241, 177] dwJ2_checkBoundsBeginEnd_d044e_0 rfl rfl)
theorem dJ2_checkBoundsBeginEnd_d044e_2 : decode cJ2_checkBoundsBeginEnd_d044e 2 = .ok (.aload_n 2, 1) := dko_44 (dk_t 2 2 [44, 184, 0, 48, 184, 0, 241, 177] dwJ2_checkBoundsBeginEnd_d044e_0 rfl rfl)
theorem dJ2_checkBoundsBeginEnd_d044e_3 : decode cJ2_checkBoundsBeginEnd_d044e 3 = .ok (.invokestatic 48, 3) := dko_184 (dk_t 3 3 [184, 0, 48, 184, 0, 241, 177] dwJ2_checkBoundsBeginEnd_d044e_0 rfl rfl)
theorem dJ2_checkBoundsBeginEnd_d044e_6 : decode cJ2_checkBoundsBeginEnd_d044e 6 = .ok (.invokestatic 241, 3) := dko_184 (dk_t 6 6 [184, 0, 241, 177] dwJ2_checkBoundsBeginEnd_d044e_0 rfl rfl)
theorem dJ2_checkBoundsBeginEnd_d044e_9 : decode cJ2_checkBoundsBeginEnd_d044e 9 = .ok (.return_, 1) := dko_177 (dk_t 9 9 [177] dwJ2_checkBoundsBeginEnd_d044e_0 rfl rfl)
theorem dwJ2_checkBoundsOffCount_d044e_0 : dkW cJ2_checkBoundsOffCount_d044e 0 [26, 27, 44, 184, 0, 48, 184, 1, 163, 87, 177] = true := by decide +kernel
theorem dJ2_checkBoundsOffCount_d044e_0 : decode cJ2_checkBoundsOffCount_d044e 0 = .ok (.iload_n 0, 1) := dko_26 dwJ2_checkBoundsOffCount_d044e_0
theorem dJ2_checkBoundsOffCount_d044e_1 : decode cJ2_checkBoundsOffCount_d044e 1 = .ok (.iload_n 1, 1) := dko_27 (dk_t 1 1 [27, 44, 184, 0, 48, 184, 1, 163, 87, 177] dwJ2_checkBoundsOffCount_d044e_0 rfl rfl)
theorem dJ2_checkBoundsOffCount_d044e_2 : decode cJ2_checkBoundsOffCount_d044e 2 = .ok (.aload_n 2, 1) := dko_44 (dk_t 2 2 [44, 184, 0, 48, 184, 1, 163, 87, 177] dwJ2_checkBoundsOffCount_d044e_0 rfl rfl)
theorem dJ2_checkBoundsOffCount_d044e_3 : decode cJ2_checkBoundsOffCount_d044e 3 = .ok (.invokestatic 48, 3) := dko_184 (dk_t 3 3 [184, 0, 48, 184, 1, 163, 87, 177] dwJ2_checkBoundsOffCount_d044e_0 rfl rfl)
theorem dJ2_checkBoundsOffCount_d044e_6 : decode cJ2_checkBoundsOffCount_d044e 6 = .ok (.invokestatic 419, 3) := dko_184 (dk_t 6 6 [184, 1, 163, 87, 177] dwJ2_checkBoundsOffCount_d044e_0 rfl rfl)
theorem dJ2_checkBoundsOffCount_d044e_9 : decode cJ2_checkBoundsOffCount_d044e 9 = .ok (.pop, 1) := dko_87 (dk_t 9 9 [87, 177] dwJ2_checkBoundsOffCount_d044e_0 rfl rfl)
theorem dJ2_checkBoundsOffCount_d044e_10 : decode cJ2_checkBoundsOffCount_d044e 10 = .ok (.return_, 1) := dko_177 (dk_t 10 10 [177] dwJ2_checkBoundsOffCount_d044e_0 rfl rfl)
theorem dwJ7_rangeCheck_23922_0 : dkW cJ7_rangeCheck_23922 0 [27, 28, 164, 0, 44, 187, 0, 43, 89, 187, 0, 45, 89] = true := by decide +kernel
theorem dJ7_rangeCheck_23922_0 : decode cJ7_rangeCheck_23922 0 = .ok (.iload_n 1, 1) := dko_27 dwJ7_rangeCheck_23922_0
theorem dJ7_rangeCheck_23922_1 : decode cJ7_rangeCheck_23922 1 = .ok (.iload_n 2, 1) := dko_28 (dk_t 1 1 [28, 164, 0, 44, 187, 0, 43, 89, 187, 0, 45, 89] dwJ7_rangeCheck_23922_0 rfl rfl)
theorem dJ7_rangeCheck_23922_2 : decode cJ7_rangeCheck_23922 2 = .ok (.if_icmp .le 44, 3) := dko_164 (dk_t 2 2 [164, 0, 44, 187, 0, 43, 89, 187, 0, 45, 89] dwJ7_rangeCheck_23922_0 rfl rfl)
theorem dJ7_rangeCheck_23922_5 : decode cJ7_rangeCheck_23922 5 = .ok (.new 43, 3) := dko_187 (dk_t 5 5 [187, 0, 43, 89, 187, 0, 45, 89] dwJ7_rangeCheck_23922_0 rfl rfl)
theorem dJ7_rangeCheck_23922_8 : decode cJ7_rangeCheck_23922 8 = .ok (.dup, 1) := dko_89 (dk_t 8 8 [89, 187, 0, 45, 89] dwJ7_rangeCheck_23922_0 rfl rfl)
theorem dJ7_rangeCheck_23922_9 : decode cJ7_rangeCheck_23922 9 = .ok (.new 45, 3) := dko_187 (dk_t 9 9 [187, 0, 45, 89] dwJ7_rangeCheck_23922_0 rfl rfl)
theorem dJ7_rangeCheck_23922_12 : decode cJ7_rangeCheck_23922 12 = .ok (.dup, 1) := dko_89 (dk_t 12 12 [89] dwJ7_rangeCheck_23922_0 rfl rfl)
theorem dwJ7_rangeCheck_23922_13 : dkW cJ7_rangeCheck_23922 13 [183, 0, 47, 18, 48, 182, 0, 50, 27, 182, 0, 54, 18, 57] = true := by decide +kernel
theorem dJ7_rangeCheck_23922_13 : decode cJ7_rangeCheck_23922 13 = .ok (.invokespecial 47, 3) := dko_183 dwJ7_rangeCheck_23922_13
theorem dJ7_rangeCheck_23922_16 : decode cJ7_rangeCheck_23922 16 = .ok (.ldc 48, 2) := dko_18 (dk_t 3 16 [18, 48, 182, 0, 50, 27, 182, 0, 54, 18, 57] dwJ7_rangeCheck_23922_13 rfl rfl)
theorem dJ7_rangeCheck_23922_18 : decode cJ7_rangeCheck_23922 18 = .ok (.invokevirtual 50, 3) := dko_182 (dk_t 5 18 [182, 0, 50, 27, 182, 0, 54, 18, 57] dwJ7_rangeCheck_23922_13 rfl rfl)
theorem dJ7_rangeCheck_23922_21 : decode cJ7_rangeCheck_23922 21 = .ok (.iload_n 1, 1) := dko_27 (dk_t 8 21 [27, 182, 0, 54, 18, 57] dwJ7_rangeCheck_23922_13 rfl rfl)
theorem dJ7_rangeCheck_23922_22 : decode cJ7_rangeCheck_23922 22 = .ok (.invokevirtual 54, 3) := dko_182 (dk_t 9 22 [182, 0, 54, 18, 57] dwJ7_rangeCheck_23922_13 rfl rfl)
theorem dJ7_rangeCheck_23922_25 : decode cJ7_rangeCheck_23922 25 = .ok (.ldc 57, 2) := dko_18 (dk_t 12 25 [18, 57] dwJ7_rangeCheck_23922_13 rfl rfl)
theorem dwJ7_rangeCheck_23922_27 : dkW cJ7_rangeCheck_23922 27 [182, 0, 50, 28, 182, 0, 54, 18, 59, 182, 0, 50] = true := by decide +kernel
theorem dJ7_rangeCheck_23922_27 : decode cJ7_rangeCheck_23922 27 = .ok (.invokevirtual 50, 3) := dko_182 dwJ7_rangeCheck_23922_27
theorem dJ7_rangeCheck_23922_30 : decode cJ7_rangeCheck_23922 30 = .ok (.iload_n 2, 1) := dko_28 (dk_t 3 30 [28, 182, 0, 54, 18, 59, 182, 0, 50] dwJ7_rangeCheck_23922_27 rfl rfl)
theorem dJ7_rangeCheck_23922_31 : decode cJ7_rangeCheck_23922 31 = .ok (.invokevirtual 54, 3) := dko_182 (dk_t 4 31 [182, 0, 54, 18, 59, 182, 0, 50] dwJ7_rangeCheck_23922_27 rfl rfl)
theorem dJ7_rangeCheck_23922_34 : decode cJ7_rangeCheck_23922 34 = .ok (.ldc 59, 2) := dko_18 (dk_t 7 34 [18, 59, 182, 0, 50] dwJ7_rangeCheck_23922_27 rfl rfl)
theorem dJ7_rangeCheck_23922_36 : decode cJ7_rangeCheck_23922 36 = .ok (.invokevirtual 50, 3) := dko_182 (dk_t 9 36 [182, 0, 50] dwJ7_rangeCheck_23922_27 rfl rfl)
theorem dwJ7_rangeCheck_23922_39 : dkW cJ7_rangeCheck_23922 39 [182, 0, 61, 183, 0, 65, 191, 27, 156, 0, 12, 187, 0, 68] = true := by decide +kernel
theorem dJ7_rangeCheck_23922_39 : decode cJ7_rangeCheck_23922 39 = .ok (.invokevirtual 61, 3) := dko_182 dwJ7_rangeCheck_23922_39
theorem dJ7_rangeCheck_23922_42 : decode cJ7_rangeCheck_23922 42 = .ok (.invokespecial 65, 3) := dko_183 (dk_t 3 42 [183, 0, 65, 191, 27, 156, 0, 12, 187, 0, 68] dwJ7_rangeCheck_23922_39 rfl rfl)
theorem dJ7_rangeCheck_23922_45 : decode cJ7_rangeCheck_23922 45 = .ok (.athrow, 1) := dko_191 (dk_t 6 45 [191, 27, 156, 0, 12, 187, 0, 68] dwJ7_rangeCheck_23922_39 rfl rfl)
theorem dJ7_rangeCheck_23922_46 : decode cJ7_rangeCheck_23922 46 = .ok (.iload_n 1, 1) := dko_27 (dk_t 7 46 [27, 156, 0, 12, 187, 0, 68] dwJ7_rangeCheck_23922_39 rfl rfl)
theorem dJ7_rangeCheck_23922_47 : decode cJ7_rangeCheck_23922 47 = .ok (.ifCond .ge 12, 3) := dko_156 (dk_t 8 47 [156, 0, 12, 187, 0, 68] dwJ7_rangeCheck_23922_39 rfl rfl)
theorem dJ7_rangeCheck_23922_50 : decode cJ7_rangeCheck_23922 50 = .ok (.new 68, 3) := dko_187 (dk_t 11 50 [187, 0, 68] dwJ7_rangeCheck_23922_39 rfl rfl)
theorem dwJ7_rangeCheck_23922_53 : dkW cJ7_rangeCheck_23922 53 [89, 27, 183, 0, 70, 191, 28, 26, 164, 0, 12, 187, 0, 68] = true := by decide +kernel
theorem dJ7_rangeCheck_23922_53 : decode cJ7_rangeCheck_23922 53 = .ok (.dup, 1) := dko_89 dwJ7_rangeCheck_23922_53
theorem dJ7_rangeCheck_23922_54 : decode cJ7_rangeCheck_23922 54 = .ok (.iload_n 1, 1) := dko_27 (dk_t 1 54 [27, 183, 0, 70, 191, 28, 26, 164, 0, 12, 187, 0, 68] dwJ7_rangeCheck_23922_53 rfl rfl)
theorem dJ7_rangeCheck_23922_55 : decode cJ7_rangeCheck_23922 55 = .ok (.invokespecial 70, 3) := dko_183 (dk_t 2 55 [183, 0, 70, 191, 28, 26, 164, 0, 12, 187, 0, 68] dwJ7_rangeCheck_23922_53 rfl rfl)
theorem dJ7_rangeCheck_23922_58 : decode cJ7_rangeCheck_23922 58 = .ok (.athrow, 1) := dko_191 (dk_t 5 58 [191, 28, 26, 164, 0, 12, 187, 0, 68] dwJ7_rangeCheck_23922_53 rfl rfl)
theorem dJ7_rangeCheck_23922_59 : decode cJ7_rangeCheck_23922 59 = .ok (.iload_n 2, 1) := dko_28 (dk_t 6 59 [28, 26, 164, 0, 12, 187, 0, 68] dwJ7_rangeCheck_23922_53 rfl rfl)
theorem dJ7_rangeCheck_23922_60 : decode cJ7_rangeCheck_23922 60 = .ok (.iload_n 0, 1) := dko_26 (dk_t 7 60 [26, 164, 0, 12, 187, 0, 68] dwJ7_rangeCheck_23922_53 rfl rfl)
theorem dJ7_rangeCheck_23922_61 : decode cJ7_rangeCheck_23922 61 = .ok (.if_icmp .le 12, 3) := dko_164 (dk_t 8 61 [164, 0, 12, 187, 0, 68] dwJ7_rangeCheck_23922_53 rfl rfl)
theorem dJ7_rangeCheck_23922_64 : decode cJ7_rangeCheck_23922 64 = .ok (.new 68, 3) := dko_187 (dk_t 11 64 [187, 0, 68] dwJ7_rangeCheck_23922_53 rfl rfl)
theorem dwJ7_rangeCheck_23922_67 : dkW cJ7_rangeCheck_23922 67 [89, 28, 183, 0, 70, 191, 177] = true := by decide +kernel
theorem dJ7_rangeCheck_23922_67 : decode cJ7_rangeCheck_23922 67 = .ok (.dup, 1) := dko_89 dwJ7_rangeCheck_23922_67
theorem dJ7_rangeCheck_23922_68 : decode cJ7_rangeCheck_23922 68 = .ok (.iload_n 2, 1) := dko_28 (dk_t 1 68 [28, 183, 0, 70, 191, 177] dwJ7_rangeCheck_23922_67 rfl rfl)
theorem dJ7_rangeCheck_23922_69 : decode cJ7_rangeCheck_23922 69 = .ok (.invokespecial 70, 3) := dko_183 (dk_t 2 69 [183, 0, 70, 191, 177] dwJ7_rangeCheck_23922_67 rfl rfl)
theorem dJ7_rangeCheck_23922_72 : decode cJ7_rangeCheck_23922 72 = .ok (.athrow, 1) := dko_191 (dk_t 5 72 [191, 177] dwJ7_rangeCheck_23922_67 rfl rfl)
theorem dJ7_rangeCheck_23922_73 : decode cJ7_rangeCheck_23922 73 = .ok (.return_, 1) := dko_177 (dk_t 6 73 [177] dwJ7_rangeCheck_23922_67 rfl rfl)
theorem dwJ7_fill_eb02e_0 : dkW cJ7_fill_eb02e 0 [42, 190, 27, 28, 184, 0, 13, 27, 54, 4, 21, 4, 28] = true := by decide +kernel
theorem dJ7_fill_eb02e_0 : decode cJ7_fill_eb02e 0 = .ok (.aload_n 0, 1) := dko_42 dwJ7_fill_eb02e_0
theorem dJ7_fill_eb02e_1 : decode cJ7_fill_eb02e 1 = .ok (.arraylength, 1) := dko_190 (dk_t 1 1 [190, 27, 28, 184, 0, 13, 27, 54, 4, 21, 4, 28] dwJ7_fill_eb02e_0 rfl rfl)
theorem dJ7_fill_eb02e_2 : decode cJ7_fill_eb02e 2 = .ok (.iload_n 1, 1) := dko_27 (dk_t 2 2 [27, 28, 184, 0, 13, 27, 54, 4, 21, 4, 28] dwJ7_fill_eb02e_0 rfl rfl)
theorem dJ7_fill_eb02e_3 : decode cJ7_fill_eb02e 3 = .ok (.iload_n 2, 1) := dko_28 (dk_t 3 3 [28, 184, 0, 13, 27, 54, 4, 21, 4, 28] dwJ7_fill_eb02e_0 rfl rfl)
theorem dJ7_fill_eb02e_4 : decode cJ7_fill_eb02e 4 = .ok (.invokestatic 13, 3) := dko_184 (dk_t 4 4 [184, 0, 13, 27, 54, 4, 21, 4, 28] dwJ7_fill_eb02e_0 rfl rfl)
theorem dJ7_fill_eb02e_7 : decode cJ7_fill_eb02e 7 = .ok (.iload_n 1, 1) := dko_27 (dk_t 7 7 [27, 54, 4, 21, 4, 28] dwJ7_fill_eb02e_0 rfl rfl)
theorem dJ7_fill_eb02e_8 : decode cJ7_fill_eb02e 8 = .ok (.istore 4, 2) := dko_54 (dk_t 8 8 [54, 4, 21, 4, 28] dwJ7_fill_eb02e_0 rfl rfl)
theorem dJ7_fill_eb02e_10 : decode cJ7_fill_eb02e 10 = .ok (.iload 4, 2) := dko_21 (dk_t 10 10 [21, 4, 28] dwJ7_fill_eb02e_0 rfl rfl)
theorem dJ7_fill_eb02e_12 : decode cJ7_fill_eb02e 12 = .ok (.iload_n 2, 1) := dko_28 (dk_t 12 12 [28] dwJ7_fill_eb02e_0 rfl rfl)
theorem dwJ7_fill_eb02e_13 : dkW cJ7_fill_eb02e 13 [162, 0, 14, 42, 21, 4, 29, 84, 132, 4, 1, 167, 255, 242] = true := by decide +kernel
theorem dJ7_fill_eb02e_13 : decode cJ7_fill_eb02e 13 = .ok (.if_icmp .ge 14, 3) := dko_162 dwJ7_fill_eb02e_13
theorem dJ7_fill_eb02e_16 : decode cJ7_fill_eb02e 16 = .ok (.aload_n 0, 1) := dko_42 (dk_t 3 16 [42, 21, 4, 29, 84, 132, 4, 1, 167, 255, 242] dwJ7_fill_eb02e_13 rfl rfl)
theorem dJ7_fill_eb02e_17 : decode cJ7_fill_eb02e 17 = .ok (.iload 4, 2) := dko_21 (dk_t 4 17 [21, 4, 29, 84, 132, 4, 1, 167, 255, 242] dwJ7_fill_eb02e_13 rfl rfl)
theorem dJ7_fill_eb02e_19 : decode cJ7_fill_eb02e 19 = .ok (.iload_n 3, 1) := dko_29 (dk_t 6 19 [29, 84, 132, 4, 1, 167, 255, 242] dwJ7_fill_eb02e_13 rfl rfl)
theorem dJ7_fill_eb02e_20 : decode cJ7_fill_eb02e 20 = .ok (.bastore, 1) := dko_84 (dk_t 7 20 [84, 132, 4, 1, 167, 255, 242] dwJ7_fill_eb02e_13 rfl rfl)
theorem dJ7_fill_eb02e_21 : decode cJ7_fill_eb02e 21 = .ok (.iinc 4 1, 3) := dko_132 (dk_t 8 21 [132, 4, 1, 167, 255, 242] dwJ7_fill_eb02e_13 rfl rfl)
theorem dJ7_fill_eb02e_24 : decode cJ7_fill_eb02e 24 = .ok (.goto (-14), 3) := dko_167 (dk_t 11 24 [167, 255, 242] dwJ7_fill_eb02e_13 rfl rfl)
theorem dwJ7_fill_eb02e_27 : dkW cJ7_fill_eb02e 27 [177] = true := by decide +kernel
theorem dJ7_fill_eb02e_27 : decode cJ7_fill_eb02e 27 = .ok (.return_, 1) := dko_177 dwJ7_fill_eb02e_27
theorem dwJ7_copyOf_9075b_0 : dkW cJ7_copyOf_9075b 0 [27, 42, 190, 160, 0, 11, 42, 182, 1, 54, 192, 1, 55, 176] = true := by decide +kernel
theorem dJ7_copyOf_9075b_0 : decode cJ7_copyOf_9075b 0 = .ok (.iload_n 1, 1) := dko_27 dwJ7_copyOf_9075b_0
theorem dJ7_copyOf_9075b_1 : decode cJ7_copyOf_9075b 1 = .ok (.aload_n 0, 1) := dko_42 (dk_t 1 1 [42, 190, 160, 0, 11, 42, 182, 1, 54, 192, 1, 55, 176] dwJ7_copyOf_9075b_0 rfl rfl)
theorem dJ7_copyOf_9075b_2 : decode cJ7_copyOf_9075b 2 = .ok (.arraylength, 1) := dko_190 (dk_t 2 2 [190, 160, 0, 11, 42, 182, 1, 54, 192, 1, 55, 176] dwJ7_copyOf_9075b_0 rfl rfl)
theorem dJ7_copyOf_9075b_3 : decode cJ7_copyOf_9075b 3 = .ok (.if_icmp .ne 11, 3) := dko_160 (dk_t 3 3 [160, 0, 11, 42, 182, 1, 54, 192, 1, 55, 176] dwJ7_copyOf_9075b_0 rfl rfl)
theorem dJ7_copyOf_9075b_6 : decode cJ7_copyOf_9075b 6 = .ok (.aload_n 0, 1) := dko_42 (dk_t 6 6 [42, 182, 1, 54, 192, 1, 55, 176] dwJ7_copyOf_9075b_0 rfl rfl)
theorem dJ7_copyOf_9075b_7 : decode cJ7_copyOf_9075b 7 = .ok (.invokevirtual 310, 3) := dko_182 (dk_t 7 7 [182, 1, 54, 192, 1, 55, 176] dwJ7_copyOf_9075b_0 rfl rfl)
theorem dJ7_copyOf_9075b_10 : decode cJ7_copyOf_9075b 10 = .ok (.checkcast 311, 3) := dko_192 (dk_t 10 10 [192, 1, 55, 176] dwJ7_copyOf_9075b_0 rfl rfl)
theorem dJ7_copyOf_9075b_13 : decode cJ7_copyOf_9075b 13 = .ok (.areturn, 1) := dko_176 (dk_t 13 13 [176] dwJ7_copyOf_9075b_0 rfl rfl)
theorem dwJ7_copyOf_9075b_14 : dkW cJ7_copyOf_9075b 14 [27, 188, 8, 77, 42, 3, 44, 3, 42, 190, 27, 184, 1, 48] = true := by decide +kernel
theorem dJ7_copyOf_9075b_14 : decode cJ7_copyOf_9075b 14 = .ok (.iload_n 1, 1) := dko_27 dwJ7_copyOf_9075b_14
theorem dJ7_copyOf_9075b_15 : decode cJ7_copyOf_9075b 15 = .ok (.newarray .byte, 2) := dko_188_8 (dk_t 1 15 [188, 8, 77, 42, 3, 44, 3, 42, 190, 27, 184, 1, 48] dwJ7_copyOf_9075b_14 rfl rfl)
theorem dJ7_copyOf_9075b_17 : decode cJ7_copyOf_9075b 17 = .ok (.astore_n 2, 1) := dko_77 (dk_t 3 17 [77, 42, 3, 44, 3, 42, 190, 27, 184, 1, 48] dwJ7_copyOf_9075b_14 rfl rfl)
theorem dJ7_copyOf_9075b_18 : decode cJ7_copyOf_9075b 18 = .ok (.aload_n 0, 1) := dko_42 (dk_t 4 18 [42, 3, 44, 3, 42, 190, 27, 184, 1, 48] dwJ7_copyOf_9075b_14 rfl rfl)
theorem dJ7_copyOf_9075b_19 : decode cJ7_copyOf_9075b 19 = .ok (.iconst 0, 1) := dko_3 (dk_t 5 19 [3, 44, 3, 42, 190, 27, 184, 1, 48] dwJ7_copyOf_9075b_14 rfl rfl)
theorem dJ7_copyOf_9075b_20 : decode cJ7_copyOf_9075b 20 = .ok (.aload_n 2, 1) := dko_44 (dk_t 6 20 [44, 3, 42, 190, 27, 184, 1, 48] dwJ7_copyOf_9075b_14 rfl rfl)
theorem dJ7_copyOf_9075b_21 : decode cJ7_copyOf_9075b 21 = .ok (.iconst 0, 1) := dko_3 (dk_t 7 21 [3, 42, 190, 27, 184, 1, 48] dwJ7_copyOf_9075b_14 rfl rfl)
theorem dJ7_copyOf_9075b_22 : decode cJ7_copyOf_9075b 22 = .ok (.aload_n 0, 1) := dko_42 (dk_t 8 22 [42, 190, 27, 184, 1, 48] dwJ7_copyOf_9075b_14 rfl rfl)
theorem dJ7_copyOf_9075b_23 : decode cJ7_copyOf_9075b 23 = .ok (.arraylength, 1) := dko_190 (dk_t 9 23 [190, 27, 184, 1, 48] dwJ7_copyOf_9075b_14 rfl rfl)
theorem dJ7_copyOf_9075b_24 : decode cJ7_copyOf_9075b 24 = .ok (.iload_n 1, 1) := dko_27 (dk_t 10 24 [27, 184, 1, 48] dwJ7_copyOf_9075b_14 rfl rfl)
theorem dJ7_copyOf_9075b_25 : decode cJ7_copyOf_9075b 25 = .ok (.invokestatic 304, 3) := dko_184 (dk_t 11 25 [184, 1, 48] dwJ7_copyOf_9075b_14 rfl rfl)
theorem dwJ7_copyOf_9075b_28 : dkW cJ7_copyOf_9075b 28 [184, 0, 150, 44, 176] = true := by decide +kernel
theorem dJ7_copyOf_9075b_28 : decode cJ7_copyOf_9075b 28 = .ok (.invokestatic 150, 3) := dko_184 dwJ7_copyOf_9075b_28
theorem dJ7_copyOf_9075b_31 : decode cJ7_copyOf_9075b 31 = .ok (.aload_n 2, 1) := dko_44 (dk_t 3 31 [44, 176] dwJ7_copyOf_9075b_28 rfl rfl)
theorem dJ7_copyOf_9075b_32 : decode cJ7_copyOf_9075b 32 = .ok (.areturn, 1) := dko_176 (dk_t 4 32 [176] dwJ7_copyOf_9075b_28 rfl rfl)
theorem dwJ8_newLength_cabcc_0 : dkW cJ8_newLength_cabcc 0 [26, 27, 28, 184, 0, 194, 96, 62, 3, 29, 162, 0, 11, 29] = true := by decide +kernel
theorem dJ8_newLength_cabcc_0 : decode cJ8_newLength_cabcc 0 = .ok (.iload_n 0, 1) := dko_26 dwJ8_newLength_cabcc_0
theorem dJ8_newLength_cabcc_1 : decode cJ8_newLength_cabcc 1 = .ok (.iload_n 1, 1) := dko_27 (dk_t 1 1 [27, 28, 184, 0, 194, 96, 62, 3, 29, 162, 0, 11, 29] dwJ8_newLength_cabcc_0 rfl rfl)
theorem dJ8_newLength_cabcc_2 : decode cJ8_newLength_cabcc 2 = .ok (.iload_n 2, 1) := dko_28 (dk_t 2 2 [28, 184, 0, 194, 96, 62, 3, 29, 162, 0, 11, 29] dwJ8_newLength_cabcc_0 rfl rfl)
theorem dJ8_newLength_cabcc_3 : decode cJ8_newLength_cabcc 3 = .ok (.invokestatic 194, 3) := dko_184 (dk_t 3 3 [184, 0, 194, 96, 62, 3, 29, 162, 0, 11, 29] dwJ8_newLength_cabcc_0 rfl rfl)
theorem dJ8_newLength_cabcc_6 : decode cJ8_newLength_cabcc 6 = .ok (.iadd, 1) := dko_96 (dk_t 6 6 [96, 62, 3, 29, 162, 0, 11, 29] dwJ8_newLength_cabcc_0 rfl rfl)
theorem dJ8_newLength_cabcc_7 : decode cJ8_newLength_cabcc 7 = .ok (.istore_n 3, 1) := dko_62 (dk_t 7 7 [62, 3, 29, 162, 0, 11, 29] dwJ8_newLength_cabcc_0 rfl rfl)
theorem dJ8_newLength_cabcc_8 : decode cJ8_newLength_cabcc 8 = .ok (.iconst 0, 1) := dko_3 (dk_t 8 8 [3, 29, 162, 0, 11, 29] dwJ8_newLength_cabcc_0 rfl rfl)
theorem dJ8_newLength_cabcc_9 : decode cJ8_newLength_cabcc 9 = .ok (.iload_n 3, 1) := dko_29 (dk_t 9 9 [29, 162, 0, 11, 29] dwJ8_newLength_cabcc_0 rfl rfl)
theorem dJ8_newLength_cabcc_10 : decode cJ8_newLength_cabcc 10 = .ok (.if_icmp .ge 11, 3) := dko_162 (dk_t 10 10 [162, 0, 11, 29] dwJ8_newLength_cabcc_0 rfl rfl)
theorem dJ8_newLength_cabcc_13 : decode cJ8_newLength_cabcc 13 = .ok (.iload_n 3, 1) := dko_29 (dk_t 13 13 [29] dwJ8_newLength_cabcc_0 rfl rfl)
theorem dwJ8_newLength_cabcc_14 : dkW cJ8_newLength_cabcc 14 [18, 200, 163, 0, 5, 29, 172, 26, 27, 184, 0, 201, 172] = true := by decide +kernel
theorem dJ8_newLength_cabcc_14 : decode cJ8_newLength_cabcc 14 = .ok (.ldc 200, 2) := dko_18 dwJ8_newLength_cabcc_14
theorem dJ8_newLength_cabcc_16 : decode cJ8_newLength_cabcc 16 = .ok (.if_icmp .gt 5, 3) := dko_163 (dk_t 2 16 [163, 0, 5, 29, 172, 26, 27, 184, 0, 201, 172] dwJ8_newLength_cabcc_14 rfl rfl)
theorem dJ8_newLength_cabcc_19 : decode cJ8_newLength_cabcc 19 = .ok (.iload_n 3, 1) := dko_29 (dk_t 5 19 [29, 172, 26, 27, 184, 0, 201, 172] dwJ8_newLength_cabcc_14 rfl rfl)
theorem dJ8_newLength_cabcc_20 : decode cJ8_newLength_cabcc 20 = .ok (.ireturn, 1) := dko_172 (dk_t 6 20 [172, 26, 27, 184, 0, 201, 172] dwJ8_newLength_cabcc_14 rfl rfl)
theorem dJ8_newLength_cabcc_21 : decode cJ8_newLength_cabcc 21 = .ok (.iload_n 0, 1) := dko_26 (dk_t 7 21 [26, 27, 184, 0, 201, 172] dwJ8_newLength_cabcc_14 rfl rfl)
theorem dJ8_newLength_cabcc_22 : decode cJ8_newLength_cabcc 22 = .ok (.iload_n 1, 1) := dko_27 (dk_t 8 22 [27, 184, 0, 201, 172] dwJ8_newLength_cabcc_14 rfl rfl)
theorem dJ8_newLength_cabcc_23 : decode cJ8_newLength_cabcc 23 = .ok (.invokestatic 201, 3) := dko_184 (dk_t 9 23 [184, 0, 201, 172] dwJ8_newLength_cabcc_14 rfl rfl)
theorem dJ8_newLength_cabcc_26 : decode cJ8_newLength_cabcc 26 = .ok (.ireturn, 1) := dko_172 (dk_t 12 26 [172] dwJ8_newLength_cabcc_14 rfl rfl)
theorem dwJ8_hugeLength_7cf53_0 : dkW cJ8_hugeLength_7cf53 0 [26, 27, 96, 61, 28, 156, 0, 44, 187, 0, 204, 89] = true := by decide +kernel
theorem dJ8_hugeLength_7cf53_0 : decode cJ8_hugeLength_7cf53 0 = .ok (.iload_n 0, 1) := dko_26 dwJ8_hugeLength_7cf53_0
theorem dJ8_hugeLength_7cf53_1 : decode cJ8_hugeLength_7cf53 1 = .ok (.iload_n 1, 1) := dko_27 (dk_t 1 1 [27, 96, 61, 28, 156, 0, 44, 187, 0, 204, 89] dwJ8_hugeLength_7cf53_0 rfl rfl)
theorem dJ8_hugeLength_7cf53_2 : decode cJ8_hugeLength_7cf53 2 = .ok (.iadd, 1) := dko_96 (dk_t 2 2 [96, 61, 28, 156, 0, 44, 187, 0, 204, 89] dwJ8_hugeLength_7cf53_0 rfl rfl)
theorem dJ8_hugeLength_7cf53_3 : decode cJ8_hugeLength_7cf53 3 = .ok (.istore_n 2, 1) := dko_61 (dk_t 3 3 [61, 28, 156, 0, 44, 187, 0, 204, 89] dwJ8_hugeLength_7cf53_0 rfl rfl)
theorem dJ8_hugeLength_7cf53_4 : decode cJ8_hugeLength_7cf53 4 = .ok (.iload_n 2, 1) := dko_28 (dk_t 4 4 [28, 156, 0, 44, 187, 0, 204, 89] dwJ8_hugeLength_7cf53_0 rfl rfl)
theorem dJ8_hugeLength_7cf53_5 : decode cJ8_hugeLength_7cf53 5 = .ok (.ifCond .ge 44, 3) := dko_156 (dk_t 5 5 [156, 0, 44, 187, 0, 204, 89] dwJ8_hugeLength_7cf53_0 rfl rfl)
theorem dJ8_hugeLength_7cf53_8 : decode cJ8_hugeLength_7cf53 8 = .ok (.new 204, 3) := dko_187 (dk_t 8 8 [187, 0, 204, 89] dwJ8_hugeLength_7cf53_0 rfl rfl)
theorem dJ8_hugeLength_7cf53_11 : decode cJ8_hugeLength_7cf53 11 = .ok (.dup, 1) := dko_89 (dk_t 11 11 [89] dwJ8_hugeLength_7cf53_0 rfl rfl)
theorem dwJ8_hugeLength_7cf53_12 : dkW cJ8_hugeLength_7cf53 12 [187, 0, 89, 89, 183, 0, 91, 18, 206, 182, 0, 94, 26] = true := by decide +kernel
theorem dJ8_hugeLength_7cf53_12 : decode cJ8_hugeLength_7cf53 12 = .ok (.new 89, 3) := dko_187 dwJ8_hugeLength_7cf53_12
theorem dJ8_hugeLength_7cf53_15 : decode cJ8_hugeLength_7cf53 15 = .ok (.dup, 1) := dko_89 (dk_t 3 15 [89, 183, 0, 91, 18, 206, 182, 0, 94, 26] dwJ8_hugeLength_7cf53_12 rfl rfl)
theorem dJ8_hugeLength_7cf53_16 : decode cJ8_hugeLength_7cf53 16 = .ok (.invokespecial 91, 3) := dko_183 (dk_t 4 16 [183, 0, 91, 18, 206, 182, 0, 94, 26] dwJ8_hugeLength_7cf53_12 rfl rfl)
theorem dJ8_hugeLength_7cf53_19 : decode cJ8_hugeLength_7cf53 19 = .ok (.ldc 206, 2) := dko_18 (dk_t 7 19 [18, 206, 182, 0, 94, 26] dwJ8_hugeLength_7cf53_12 rfl rfl)
theorem dJ8_hugeLength_7cf53_21 : decode cJ8_hugeLength_7cf53 21 = .ok (.invokevirtual 94, 3) := dko_182 (dk_t 9 21 [182, 0, 94, 26] dwJ8_hugeLength_7cf53_12 rfl rfl)
theorem dJ8_hugeLength_7cf53_24 : decode cJ8_hugeLength_7cf53 24 = .ok (.iload_n 0, 1) := dko_26 (dk_t 12 24 [26] dwJ8_hugeLength_7cf53_12 rfl rfl)
theorem dwJ8_hugeLength_7cf53_25 : dkW cJ8_hugeLength_7cf53 25 [182, 0, 98, 18, 208, 182, 0, 94, 27, 182, 0, 98, 18, 210] = true := by decide +kernel
theorem dJ8_hugeLength_7cf53_25 : decode cJ8_hugeLength_7cf53 25 = .ok (.invokevirtual 98, 3) := dko_182 dwJ8_hugeLength_7cf53_25
theorem dJ8_hugeLength_7cf53_28 : decode cJ8_hugeLength_7cf53 28 = .ok (.ldc 208, 2) := dko_18 (dk_t 3 28 [18, 208, 182, 0, 94, 27, 182, 0, 98, 18, 210] dwJ8_hugeLength_7cf53_25 rfl rfl)
theorem dJ8_hugeLength_7cf53_30 : decode cJ8_hugeLength_7cf53 30 = .ok (.invokevirtual 94, 3) := dko_182 (dk_t 5 30 [182, 0, 94, 27, 182, 0, 98, 18, 210] dwJ8_hugeLength_7cf53_25 rfl rfl)
theorem dJ8_hugeLength_7cf53_33 : decode cJ8_hugeLength_7cf53 33 = .ok (.iload_n 1, 1) := dko_27 (dk_t 8 33 [27, 182, 0, 98, 18, 210] dwJ8_hugeLength_7cf53_25 rfl rfl)
theorem dJ8_hugeLength_7cf53_34 : decode cJ8_hugeLength_7cf53 34 = .ok (.invokevirtual 98, 3) := dko_182 (dk_t 9 34 [182, 0, 98, 18, 210] dwJ8_hugeLength_7cf53_25 rfl rfl)
theorem dJ8_hugeLength_7cf53_37 : decode cJ8_hugeLength_7cf53 37 = .ok (.ldc 210, 2) := dko_18 (dk_t 12 37 [18, 210] dwJ8_hugeLength_7cf53_25 rfl rfl)
theorem dwJ8_hugeLength_7cf53_39 : dkW cJ8_hugeLength_7cf53 39 [182, 0, 94, 182, 0, 101, 183, 0, 212, 191, 28, 18, 200] = true := by decide +kernel
theorem dJ8_hugeLength_7cf53_39 : decode cJ8_hugeLength_7cf53 39 = .ok (.invokevirtual 94, 3) := dko_182 dwJ8_hugeLength_7cf53_39
theorem dJ8_hugeLength_7cf53_42 : decode cJ8_hugeLength_7cf53 42 = .ok (.invokevirtual 101, 3) := dko_182 (dk_t 3 42 [182, 0, 101, 183, 0, 212, 191, 28, 18, 200] dwJ8_hugeLength_7cf53_39 rfl rfl)
theorem dJ8_hugeLength_7cf53_45 : decode cJ8_hugeLength_7cf53 45 = .ok (.invokespecial 212, 3) := dko_183 (dk_t 6 45 [183, 0, 212, 191, 28, 18, 200] dwJ8_hugeLength_7cf53_39 rfl rfl)
theorem dJ8_hugeLength_7cf53_48 : decode cJ8_hugeLength_7cf53 48 = .ok (.athrow, 1) := dko_191 (dk_t 9 48 [191, 28, 18, 200] dwJ8_hugeLength_7cf53_39 rfl rfl)
theorem dJ8_hugeLength_7cf53_49 : decode cJ8_hugeLength_7cf53 49 = .ok (.iload_n 2, 1) := dko_28 (dk_t 10 49 [28, 18, 200] dwJ8_hugeLength_7cf53_39 rfl rfl)
theorem dJ8_hugeLength_7cf53_50 : decode cJ8_hugeLength_7cf53 50 = .ok (.ldc 200, 2) := dko_18 (dk_t 11 50 [18, 200] dwJ8_hugeLength_7cf53_39 rfl rfl)
theorem dwJ8_hugeLength_7cf53_52 : dkW cJ8_hugeLength_7cf53 52 [163, 0, 6, 18, 200, 172, 28, 172] = true := by decide +kernel
theorem dJ8_hugeLength_7cf53_52 : decode cJ8_hugeLength_7cf53 52 = .ok (.if_icmp .gt 6, 3) := dko_163 dwJ8_hugeLength_7cf53_52
theorem dJ8_hugeLength_7cf53_55 : decode cJ8_hugeLength_7cf53 55 = .ok (.ldc 200, 2) := dko_18 (dk_t 3 55 [18, 200, 172, 28, 172] dwJ8_hugeLength_7cf53_52 rfl rfl)
theorem dJ8_hugeLength_7cf53_57 : decode cJ8_hugeLength_7cf53 57 = .ok (.ireturn, 1) := dko_172 (dk_t 5 57 [172, 28, 172] dwJ8_hugeLength_7cf53_52 rfl rfl)
theorem dJ8_hugeLength_7cf53_58 : decode cJ8_hugeLength_7cf53 58 = .ok (.iload_n 2, 1) := dko_28 (dk_t 6 58 [28, 172] dwJ8_hugeLength_7cf53_52 rfl rfl)
theorem dJ8_hugeLength_7cf53_59 : decode cJ8_hugeLength_7cf53 59 = .ok (.ireturn, 1) := dko_172 (dk_t 7 59 [172] dwJ8_hugeLength_7cf53_52 rfl rfl)
theorem dwJ3_checkIndex_8e157_0 : dkW cJ3_checkIndex_8e157 0 [26, 155, 0, 8, 26, 27, 161, 0, 10, 44, 26, 27] = true := by decide +kernel
theorem dJ3_checkIndex_8e157_0 : decode cJ3_checkIndex_8e157 0 = .ok (.iload_n 0, 1) := dko_26 dwJ3_checkIndex_8e157_0
theorem dJ3_checkIndex_8e157_1 : decode cJ3_checkIndex_8e157 1 = .ok (.ifCond .lt 8, 3) := dko_155 (dk_t 1 1 [155, 0, 8, 26, 27, 161, 0, 10, 44, 26, 27] dwJ3_checkIndex_8e157_0 rfl rfl)
theorem dJ3_checkIndex_8e157_4 : decode cJ3_checkIndex_8e157 4 = .ok (.iload_n 0, 1) := dko_26 (dk_t 4 4 [26, 27, 161, 0, 10, 44, 26, 27] dwJ3_checkIndex_8e157_0 rfl rfl)
theorem dJ3_checkIndex_8e157_5 : decode cJ3_checkIndex_8e157 5 = .ok (.iload_n 1, 1) := dko_27 (dk_t 5 5 [27, 161, 0, 10, 44, 26, 27] dwJ3_checkIndex_8e157_0 rfl rfl)
theorem dJ3_checkIndex_8e157_6 : decode cJ3_checkIndex_8e157 6 = .ok (.if_icmp .lt 10, 3) := dko_161 (dk_t 6 6 [161, 0, 10, 44, 26, 27] dwJ3_checkIndex_8e157_0 rfl rfl)
theorem dJ3_checkIndex_8e157_9 : decode cJ3_checkIndex_8e157 9 = .ok (.aload_n 2, 1) := dko_44 (dk_t 9 9 [44, 26, 27] dwJ3_checkIndex_8e157_0 rfl rfl)
theorem dJ3_checkIndex_8e157_10 : decode cJ3_checkIndex_8e157 10 = .ok (.iload_n 0, 1) := dko_26 (dk_t 10 10 [26, 27] dwJ3_checkIndex_8e157_0 rfl rfl)
theorem dJ3_checkIndex_8e157_11 : decode cJ3_checkIndex_8e157 11 = .ok (.iload_n 1, 1) := dko_27 (dk_t 11 11 [27] dwJ3_checkIndex_8e157_0 rfl rfl)
theorem dwJ3_checkIndex_8e157_12 : dkW cJ3_checkIndex_8e157 12 [184, 0, 95, 191, 26, 172] = true := by decide +kernel
theorem dJ3_checkIndex_8e157_12 : decode cJ3_checkIndex_8e157 12 = .ok (.invokestatic 95, 3) := dko_184 dwJ3_checkIndex_8e157_12
theorem dJ3_checkIndex_8e157_15 : decode cJ3_checkIndex_8e157 15 = .ok (.athrow, 1) := dko_191 (dk_t 3 15 [191, 26, 172] dwJ3_checkIndex_8e157_12 rfl rfl)
theorem dJ3_checkIndex_8e157_16 : decode cJ3_checkIndex_8e157 16 = .ok (.iload_n 0, 1) := dko_26 (dk_t 4 16 [26, 172] dwJ3_checkIndex_8e157_12 rfl rfl)
theorem dJ3_checkIndex_8e157_17 : decode cJ3_checkIndex_8e157 17 = .ok (.ireturn, 1) := dko_172 (dk_t 5 17 [172] dwJ3_checkIndex_8e157_12 rfl rfl)
theorem dwJ3_checkFromToIndex_8c36e_0 : dkW cJ3_checkFromToIndex_8c36e 0 [26, 155, 0, 13, 26, 27, 163, 0, 8, 27, 28, 164, 0, 11] = true := by decide +kernel
theorem dJ3_checkFromToIndex_8c36e_0 : decode cJ3_checkFromToIndex_8c36e 0 = .ok (.iload_n 0, 1) := dko_26 dwJ3_checkFromToIndex_8c36e_0
theorem dJ3_checkFromToIndex_8c36e_1 : decode cJ3_checkFromToIndex_8c36e 1 = .ok (.ifCond .lt 13, 3) := dko_155 (dk_t 1 1 [155, 0, 13, 26, 27, 163, 0, 8, 27, 28, 164, 0, 11] dwJ3_checkFromToIndex_8c36e_0 rfl rfl)
theorem dJ3_checkFromToIndex_8c36e_4 : decode cJ3_checkFromToIndex_8c36e 4 = .ok (.iload_n 0, 1) := dko_26 (dk_t 4 4 [26, 27, 163, 0, 8, 27, 28, 164, 0, 11] dwJ3_checkFromToIndex_8c36e_0 rfl rfl)
theorem dJ3_checkFromToIndex_8c36e_5 : decode cJ3_checkFromToIndex_8c36e 5 = .ok (.iload_n 1, 1) := dko_27 (dk_t 5 5 [27, 163, 0, 8, 27, 28, 164, 0, 11] dwJ3_checkFromToIndex_8c36e_0 rfl rfl)
theorem dJ3_checkFromToIndex_8c36e_6 : decode cJ3_checkFromToIndex_8c36e 6 = .ok (.if_icmp .gt 8, 3) := dko_163 (dk_t 6 6 [163, 0, 8, 27, 28, 164, 0, 11] dwJ3_checkFromToIndex_8c36e_0 rfl rfl)
theorem dJ3_checkFromToIndex_8c36e_9 : decode cJ3_checkFromToIndex_8c36e 9 = .ok (.iload_n 1, 1) := dko_27 (dk_t 9 9 [27, 28, 164, 0, 11] dwJ3_checkFromToIndex_8c36e_0 rfl rfl)
theorem dJ3_checkFromToIndex_8c36e_10 : decode cJ3_checkFromToIndex_8c36e 10 = .ok (.iload_n 2, 1) := dko_28 (dk_t 10 10 [28, 164, 0, 11] dwJ3_checkFromToIndex_8c36e_0 rfl rfl)
theorem dJ3_checkFromToIndex_8c36e_11 : decode cJ3_checkFromToIndex_8c36e 11 = .ok (.if_icmp .le 11, 3) := dko_164 (dk_t 11 11 [164, 0, 11] dwJ3_checkFromToIndex_8c36e_0 rfl rfl)
theorem dwJ3_checkFromToIndex_8c36e_14 : dkW cJ3_checkFromToIndex_8c36e 14 [45, 26, 27, 28, 184, 0, 99, 191, 26, 172] = true := by decide +kernel
theorem dJ3_checkFromToIndex_8c36e_14 : decode cJ3_checkFromToIndex_8c36e 14 = .ok (.aload_n 3, 1) := dko_45 dwJ3_checkFromToIndex_8c36e_14
theorem dJ3_checkFromToIndex_8c36e_15 : decode cJ3_checkFromToIndex_8c36e 15 = .ok (.iload_n 0, 1) := dko_26 (dk_t 1 15 [26, 27, 28, 184, 0, 99, 191, 26, 172] dwJ3_checkFromToIndex_8c36e_14 rfl rfl)
theorem dJ3_checkFromToIndex_8c36e_16 : decode cJ3_checkFromToIndex_8c36e 16 = .ok (.iload_n 1, 1) := dko_27 (dk_t 2 16 [27, 28, 184, 0, 99, 191, 26, 172] dwJ3_checkFromToIndex_8c36e_14 rfl rfl)
theorem dJ3_checkFromToIndex_8c36e_17 : decode cJ3_checkFromToIndex_8c36e 17 = .ok (.iload_n 2, 1) := dko_28 (dk_t 3 17 [28, 184, 0, 99, 191, 26, 172] dwJ3_checkFromToIndex_8c36e_14 rfl rfl)
theorem dJ3_checkFromToIndex_8c36e_18 : decode cJ3_checkFromToIndex_8c36e 18 = .ok (.invokestatic 99, 3) := dko_184 (dk_t 4 18 [184, 0, 99, 191, 26, 172] dwJ3_checkFromToIndex_8c36e_14 rfl rfl)
theorem dJ3_checkFromToIndex_8c36e_21 : decode cJ3_checkFromToIndex_8c36e 21 = .ok (.athrow, 1) := dko_191 (dk_t 7 21 [191, 26, 172] dwJ3_checkFromToIndex_8c36e_14 rfl rfl)
theorem dJ3_checkFromToIndex_8c36e_22 : decode cJ3_checkFromToIndex_8c36e 22 = .ok (.iload_n 0, 1) := dko_26 (dk_t 8 22 [26, 172] dwJ3_checkFromToIndex_8c36e_14 rfl rfl)
theorem dJ3_checkFromToIndex_8c36e_23 : decode cJ3_checkFromToIndex_8c36e 23 = .ok (.ireturn, 1) := dko_172 (dk_t 9 23 [172] dwJ3_checkFromToIndex_8c36e_14 rfl rfl)
theorem dwJ3_checkFromIndexSize_8c36e_0 : dkW cJ3_checkFromIndexSize_8c36e 0 [28, 26, 128, 27, 128, 155, 0, 10, 27, 28, 26, 100] = true := by decide +kernel
theorem dJ3_checkFromIndexSize_8c36e_0 : decode cJ3_checkFromIndexSize_8c36e 0 = .ok (.iload_n 2, 1) := dko_28 dwJ3_checkFromIndexSize_8c36e_0
theorem dJ3_checkFromIndexSize_8c36e_1 : decode cJ3_checkFromIndexSize_8c36e 1 = .ok (.iload_n 0, 1) := dko_26 (dk_t 1 1 [26, 128, 27, 128, 155, 0, 10, 27, 28, 26, 100] dwJ3_checkFromIndexSize_8c36e_0 rfl rfl)
theorem dJ3_checkFromIndexSize_8c36e_2 : decode cJ3_checkFromIndexSize_8c36e 2 = .ok (.ior, 1) := dko_128 (dk_t 2 2 [128, 27, 128, 155, 0, 10, 27, 28, 26, 100] dwJ3_checkFromIndexSize_8c36e_0 rfl rfl)
theorem dJ3_checkFromIndexSize_8c36e_3 : decode cJ3_checkFromIndexSize_8c36e 3 = .ok (.iload_n 1, 1) := dko_27 (dk_t 3 3 [27, 128, 155, 0, 10, 27, 28, 26, 100] dwJ3_checkFromIndexSize_8c36e_0 rfl rfl)
theorem dJ3_checkFromIndexSize_8c36e_4 : decode cJ3_checkFromIndexSize_8c36e 4 = .ok (.ior, 1) := dko_128 (dk_t 4 4 [128, 155, 0, 10, 27, 28, 26, 100] dwJ3_checkFromIndexSize_8c36e_0 rfl rfl)
theorem dJ3_checkFromIndexSize_8c36e_5 : decode cJ3_checkFromIndexSize_8c36e 5 = .ok (.ifCond .lt 10, 3) := dko_155 (dk_t 5 5 [155, 0, 10, 27, 28, 26, 100] dwJ3_checkFromIndexSize_8c36e_0 rfl rfl)
theorem dJ3_checkFromIndexSize_8c36e_8 : decode cJ3_checkFromIndexSize_8c36e 8 = .ok (.iload_n 1, 1) := dko_27 (dk_t 8 8 [27, 28, 26, 100] dwJ3_checkFromIndexSize_8c36e_0 rfl rfl)
theorem dJ3_checkFromIndexSize_8c36e_9 : decode cJ3_checkFromIndexSize_8c36e 9 = .ok (.iload_n 2, 1) := dko_28 (dk_t 9 9 [28, 26, 100] dwJ3_checkFromIndexSize_8c36e_0 rfl rfl)
theorem dJ3_checkFromIndexSize_8c36e_10 : decode cJ3_checkFromIndexSize_8c36e 10 = .ok (.iload_n 0, 1) := dko_26 (dk_t 10 10 [26, 100] dwJ3_checkFromIndexSize_8c36e_0 rfl rfl)
theorem dJ3_checkFromIndexSize_8c36e_11 : decode cJ3_checkFromIndexSize_8c36e 11 = .ok (.isub, 1) := dko_100 (dk_t 11 11 [100] dwJ3_checkFromIndexSize_8c36e_0 rfl rfl)
theorem dwJ3_checkFromIndexSize_8c36e_12 : dkW cJ3_checkFromIndexSize_8c36e 12 [164, 0, 11, 45, 26, 27, 28, 184, 0, 103, 191, 26, 172] = true := by decide +kernel
theorem dJ3_checkFromIndexSize_8c36e_12 : decode cJ3_checkFromIndexSize_8c36e 12 = .ok (.if_icmp .le 11, 3) := dko_164 dwJ3_checkFromIndexSize_8c36e_12
theorem dJ3_checkFromIndexSize_8c36e_15 : decode cJ3_checkFromIndexSize_8c36e 15 = .ok (.aload_n 3, 1) := dko_45 (dk_t 3 15 [45, 26, 27, 28, 184, 0, 103, 191, 26, 172] dwJ3_checkFromIndexSize_8c36e_12 rfl rfl)
theorem dJ3_checkFromIndexSize_8c36e_16 : decode cJ3_checkFromIndexSize_8c36e 16 = .ok (.iload_n 0, 1) := dko_26 (dk_t 4 16 [26, 27, 28, 184, 0, 103, 191, 26, 172] dwJ3_checkFromIndexSize_8c36e_12 rfl rfl)
theorem dJ3_checkFromIndexSize_8c36e_17 : decode cJ3_checkFromIndexSize_8c36e 17 = .ok (.iload_n 1, 1) := dko_27 (dk_t 5 17 [27, 28, 184, 0, 103, 191, 26, 172] dwJ3_checkFromIndexSize_8c36e_12 rfl rfl)
theorem dJ3_checkFromIndexSize_8c36e_18 : decode cJ3_checkFromIndexSize_8c36e 18 = .ok (.iload_n 2, 1) := dko_28 (dk_t 6 18 [28, 184, 0, 103, 191, 26, 172] dwJ3_checkFromIndexSize_8c36e_12 rfl rfl)
theorem dJ3_checkFromIndexSize_8c36e_19 : decode cJ3_checkFromIndexSize_8c36e 19 = .ok (.invokestatic 103, 3) := dko_184 (dk_t 7 19 [184, 0, 103, 191, 26, 172] dwJ3_checkFromIndexSize_8c36e_12 rfl rfl)
theorem dJ3_checkFromIndexSize_8c36e_22 : decode cJ3_checkFromIndexSize_8c36e 22 = .ok (.athrow, 1) := dko_191 (dk_t 10 22 [191, 26, 172] dwJ3_checkFromIndexSize_8c36e_12 rfl rfl)
theorem dJ3_checkFromIndexSize_8c36e_23 : decode cJ3_checkFromIndexSize_8c36e 23 = .ok (.iload_n 0, 1) := dko_26 (dk_t 11 23 [26, 172] dwJ3_checkFromIndexSize_8c36e_12 rfl rfl)
theorem dJ3_checkFromIndexSize_8c36e_24 : decode cJ3_checkFromIndexSize_8c36e 24 = .ok (.ireturn, 1) := dko_172 (dk_t 12 24 [172] dwJ3_checkFromIndexSize_8c36e_12 rfl rfl)
