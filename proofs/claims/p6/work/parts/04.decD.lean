theorem gdJ5_init_d00df_0 : (decode cJ5_init_d00df 0 = .ok (.aload_n 0, 1)) ∧ (decode cJ5_init_d00df 1 = .ok (.invokespecial 3, 3)) ∧ (decode cJ5_init_d00df 4 = .ok (.getstatic 18, 3)) ∧ (decode cJ5_init_d00df 7 = .ok (.ifCond .eq 18, 3)) ∧ (decode cJ5_init_d00df 10 = .ok (.aload_n 0, 1)) ∧ (decode cJ5_init_d00df 11 = .ok (.iload_n 1, 1)) ∧ (decode cJ5_init_d00df 12 = .ok (.newarray .byte, 2)) ∧ (decode cJ5_init_d00df 14 = .ok (.putfield 15, 3)) := by decide +kernel
def dJ5_init_d00df_0 := gdJ5_init_d00df_0.1
def dJ5_init_d00df_1 := gdJ5_init_d00df_0.2.1
def dJ5_init_d00df_4 := gdJ5_init_d00df_0.2.2.1
def dJ5_init_d00df_7 := gdJ5_init_d00df_0.2.2.2.1
def dJ5_init_d00df_10 := gdJ5_init_d00df_0.2.2.2.2.1
def dJ5_init_d00df_11 := gdJ5_init_d00df_0.2.2.2.2.2.1
def dJ5_init_d00df_12 := gdJ5_init_d00df_0.2.2.2.2.2.2.1
def dJ5_init_d00df_14 := gdJ5_init_d00df_0.2.2.2.2.2.2.2
theorem gdJ5_init_d00df_17 : (decode cJ5_init_d00df 17 = .ok (.aload_n 0, 1)) ∧ (decode cJ5_init_d00df 18 = .ok (.iconst 0, 1)) ∧ (decode cJ5_init_d00df 19 = .ok (.putfield 22, 3)) ∧ (decode cJ5_init_d00df 22 = .ok (.goto 16, 3)) ∧ (decode cJ5_init_d00df 25 = .ok (.aload_n 0, 1)) ∧ (decode cJ5_init_d00df 26 = .ok (.iload_n 1, 1)) ∧ (decode cJ5_init_d00df 27 = .ok (.invokestatic 26, 3)) ∧ (decode cJ5_init_d00df 30 = .ok (.putfield 15, 3)) := by decide +kernel
def dJ5_init_d00df_17 := gdJ5_init_d00df_17.1
def dJ5_init_d00df_18 := gdJ5_init_d00df_17.2.1
def dJ5_init_d00df_19 := gdJ5_init_d00df_17.2.2.1
def dJ5_init_d00df_22 := gdJ5_init_d00df_17.2.2.2.1
def dJ5_init_d00df_25 := gdJ5_init_d00df_17.2.2.2.2.1
def dJ5_init_d00df_26 := gdJ5_init_d00df_17.2.2.2.2.2.1
def dJ5_init_d00df_27 := gdJ5_init_d00df_17.2.2.2.2.2.2.1
def dJ5_init_d00df_30 := gdJ5_init_d00df_17.2.2.2.2.2.2.2
theorem gdJ5_init_d00df_33 : (decode cJ5_init_d00df 33 = .ok (.aload_n 0, 1)) ∧ (decode cJ5_init_d00df 34 = .ok (.iconst 1, 1)) ∧ (decode cJ5_init_d00df 35 = .ok (.putfield 22, 3)) ∧ (decode cJ5_init_d00df 38 = .ok (.return_, 1)) := by decide +kernel
def dJ5_init_d00df_33 := gdJ5_init_d00df_33.1
def dJ5_init_d00df_34 := gdJ5_init_d00df_33.2.1
def dJ5_init_d00df_35 := gdJ5_init_d00df_33.2.2.1
def dJ5_init_d00df_38 := gdJ5_init_d00df_33.2.2.2
theorem gdJ5_length_8abf5_0 : (decode cJ5_length_8abf5 0 = .ok (.aload_n 0, 1)) ∧ (decode cJ5_length_8abf5 1 = .ok (.getfield 79, 3)) ∧ (decode cJ5_length_8abf5 4 = .ok (.ireturn, 1)) := by decide +kernel
def dJ5_length_8abf5_0 := gdJ5_length_8abf5_0.1
def dJ5_length_8abf5_1 := gdJ5_length_8abf5_0.2.1
def dJ5_length_8abf5_4 := gdJ5_length_8abf5_0.2.2
theorem gdJ5_ensureCapacityInternal_d00df_0 : (decode cJ5_ensureCapacityInternal_d00df 0 = .ok (.aload_n 0, 1)) ∧ (decode cJ5_ensureCapacityInternal_d00df 1 = .ok (.getfield 15, 3)) ∧ (decode cJ5_ensureCapacityInternal_d00df 4 = .ok (.arraylength, 1)) ∧ (decode cJ5_ensureCapacityInternal_d00df 5 = .ok (.aload_n 0, 1)) ∧ (decode cJ5_ensureCapacityInternal_d00df 6 = .ok (.getfield 22, 3)) ∧ (decode cJ5_ensureCapacityInternal_d00df 9 = .ok (.ishr, 1)) ∧ (decode cJ5_ensureCapacityInternal_d00df 10 = .ok (.istore_n 2, 1)) ∧ (decode cJ5_ensureCapacityInternal_d00df 11 = .ok (.iload_n 1, 1)) := by decide +kernel
def dJ5_ensureCapacityInternal_d00df_0 := gdJ5_ensureCapacityInternal_d00df_0.1
def dJ5_ensureCapacityInternal_d00df_1 := gdJ5_ensureCapacityInternal_d00df_0.2.1
def dJ5_ensureCapacityInternal_d00df_4 := gdJ5_ensureCapacityInternal_d00df_0.2.2.1
def dJ5_ensureCapacityInternal_d00df_5 := gdJ5_ensureCapacityInternal_d00df_0.2.2.2.1
def dJ5_ensureCapacityInternal_d00df_6 := gdJ5_ensureCapacityInternal_d00df_0.2.2.2.2.1
def dJ5_ensureCapacityInternal_d00df_9 := gdJ5_ensureCapacityInternal_d00df_0.2.2.2.2.2.1
def dJ5_ensureCapacityInternal_d00df_10 := gdJ5_ensureCapacityInternal_d00df_0.2.2.2.2.2.2.1
def dJ5_ensureCapacityInternal_d00df_11 := gdJ5_ensureCapacityInternal_d00df_0.2.2.2.2.2.2.2
theorem gdJ5_ensureCapacityInternal_d00df_12 : (decode cJ5_ensureCapacityInternal_d00df 12 = .ok (.iload_n 2, 1)) ∧ (decode cJ5_ensureCapacityInternal_d00df 13 = .ok (.isub, 1)) ∧ (decode cJ5_ensureCapacityInternal_d00df 14 = .ok (.ifCond .le 24, 3)) ∧ (decode cJ5_ensureCapacityInternal_d00df 17 = .ok (.aload_n 0, 1)) ∧ (decode cJ5_ensureCapacityInternal_d00df 18 = .ok (.aload_n 0, 1)) ∧ (decode cJ5_ensureCapacityInternal_d00df 19 = .ok (.getfield 15, 3)) ∧ (decode cJ5_ensureCapacityInternal_d00df 22 = .ok (.aload_n 0, 1)) ∧ (decode cJ5_ensureCapacityInternal_d00df 23 = .ok (.iload_n 1, 1)) := by decide +kernel
def dJ5_ensureCapacityInternal_d00df_12 := gdJ5_ensureCapacityInternal_d00df_12.1
def dJ5_ensureCapacityInternal_d00df_13 := gdJ5_ensureCapacityInternal_d00df_12.2.1
def dJ5_ensureCapacityInternal_d00df_14 := gdJ5_ensureCapacityInternal_d00df_12.2.2.1
def dJ5_ensureCapacityInternal_d00df_17 := gdJ5_ensureCapacityInternal_d00df_12.2.2.2.1
def dJ5_ensureCapacityInternal_d00df_18 := gdJ5_ensureCapacityInternal_d00df_12.2.2.2.2.1
def dJ5_ensureCapacityInternal_d00df_19 := gdJ5_ensureCapacityInternal_d00df_12.2.2.2.2.2.1
def dJ5_ensureCapacityInternal_d00df_22 := gdJ5_ensureCapacityInternal_d00df_12.2.2.2.2.2.2.1
def dJ5_ensureCapacityInternal_d00df_23 := gdJ5_ensureCapacityInternal_d00df_12.2.2.2.2.2.2.2
theorem gdJ5_ensureCapacityInternal_d00df_24 : (decode cJ5_ensureCapacityInternal_d00df 24 = .ok (.invokevirtual 104, 3)) ∧ (decode cJ5_ensureCapacityInternal_d00df 27 = .ok (.aload_n 0, 1)) ∧ (decode cJ5_ensureCapacityInternal_d00df 28 = .ok (.getfield 22, 3)) ∧ (decode cJ5_ensureCapacityInternal_d00df 31 = .ok (.ishl, 1)) ∧ (decode cJ5_ensureCapacityInternal_d00df 32 = .ok (.invokestatic 108, 3)) ∧ (decode cJ5_ensureCapacityInternal_d00df 35 = .ok (.putfield 15, 3)) ∧ (decode cJ5_ensureCapacityInternal_d00df 38 = .ok (.return_, 1)) := by decide +kernel
def dJ5_ensureCapacityInternal_d00df_24 := gdJ5_ensureCapacityInternal_d00df_24.1
def dJ5_ensureCapacityInternal_d00df_27 := gdJ5_ensureCapacityInternal_d00df_24.2.1
def dJ5_ensureCapacityInternal_d00df_28 := gdJ5_ensureCapacityInternal_d00df_24.2.2.1
def dJ5_ensureCapacityInternal_d00df_31 := gdJ5_ensureCapacityInternal_d00df_24.2.2.2.1
def dJ5_ensureCapacityInternal_d00df_32 := gdJ5_ensureCapacityInternal_d00df_24.2.2.2.2.1
def dJ5_ensureCapacityInternal_d00df_35 := gdJ5_ensureCapacityInternal_d00df_24.2.2.2.2.2.1
def dJ5_ensureCapacityInternal_d00df_38 := gdJ5_ensureCapacityInternal_d00df_24.2.2.2.2.2.2
theorem gdJ5_newCapacity_0f7a4_0 : (decode cJ5_newCapacity_0f7a4 0 = .ok (.aload_n 0, 1)) ∧ (decode cJ5_newCapacity_0f7a4 1 = .ok (.getfield 15, 3)) ∧ (decode cJ5_newCapacity_0f7a4 4 = .ok (.arraylength, 1)) ∧ (decode cJ5_newCapacity_0f7a4 5 = .ok (.istore_n 2, 1)) ∧ (decode cJ5_newCapacity_0f7a4 6 = .ok (.iload_n 1, 1)) ∧ (decode cJ5_newCapacity_0f7a4 7 = .ok (.aload_n 0, 1)) ∧ (decode cJ5_newCapacity_0f7a4 8 = .ok (.getfield 22, 3)) ∧ (decode cJ5_newCapacity_0f7a4 11 = .ok (.ishl, 1)) := by decide +kernel
def dJ5_newCapacity_0f7a4_0 := gdJ5_newCapacity_0f7a4_0.1
def dJ5_newCapacity_0f7a4_1 := gdJ5_newCapacity_0f7a4_0.2.1
def dJ5_newCapacity_0f7a4_4 := gdJ5_newCapacity_0f7a4_0.2.2.1
def dJ5_newCapacity_0f7a4_5 := gdJ5_newCapacity_0f7a4_0.2.2.2.1
def dJ5_newCapacity_0f7a4_6 := gdJ5_newCapacity_0f7a4_0.2.2.2.2.1
def dJ5_newCapacity_0f7a4_7 := gdJ5_newCapacity_0f7a4_0.2.2.2.2.2.1
def dJ5_newCapacity_0f7a4_8 := gdJ5_newCapacity_0f7a4_0.2.2.2.2.2.2.1
def dJ5_newCapacity_0f7a4_11 := gdJ5_newCapacity_0f7a4_0.2.2.2.2.2.2.2
theorem gdJ5_newCapacity_0f7a4_12 : (decode cJ5_newCapacity_0f7a4 12 = .ok (.istore_n 3, 1)) ∧ (decode cJ5_newCapacity_0f7a4 13 = .ok (.iload_n 3, 1)) ∧ (decode cJ5_newCapacity_0f7a4 14 = .ok (.iload_n 2, 1)) ∧ (decode cJ5_newCapacity_0f7a4 15 = .ok (.isub, 1)) ∧ (decode cJ5_newCapacity_0f7a4 16 = .ok (.istore 4, 2)) ∧ (decode cJ5_newCapacity_0f7a4 18 = .ok (.iload_n 2, 1)) ∧ (decode cJ5_newCapacity_0f7a4 19 = .ok (.iload 4, 2)) ∧ (decode cJ5_newCapacity_0f7a4 21 = .ok (.iload_n 2, 1)) := by decide +kernel
def dJ5_newCapacity_0f7a4_12 := gdJ5_newCapacity_0f7a4_12.1
def dJ5_newCapacity_0f7a4_13 := gdJ5_newCapacity_0f7a4_12.2.1
def dJ5_newCapacity_0f7a4_14 := gdJ5_newCapacity_0f7a4_12.2.2.1
def dJ5_newCapacity_0f7a4_15 := gdJ5_newCapacity_0f7a4_12.2.2.2.1
def dJ5_newCapacity_0f7a4_16 := gdJ5_newCapacity_0f7a4_12.2.2.2.2.1
def dJ5_newCapacity_0f7a4_18 := gdJ5_newCapacity_0f7a4_12.2.2.2.2.2.1
def dJ5_newCapacity_0f7a4_19 := gdJ5_newCapacity_0f7a4_12.2.2.2.2.2.2.1
def dJ5_newCapacity_0f7a4_21 := gdJ5_newCapacity_0f7a4_12.2.2.2.2.2.2.2
theorem gdJ5_newCapacity_0f7a4_22 : (decode cJ5_newCapacity_0f7a4 22 = .ok (.iconst 2, 1)) ∧ (decode cJ5_newCapacity_0f7a4 23 = .ok (.aload_n 0, 1)) ∧ (decode cJ5_newCapacity_0f7a4 24 = .ok (.getfield 22, 3)) ∧ (decode cJ5_newCapacity_0f7a4 27 = .ok (.ishl, 1)) ∧ (decode cJ5_newCapacity_0f7a4 28 = .ok (.iadd, 1)) ∧ (decode cJ5_newCapacity_0f7a4 29 = .ok (.invokestatic 114, 3)) ∧ (decode cJ5_newCapacity_0f7a4 32 = .ok (.istore 5, 2)) ∧ (decode cJ5_newCapacity_0f7a4 34 = .ok (.iload 5, 2)) := by decide +kernel
def dJ5_newCapacity_0f7a4_22 := gdJ5_newCapacity_0f7a4_22.1
def dJ5_newCapacity_0f7a4_23 := gdJ5_newCapacity_0f7a4_22.2.1
def dJ5_newCapacity_0f7a4_24 := gdJ5_newCapacity_0f7a4_22.2.2.1
def dJ5_newCapacity_0f7a4_27 := gdJ5_newCapacity_0f7a4_22.2.2.2.1
def dJ5_newCapacity_0f7a4_28 := gdJ5_newCapacity_0f7a4_22.2.2.2.2.1
def dJ5_newCapacity_0f7a4_29 := gdJ5_newCapacity_0f7a4_22.2.2.2.2.2.1
def dJ5_newCapacity_0f7a4_32 := gdJ5_newCapacity_0f7a4_22.2.2.2.2.2.2.1
def dJ5_newCapacity_0f7a4_34 := gdJ5_newCapacity_0f7a4_22.2.2.2.2.2.2.2
theorem gdJ5_newCapacity_0f7a4_36 : (decode cJ5_newCapacity_0f7a4 36 = .ok (.ldc 39, 2)) ∧ (decode cJ5_newCapacity_0f7a4 38 = .ok (.if_icmp .ne 13, 3)) ∧ (decode cJ5_newCapacity_0f7a4 41 = .ok (.new 120, 3)) ∧ (decode cJ5_newCapacity_0f7a4 44 = .ok (.dup, 1)) ∧ (decode cJ5_newCapacity_0f7a4 45 = .ok (.ldc 122, 2)) ∧ (decode cJ5_newCapacity_0f7a4 47 = .ok (.invokespecial 124, 3)) ∧ (decode cJ5_newCapacity_0f7a4 50 = .ok (.athrow, 1)) ∧ (decode cJ5_newCapacity_0f7a4 51 = .ok (.iload 5, 2)) := by decide +kernel
def dJ5_newCapacity_0f7a4_36 := gdJ5_newCapacity_0f7a4_36.1
def dJ5_newCapacity_0f7a4_38 := gdJ5_newCapacity_0f7a4_36.2.1
def dJ5_newCapacity_0f7a4_41 := gdJ5_newCapacity_0f7a4_36.2.2.1
def dJ5_newCapacity_0f7a4_44 := gdJ5_newCapacity_0f7a4_36.2.2.2.1
def dJ5_newCapacity_0f7a4_45 := gdJ5_newCapacity_0f7a4_36.2.2.2.2.1
def dJ5_newCapacity_0f7a4_47 := gdJ5_newCapacity_0f7a4_36.2.2.2.2.2.1
def dJ5_newCapacity_0f7a4_50 := gdJ5_newCapacity_0f7a4_36.2.2.2.2.2.2.1
def dJ5_newCapacity_0f7a4_51 := gdJ5_newCapacity_0f7a4_36.2.2.2.2.2.2.2
theorem gdJ5_newCapacity_0f7a4_53 : (decode cJ5_newCapacity_0f7a4 53 = .ok (.aload_n 0, 1)) ∧ (decode cJ5_newCapacity_0f7a4 54 = .ok (.getfield 22, 3)) ∧ (decode cJ5_newCapacity_0f7a4 57 = .ok (.ishr, 1)) ∧ (decode cJ5_newCapacity_0f7a4 58 = .ok (.ireturn, 1)) := by decide +kernel
def dJ5_newCapacity_0f7a4_53 := gdJ5_newCapacity_0f7a4_53.1
def dJ5_newCapacity_0f7a4_54 := gdJ5_newCapacity_0f7a4_53.2.1
def dJ5_newCapacity_0f7a4_57 := gdJ5_newCapacity_0f7a4_53.2.2.1
def dJ5_newCapacity_0f7a4_58 := gdJ5_newCapacity_0f7a4_53.2.2.2
theorem gdJ5_inflate_da8c8_0 : (decode cJ5_inflate_da8c8 0 = .ok (.aload_n 0, 1)) ∧ (decode cJ5_inflate_da8c8 1 = .ok (.invokevirtual 83, 3)) ∧ (decode cJ5_inflate_da8c8 4 = .ok (.ifCond .ne 4, 3)) ∧ (decode cJ5_inflate_da8c8 7 = .ok (.return_, 1)) ∧ (decode cJ5_inflate_da8c8 8 = .ok (.aload_n 0, 1)) ∧ (decode cJ5_inflate_da8c8 9 = .ok (.getfield 15, 3)) ∧ (decode cJ5_inflate_da8c8 12 = .ok (.arraylength, 1)) ∧ (decode cJ5_inflate_da8c8 13 = .ok (.invokestatic 26, 3)) := by decide +kernel
def dJ5_inflate_da8c8_0 := gdJ5_inflate_da8c8_0.1
def dJ5_inflate_da8c8_1 := gdJ5_inflate_da8c8_0.2.1
def dJ5_inflate_da8c8_4 := gdJ5_inflate_da8c8_0.2.2.1
def dJ5_inflate_da8c8_7 := gdJ5_inflate_da8c8_0.2.2.2.1
def dJ5_inflate_da8c8_8 := gdJ5_inflate_da8c8_0.2.2.2.2.1
def dJ5_inflate_da8c8_9 := gdJ5_inflate_da8c8_0.2.2.2.2.2.1
def dJ5_inflate_da8c8_12 := gdJ5_inflate_da8c8_0.2.2.2.2.2.2.1
def dJ5_inflate_da8c8_13 := gdJ5_inflate_da8c8_0.2.2.2.2.2.2.2
theorem gdJ5_inflate_da8c8_16 : (decode cJ5_inflate_da8c8 16 = .ok (.astore_n 1, 1)) ∧ (decode cJ5_inflate_da8c8 17 = .ok (.aload_n 0, 1)) ∧ (decode cJ5_inflate_da8c8 18 = .ok (.getfield 15, 3)) ∧ (decode cJ5_inflate_da8c8 21 = .ok (.iconst 0, 1)) ∧ (decode cJ5_inflate_da8c8 22 = .ok (.aload_n 1, 1)) ∧ (decode cJ5_inflate_da8c8 23 = .ok (.iconst 0, 1)) ∧ (decode cJ5_inflate_da8c8 24 = .ok (.aload_n 0, 1)) ∧ (decode cJ5_inflate_da8c8 25 = .ok (.getfield 79, 3)) := by decide +kernel
def dJ5_inflate_da8c8_16 := gdJ5_inflate_da8c8_16.1
def dJ5_inflate_da8c8_17 := gdJ5_inflate_da8c8_16.2.1
def dJ5_inflate_da8c8_18 := gdJ5_inflate_da8c8_16.2.2.1
def dJ5_inflate_da8c8_21 := gdJ5_inflate_da8c8_16.2.2.2.1
def dJ5_inflate_da8c8_22 := gdJ5_inflate_da8c8_16.2.2.2.2.1
def dJ5_inflate_da8c8_23 := gdJ5_inflate_da8c8_16.2.2.2.2.2.1
def dJ5_inflate_da8c8_24 := gdJ5_inflate_da8c8_16.2.2.2.2.2.2.1
def dJ5_inflate_da8c8_25 := gdJ5_inflate_da8c8_16.2.2.2.2.2.2.2
theorem gdJ5_inflate_da8c8_28 : (decode cJ5_inflate_da8c8 28 = .ok (.invokestatic 125, 3)) ∧ (decode cJ5_inflate_da8c8 31 = .ok (.aload_n 0, 1)) ∧ (decode cJ5_inflate_da8c8 32 = .ok (.aload_n 1, 1)) ∧ (decode cJ5_inflate_da8c8 33 = .ok (.putfield 15, 3)) ∧ (decode cJ5_inflate_da8c8 36 = .ok (.aload_n 0, 1)) ∧ (decode cJ5_inflate_da8c8 37 = .ok (.iconst 1, 1)) ∧ (decode cJ5_inflate_da8c8 38 = .ok (.putfield 22, 3)) ∧ (decode cJ5_inflate_da8c8 41 = .ok (.return_, 1)) := by decide +kernel
def dJ5_inflate_da8c8_28 := gdJ5_inflate_da8c8_28.1
def dJ5_inflate_da8c8_31 := gdJ5_inflate_da8c8_28.2.1
def dJ5_inflate_da8c8_32 := gdJ5_inflate_da8c8_28.2.2.1
def dJ5_inflate_da8c8_33 := gdJ5_inflate_da8c8_28.2.2.2.1
def dJ5_inflate_da8c8_36 := gdJ5_inflate_da8c8_28.2.2.2.2.1
def dJ5_inflate_da8c8_37 := gdJ5_inflate_da8c8_28.2.2.2.2.2.1
def dJ5_inflate_da8c8_38 := gdJ5_inflate_da8c8_28.2.2.2.2.2.2.1
def dJ5_inflate_da8c8_41 := gdJ5_inflate_da8c8_28.2.2.2.2.2.2.2
theorem gdJ5_setLength_d00df_0 : (decode cJ5_setLength_d00df 0 = .ok (.iload_n 1, 1)) ∧ (decode cJ5_setLength_d00df 1 = .ok (.ifCond .ge 12, 3)) ∧ (decode cJ5_setLength_d00df 4 = .ok (.new 129, 3)) ∧ (decode cJ5_setLength_d00df 7 = .ok (.dup, 1)) ∧ (decode cJ5_setLength_d00df 8 = .ok (.iload_n 1, 1)) ∧ (decode cJ5_setLength_d00df 9 = .ok (.invokespecial 131, 3)) ∧ (decode cJ5_setLength_d00df 12 = .ok (.athrow, 1)) ∧ (decode cJ5_setLength_d00df 13 = .ok (.aload_n 0, 1)) := by decide +kernel
def dJ5_setLength_d00df_0 := gdJ5_setLength_d00df_0.1
def dJ5_setLength_d00df_1 := gdJ5_setLength_d00df_0.2.1
def dJ5_setLength_d00df_4 := gdJ5_setLength_d00df_0.2.2.1
def dJ5_setLength_d00df_7 := gdJ5_setLength_d00df_0.2.2.2.1
def dJ5_setLength_d00df_8 := gdJ5_setLength_d00df_0.2.2.2.2.1
def dJ5_setLength_d00df_9 := gdJ5_setLength_d00df_0.2.2.2.2.2.1
def dJ5_setLength_d00df_12 := gdJ5_setLength_d00df_0.2.2.2.2.2.2.1
def dJ5_setLength_d00df_13 := gdJ5_setLength_d00df_0.2.2.2.2.2.2.2
theorem gdJ5_setLength_d00df_14 : (decode cJ5_setLength_d00df 14 = .ok (.iload_n 1, 1)) ∧ (decode cJ5_setLength_d00df 15 = .ok (.invokevirtual 100, 3)) ∧ (decode cJ5_setLength_d00df 18 = .ok (.aload_n 0, 1)) ∧ (decode cJ5_setLength_d00df 19 = .ok (.getfield 79, 3)) ∧ (decode cJ5_setLength_d00df 22 = .ok (.iload_n 1, 1)) ∧ (decode cJ5_setLength_d00df 23 = .ok (.if_icmp .ge 40, 3)) ∧ (decode cJ5_setLength_d00df 26 = .ok (.aload_n 0, 1)) ∧ (decode cJ5_setLength_d00df 27 = .ok (.invokevirtual 83, 3)) := by decide +kernel
def dJ5_setLength_d00df_14 := gdJ5_setLength_d00df_14.1
def dJ5_setLength_d00df_15 := gdJ5_setLength_d00df_14.2.1
def dJ5_setLength_d00df_18 := gdJ5_setLength_d00df_14.2.2.1
def dJ5_setLength_d00df_19 := gdJ5_setLength_d00df_14.2.2.2.1
def dJ5_setLength_d00df_22 := gdJ5_setLength_d00df_14.2.2.2.2.1
def dJ5_setLength_d00df_23 := gdJ5_setLength_d00df_14.2.2.2.2.2.1
def dJ5_setLength_d00df_26 := gdJ5_setLength_d00df_14.2.2.2.2.2.2.1
def dJ5_setLength_d00df_27 := gdJ5_setLength_d00df_14.2.2.2.2.2.2.2
theorem gdJ5_setLength_d00df_30 : (decode cJ5_setLength_d00df 30 = .ok (.ifCond .eq 18, 3)) ∧ (decode cJ5_setLength_d00df 33 = .ok (.aload_n 0, 1)) ∧ (decode cJ5_setLength_d00df 34 = .ok (.getfield 15, 3)) ∧ (decode cJ5_setLength_d00df 37 = .ok (.aload_n 0, 1)) ∧ (decode cJ5_setLength_d00df 38 = .ok (.getfield 79, 3)) ∧ (decode cJ5_setLength_d00df 41 = .ok (.iload_n 1, 1)) ∧ (decode cJ5_setLength_d00df 42 = .ok (.invokestatic 133, 3)) ∧ (decode cJ5_setLength_d00df 45 = .ok (.goto 31, 3)) := by decide +kernel
def dJ5_setLength_d00df_30 := gdJ5_setLength_d00df_30.1
def dJ5_setLength_d00df_33 := gdJ5_setLength_d00df_30.2.1
def dJ5_setLength_d00df_34 := gdJ5_setLength_d00df_30.2.2.1
def dJ5_setLength_d00df_37 := gdJ5_setLength_d00df_30.2.2.2.1
def dJ5_setLength_d00df_38 := gdJ5_setLength_d00df_30.2.2.2.2.1
def dJ5_setLength_d00df_41 := gdJ5_setLength_d00df_30.2.2.2.2.2.1
def dJ5_setLength_d00df_42 := gdJ5_setLength_d00df_30.2.2.2.2.2.2.1
def dJ5_setLength_d00df_45 := gdJ5_setLength_d00df_30.2.2.2.2.2.2.2
theorem gdJ5_setLength_d00df_48 : (decode cJ5_setLength_d00df 48 = .ok (.aload_n 0, 1)) ∧ (decode cJ5_setLength_d00df 49 = .ok (.getfield 15, 3)) ∧ (decode cJ5_setLength_d00df 52 = .ok (.aload_n 0, 1)) ∧ (decode cJ5_setLength_d00df 53 = .ok (.getfield 79, 3)) ∧ (decode cJ5_setLength_d00df 56 = .ok (.iload_n 1, 1)) ∧ (decode cJ5_setLength_d00df 57 = .ok (.invokestatic 137, 3)) ∧ (decode cJ5_setLength_d00df 60 = .ok (.goto 16, 3)) ∧ (decode cJ5_setLength_d00df 63 = .ok (.aload_n 0, 1)) := by decide +kernel
def dJ5_setLength_d00df_48 := gdJ5_setLength_d00df_48.1
def dJ5_setLength_d00df_49 := gdJ5_setLength_d00df_48.2.1
def dJ5_setLength_d00df_52 := gdJ5_setLength_d00df_48.2.2.1
def dJ5_setLength_d00df_53 := gdJ5_setLength_d00df_48.2.2.2.1
def dJ5_setLength_d00df_56 := gdJ5_setLength_d00df_48.2.2.2.2.1
def dJ5_setLength_d00df_57 := gdJ5_setLength_d00df_48.2.2.2.2.2.1
def dJ5_setLength_d00df_60 := gdJ5_setLength_d00df_48.2.2.2.2.2.2.1
def dJ5_setLength_d00df_63 := gdJ5_setLength_d00df_48.2.2.2.2.2.2.2
theorem gdJ5_setLength_d00df_64 : (decode cJ5_setLength_d00df 64 = .ok (.getfield 79, 3)) ∧ (decode cJ5_setLength_d00df 67 = .ok (.iload_n 1, 1)) ∧ (decode cJ5_setLength_d00df 68 = .ok (.if_icmp .le 8, 3)) ∧ (decode cJ5_setLength_d00df 71 = .ok (.aload_n 0, 1)) ∧ (decode cJ5_setLength_d00df 72 = .ok (.iconst 1, 1)) ∧ (decode cJ5_setLength_d00df 73 = .ok (.putfield 73, 3)) ∧ (decode cJ5_setLength_d00df 76 = .ok (.aload_n 0, 1)) ∧ (decode cJ5_setLength_d00df 77 = .ok (.iload_n 1, 1)) := by decide +kernel
def dJ5_setLength_d00df_64 := gdJ5_setLength_d00df_64.1
def dJ5_setLength_d00df_67 := gdJ5_setLength_d00df_64.2.1
def dJ5_setLength_d00df_68 := gdJ5_setLength_d00df_64.2.2.1
def dJ5_setLength_d00df_71 := gdJ5_setLength_d00df_64.2.2.2.1
def dJ5_setLength_d00df_72 := gdJ5_setLength_d00df_64.2.2.2.2.1
def dJ5_setLength_d00df_73 := gdJ5_setLength_d00df_64.2.2.2.2.2.1
def dJ5_setLength_d00df_76 := gdJ5_setLength_d00df_64.2.2.2.2.2.2.1
def dJ5_setLength_d00df_77 := gdJ5_setLength_d00df_64.2.2.2.2.2.2.2
theorem gdJ5_setLength_d00df_78 : (decode cJ5_setLength_d00df 78 = .ok (.putfield 79, 3)) ∧ (decode cJ5_setLength_d00df 81 = .ok (.return_, 1)) := by decide +kernel
def dJ5_setLength_d00df_78 := gdJ5_setLength_d00df_78.1
def dJ5_setLength_d00df_81 := gdJ5_setLength_d00df_78.2
theorem gdJ5_charAt_5068e_0 : (decode cJ5_charAt_5068e 0 = .ok (.aload_n 0, 1)) ∧ (decode cJ5_charAt_5068e 1 = .ok (.getfield 22, 3)) ∧ (decode cJ5_charAt_5068e 4 = .ok (.istore_n 2, 1)) ∧ (decode cJ5_charAt_5068e 5 = .ok (.aload_n 0, 1)) ∧ (decode cJ5_charAt_5068e 6 = .ok (.getfield 15, 3)) ∧ (decode cJ5_charAt_5068e 9 = .ok (.astore_n 3, 1)) ∧ (decode cJ5_charAt_5068e 10 = .ok (.aload_n 0, 1)) ∧ (decode cJ5_charAt_5068e 11 = .ok (.getfield 79, 3)) := by decide +kernel
def dJ5_charAt_5068e_0 := gdJ5_charAt_5068e_0.1
def dJ5_charAt_5068e_1 := gdJ5_charAt_5068e_0.2.1
def dJ5_charAt_5068e_4 := gdJ5_charAt_5068e_0.2.2.1
def dJ5_charAt_5068e_5 := gdJ5_charAt_5068e_0.2.2.2.1
def dJ5_charAt_5068e_6 := gdJ5_charAt_5068e_0.2.2.2.2.1
def dJ5_charAt_5068e_9 := gdJ5_charAt_5068e_0.2.2.2.2.2.1
def dJ5_charAt_5068e_10 := gdJ5_charAt_5068e_0.2.2.2.2.2.2.1
def dJ5_charAt_5068e_11 := gdJ5_charAt_5068e_0.2.2.2.2.2.2.2
theorem gdJ5_charAt_5068e_14 : (decode cJ5_charAt_5068e 14 = .ok (.aload_n 3, 1)) ∧ (decode cJ5_charAt_5068e 15 = .ok (.arraylength, 1)) ∧ (decode cJ5_charAt_5068e 16 = .ok (.iload_n 2, 1)) ∧ (decode cJ5_charAt_5068e 17 = .ok (.ishr, 1)) ∧ (decode cJ5_charAt_5068e 18 = .ok (.invokestatic 138, 3)) ∧ (decode cJ5_charAt_5068e 21 = .ok (.istore 4, 2)) ∧ (decode cJ5_charAt_5068e 23 = .ok (.iload_n 1, 1)) ∧ (decode cJ5_charAt_5068e 24 = .ok (.iload 4, 2)) := by decide +kernel
def dJ5_charAt_5068e_14 := gdJ5_charAt_5068e_14.1
def dJ5_charAt_5068e_15 := gdJ5_charAt_5068e_14.2.1
def dJ5_charAt_5068e_16 := gdJ5_charAt_5068e_14.2.2.1
def dJ5_charAt_5068e_17 := gdJ5_charAt_5068e_14.2.2.2.1
def dJ5_charAt_5068e_18 := gdJ5_charAt_5068e_14.2.2.2.2.1
def dJ5_charAt_5068e_21 := gdJ5_charAt_5068e_14.2.2.2.2.2.1
def dJ5_charAt_5068e_23 := gdJ5_charAt_5068e_14.2.2.2.2.2.2.1
def dJ5_charAt_5068e_24 := gdJ5_charAt_5068e_14.2.2.2.2.2.2.2
theorem gdJ5_charAt_5068e_26 : (decode cJ5_charAt_5068e 26 = .ok (.invokestatic 144, 3)) ∧ (decode cJ5_charAt_5068e 29 = .ok (.iload_n 2, 1)) ∧ (decode cJ5_charAt_5068e 30 = .ok (.ifCond .ne 12, 3)) ∧ (decode cJ5_charAt_5068e 33 = .ok (.aload_n 3, 1)) ∧ (decode cJ5_charAt_5068e 34 = .ok (.iload_n 1, 1)) ∧ (decode cJ5_charAt_5068e 35 = .ok (.baload, 1)) ∧ (decode cJ5_charAt_5068e 36 = .ok (.sipush 255, 3)) ∧ (decode cJ5_charAt_5068e 39 = .ok (.iand, 1)) := by decide +kernel
def dJ5_charAt_5068e_26 := gdJ5_charAt_5068e_26.1
def dJ5_charAt_5068e_29 := gdJ5_charAt_5068e_26.2.1
def dJ5_charAt_5068e_30 := gdJ5_charAt_5068e_26.2.2.1
def dJ5_charAt_5068e_33 := gdJ5_charAt_5068e_26.2.2.2.1
def dJ5_charAt_5068e_34 := gdJ5_charAt_5068e_26.2.2.2.2.1
def dJ5_charAt_5068e_35 := gdJ5_charAt_5068e_26.2.2.2.2.2.1
def dJ5_charAt_5068e_36 := gdJ5_charAt_5068e_26.2.2.2.2.2.2.1
def dJ5_charAt_5068e_39 := gdJ5_charAt_5068e_26.2.2.2.2.2.2.2
theorem gdJ5_charAt_5068e_40 : (decode cJ5_charAt_5068e 40 = .ok (.i2c, 1)) ∧ (decode cJ5_charAt_5068e 41 = .ok (.ireturn, 1)) ∧ (decode cJ5_charAt_5068e 42 = .ok (.aload_n 3, 1)) ∧ (decode cJ5_charAt_5068e 43 = .ok (.iload_n 1, 1)) ∧ (decode cJ5_charAt_5068e 44 = .ok (.invokestatic 148, 3)) ∧ (decode cJ5_charAt_5068e 47 = .ok (.ireturn, 1)) := by decide +kernel
def dJ5_charAt_5068e_40 := gdJ5_charAt_5068e_40.1
def dJ5_charAt_5068e_41 := gdJ5_charAt_5068e_40.2.1
def dJ5_charAt_5068e_42 := gdJ5_charAt_5068e_40.2.2.1
def dJ5_charAt_5068e_43 := gdJ5_charAt_5068e_40.2.2.2.1
def dJ5_charAt_5068e_44 := gdJ5_charAt_5068e_40.2.2.2.2.1
def dJ5_charAt_5068e_47 := gdJ5_charAt_5068e_40.2.2.2.2.2
theorem gdJ5_append_cf1ce_0 : (decode cJ5_append_cf1ce 0 = .ok (.aload_n 1, 1)) ∧ (decode cJ5_append_cf1ce 1 = .ok (.ifnonnull 8, 3)) ∧ (decode cJ5_append_cf1ce 4 = .ok (.aload_n 0, 1)) ∧ (decode cJ5_append_cf1ce 5 = .ok (.invokevirtual 204, 3)) ∧ (decode cJ5_append_cf1ce 8 = .ok (.areturn, 1)) ∧ (decode cJ5_append_cf1ce 9 = .ok (.aload_n 1, 1)) ∧ (decode cJ5_append_cf1ce 10 = .ok (.invokevirtual 32, 3)) ∧ (decode cJ5_append_cf1ce 13 = .ok (.istore_n 2, 1)) := by decide +kernel
def dJ5_append_cf1ce_0 := gdJ5_append_cf1ce_0.1
def dJ5_append_cf1ce_1 := gdJ5_append_cf1ce_0.2.1
def dJ5_append_cf1ce_4 := gdJ5_append_cf1ce_0.2.2.1
def dJ5_append_cf1ce_5 := gdJ5_append_cf1ce_0.2.2.2.1
def dJ5_append_cf1ce_8 := gdJ5_append_cf1ce_0.2.2.2.2.1
def dJ5_append_cf1ce_9 := gdJ5_append_cf1ce_0.2.2.2.2.2.1
def dJ5_append_cf1ce_10 := gdJ5_append_cf1ce_0.2.2.2.2.2.2.1
def dJ5_append_cf1ce_13 := gdJ5_append_cf1ce_0.2.2.2.2.2.2.2
theorem gdJ5_append_cf1ce_14 : (decode cJ5_append_cf1ce 14 = .ok (.aload_n 0, 1)) ∧ (decode cJ5_append_cf1ce 15 = .ok (.aload_n 0, 1)) ∧ (decode cJ5_append_cf1ce 16 = .ok (.getfield 79, 3)) ∧ (decode cJ5_append_cf1ce 19 = .ok (.iload_n 2, 1)) ∧ (decode cJ5_append_cf1ce 20 = .ok (.iadd, 1)) ∧ (decode cJ5_append_cf1ce 21 = .ok (.invokevirtual 100, 3)) ∧ (decode cJ5_append_cf1ce 24 = .ok (.aload_n 0, 1)) ∧ (decode cJ5_append_cf1ce 25 = .ok (.aload_n 0, 1)) := by decide +kernel
def dJ5_append_cf1ce_14 := gdJ5_append_cf1ce_14.1
def dJ5_append_cf1ce_15 := gdJ5_append_cf1ce_14.2.1
def dJ5_append_cf1ce_16 := gdJ5_append_cf1ce_14.2.2.1
def dJ5_append_cf1ce_19 := gdJ5_append_cf1ce_14.2.2.2.1
def dJ5_append_cf1ce_20 := gdJ5_append_cf1ce_14.2.2.2.2.1
def dJ5_append_cf1ce_21 := gdJ5_append_cf1ce_14.2.2.2.2.2.1
def dJ5_append_cf1ce_24 := gdJ5_append_cf1ce_14.2.2.2.2.2.2.1
def dJ5_append_cf1ce_25 := gdJ5_append_cf1ce_14.2.2.2.2.2.2.2
theorem gdJ5_append_cf1ce_26 : (decode cJ5_append_cf1ce 26 = .ok (.getfield 79, 3)) ∧ (decode cJ5_append_cf1ce 29 = .ok (.aload_n 1, 1)) ∧ (decode cJ5_append_cf1ce 30 = .ok (.invokevirtual 208, 3)) ∧ (decode cJ5_append_cf1ce 33 = .ok (.aload_n 0, 1)) ∧ (decode cJ5_append_cf1ce 34 = .ok (.dup, 1)) ∧ (decode cJ5_append_cf1ce 35 = .ok (.getfield 79, 3)) ∧ (decode cJ5_append_cf1ce 38 = .ok (.iload_n 2, 1)) ∧ (decode cJ5_append_cf1ce 39 = .ok (.iadd, 1)) := by decide +kernel
def dJ5_append_cf1ce_26 := gdJ5_append_cf1ce_26.1
def dJ5_append_cf1ce_29 := gdJ5_append_cf1ce_26.2.1
def dJ5_append_cf1ce_30 := gdJ5_append_cf1ce_26.2.2.1
def dJ5_append_cf1ce_33 := gdJ5_append_cf1ce_26.2.2.2.1
def dJ5_append_cf1ce_34 := gdJ5_append_cf1ce_26.2.2.2.2.1
def dJ5_append_cf1ce_35 := gdJ5_append_cf1ce_26.2.2.2.2.2.1
def dJ5_append_cf1ce_38 := gdJ5_append_cf1ce_26.2.2.2.2.2.2.1
def dJ5_append_cf1ce_39 := gdJ5_append_cf1ce_26.2.2.2.2.2.2.2
theorem gdJ5_append_cf1ce_40 : (decode cJ5_append_cf1ce 40 = .ok (.putfield 79, 3)) ∧ (decode cJ5_append_cf1ce 43 = .ok (.aload_n 0, 1)) ∧ (decode cJ5_append_cf1ce 44 = .ok (.areturn, 1)) := by decide +kernel
def dJ5_append_cf1ce_40 := gdJ5_append_cf1ce_40.1
def dJ5_append_cf1ce_43 := gdJ5_append_cf1ce_40.2.1
def dJ5_append_cf1ce_44 := gdJ5_append_cf1ce_40.2.2
theorem gdJ5_appendNull_278bc_0 : (decode cJ5_appendNull_278bc 0 = .ok (.aload_n 0, 1)) ∧ (decode cJ5_appendNull_278bc 1 = .ok (.aload_n 0, 1)) ∧ (decode cJ5_appendNull_278bc 2 = .ok (.getfield 79, 3)) ∧ (decode cJ5_appendNull_278bc 5 = .ok (.iconst 4, 1)) ∧ (decode cJ5_appendNull_278bc 6 = .ok (.iadd, 1)) ∧ (decode cJ5_appendNull_278bc 7 = .ok (.invokevirtual 100, 3)) ∧ (decode cJ5_appendNull_278bc 10 = .ok (.aload_n 0, 1)) ∧ (decode cJ5_appendNull_278bc 11 = .ok (.getfield 79, 3)) := by decide +kernel
def dJ5_appendNull_278bc_0 := gdJ5_appendNull_278bc_0.1
def dJ5_appendNull_278bc_1 := gdJ5_appendNull_278bc_0.2.1
def dJ5_appendNull_278bc_2 := gdJ5_appendNull_278bc_0.2.2.1
def dJ5_appendNull_278bc_5 := gdJ5_appendNull_278bc_0.2.2.2.1
def dJ5_appendNull_278bc_6 := gdJ5_appendNull_278bc_0.2.2.2.2.1
def dJ5_appendNull_278bc_7 := gdJ5_appendNull_278bc_0.2.2.2.2.2.1
def dJ5_appendNull_278bc_10 := gdJ5_appendNull_278bc_0.2.2.2.2.2.2.1
def dJ5_appendNull_278bc_11 := gdJ5_appendNull_278bc_0.2.2.2.2.2.2.2
theorem gdJ5_appendNull_278bc_14 : (decode cJ5_appendNull_278bc 14 = .ok (.istore_n 1, 1)) ∧ (decode cJ5_appendNull_278bc 15 = .ok (.aload_n 0, 1)) ∧ (decode cJ5_appendNull_278bc 16 = .ok (.getfield 15, 3)) ∧ (decode cJ5_appendNull_278bc 19 = .ok (.astore_n 2, 1)) ∧ (decode cJ5_appendNull_278bc 20 = .ok (.aload_n 0, 1)) ∧ (decode cJ5_appendNull_278bc 21 = .ok (.invokevirtual 83, 3)) ∧ (decode cJ5_appendNull_278bc 24 = .ok (.ifCond .eq 38, 3)) ∧ (decode cJ5_appendNull_278bc 27 = .ok (.aload_n 2, 1)) := by decide +kernel
def dJ5_appendNull_278bc_14 := gdJ5_appendNull_278bc_14.1
def dJ5_appendNull_278bc_15 := gdJ5_appendNull_278bc_14.2.1
def dJ5_appendNull_278bc_16 := gdJ5_appendNull_278bc_14.2.2.1
def dJ5_appendNull_278bc_19 := gdJ5_appendNull_278bc_14.2.2.2.1
def dJ5_appendNull_278bc_20 := gdJ5_appendNull_278bc_14.2.2.2.2.1
def dJ5_appendNull_278bc_21 := gdJ5_appendNull_278bc_14.2.2.2.2.2.1
def dJ5_appendNull_278bc_24 := gdJ5_appendNull_278bc_14.2.2.2.2.2.2.1
def dJ5_appendNull_278bc_27 := gdJ5_appendNull_278bc_14.2.2.2.2.2.2.2
theorem gdJ5_appendNull_278bc_28 : (decode cJ5_appendNull_278bc 28 = .ok (.iload_n 1, 1)) ∧ (decode cJ5_appendNull_278bc 29 = .ok (.iinc 1 1, 3)) ∧ (decode cJ5_appendNull_278bc 32 = .ok (.bipush 110, 2)) ∧ (decode cJ5_appendNull_278bc 34 = .ok (.bastore, 1)) ∧ (decode cJ5_appendNull_278bc 35 = .ok (.aload_n 2, 1)) ∧ (decode cJ5_appendNull_278bc 36 = .ok (.iload_n 1, 1)) ∧ (decode cJ5_appendNull_278bc 37 = .ok (.iinc 1 1, 3)) ∧ (decode cJ5_appendNull_278bc 40 = .ok (.bipush 117, 2)) := by decide +kernel
def dJ5_appendNull_278bc_28 := gdJ5_appendNull_278bc_28.1
def dJ5_appendNull_278bc_29 := gdJ5_appendNull_278bc_28.2.1
def dJ5_appendNull_278bc_32 := gdJ5_appendNull_278bc_28.2.2.1
def dJ5_appendNull_278bc_34 := gdJ5_appendNull_278bc_28.2.2.2.1
def dJ5_appendNull_278bc_35 := gdJ5_appendNull_278bc_28.2.2.2.2.1
def dJ5_appendNull_278bc_36 := gdJ5_appendNull_278bc_28.2.2.2.2.2.1
def dJ5_appendNull_278bc_37 := gdJ5_appendNull_278bc_28.2.2.2.2.2.2.1
def dJ5_appendNull_278bc_40 := gdJ5_appendNull_278bc_28.2.2.2.2.2.2.2
theorem gdJ5_appendNull_278bc_42 : (decode cJ5_appendNull_278bc 42 = .ok (.bastore, 1)) ∧ (decode cJ5_appendNull_278bc 43 = .ok (.aload_n 2, 1)) ∧ (decode cJ5_appendNull_278bc 44 = .ok (.iload_n 1, 1)) ∧ (decode cJ5_appendNull_278bc 45 = .ok (.iinc 1 1, 3)) ∧ (decode cJ5_appendNull_278bc 48 = .ok (.bipush 108, 2)) ∧ (decode cJ5_appendNull_278bc 50 = .ok (.bastore, 1)) ∧ (decode cJ5_appendNull_278bc 51 = .ok (.aload_n 2, 1)) ∧ (decode cJ5_appendNull_278bc 52 = .ok (.iload_n 1, 1)) := by decide +kernel
def dJ5_appendNull_278bc_42 := gdJ5_appendNull_278bc_42.1
def dJ5_appendNull_278bc_43 := gdJ5_appendNull_278bc_42.2.1
def dJ5_appendNull_278bc_44 := gdJ5_appendNull_278bc_42.2.2.1
def dJ5_appendNull_278bc_45 := gdJ5_appendNull_278bc_42.2.2.2.1
def dJ5_appendNull_278bc_48 := gdJ5_appendNull_278bc_42.2.2.2.2.1
def dJ5_appendNull_278bc_50 := gdJ5_appendNull_278bc_42.2.2.2.2.2.1
def dJ5_appendNull_278bc_51 := gdJ5_appendNull_278bc_42.2.2.2.2.2.2.1
def dJ5_appendNull_278bc_52 := gdJ5_appendNull_278bc_42.2.2.2.2.2.2.2
theorem gdJ5_appendNull_278bc_53 : (decode cJ5_appendNull_278bc 53 = .ok (.iinc 1 1, 3)) ∧ (decode cJ5_appendNull_278bc 56 = .ok (.bipush 108, 2)) ∧ (decode cJ5_appendNull_278bc 58 = .ok (.bastore, 1)) ∧ (decode cJ5_appendNull_278bc 59 = .ok (.goto 17, 3)) ∧ (decode cJ5_appendNull_278bc 62 = .ok (.aload_n 2, 1)) ∧ (decode cJ5_appendNull_278bc 63 = .ok (.iload_n 1, 1)) ∧ (decode cJ5_appendNull_278bc 64 = .ok (.bipush 110, 2)) ∧ (decode cJ5_appendNull_278bc 66 = .ok (.bipush 117, 2)) := by decide +kernel
def dJ5_appendNull_278bc_53 := gdJ5_appendNull_278bc_53.1
def dJ5_appendNull_278bc_56 := gdJ5_appendNull_278bc_53.2.1
def dJ5_appendNull_278bc_58 := gdJ5_appendNull_278bc_53.2.2.1
def dJ5_appendNull_278bc_59 := gdJ5_appendNull_278bc_53.2.2.2.1
def dJ5_appendNull_278bc_62 := gdJ5_appendNull_278bc_53.2.2.2.2.1
def dJ5_appendNull_278bc_63 := gdJ5_appendNull_278bc_53.2.2.2.2.2.1
def dJ5_appendNull_278bc_64 := gdJ5_appendNull_278bc_53.2.2.2.2.2.2.1
def dJ5_appendNull_278bc_66 := gdJ5_appendNull_278bc_53.2.2.2.2.2.2.2
theorem gdJ5_appendNull_278bc_68 : (decode cJ5_appendNull_278bc 68 = .ok (.bipush 108, 2)) ∧ (decode cJ5_appendNull_278bc 70 = .ok (.bipush 108, 2)) ∧ (decode cJ5_appendNull_278bc 72 = .ok (.invokestatic 226, 3)) ∧ (decode cJ5_appendNull_278bc 75 = .ok (.istore_n 1, 1)) ∧ (decode cJ5_appendNull_278bc 76 = .ok (.aload_n 0, 1)) ∧ (decode cJ5_appendNull_278bc 77 = .ok (.iload_n 1, 1)) ∧ (decode cJ5_appendNull_278bc 78 = .ok (.putfield 79, 3)) ∧ (decode cJ5_appendNull_278bc 81 = .ok (.aload_n 0, 1)) := by decide +kernel
def dJ5_appendNull_278bc_68 := gdJ5_appendNull_278bc_68.1
def dJ5_appendNull_278bc_70 := gdJ5_appendNull_278bc_68.2.1
def dJ5_appendNull_278bc_72 := gdJ5_appendNull_278bc_68.2.2.1
def dJ5_appendNull_278bc_75 := gdJ5_appendNull_278bc_68.2.2.2.1
def dJ5_appendNull_278bc_76 := gdJ5_appendNull_278bc_68.2.2.2.2.1
def dJ5_appendNull_278bc_77 := gdJ5_appendNull_278bc_68.2.2.2.2.2.1
def dJ5_appendNull_278bc_78 := gdJ5_appendNull_278bc_68.2.2.2.2.2.2.1
def dJ5_appendNull_278bc_81 := gdJ5_appendNull_278bc_68.2.2.2.2.2.2.2
theorem dJ5_appendNull_278bc_82 : decode cJ5_appendNull_278bc 82 = .ok (.areturn, 1) := by decide +kernel
theorem gdJ5_append_3fe6f_0 : (decode cJ5_append_3fe6f 0 = .ok (.aload_n 0, 1)) ∧ (decode cJ5_append_3fe6f 1 = .ok (.aload_n 0, 1)) ∧ (decode cJ5_append_3fe6f 2 = .ok (.getfield 79, 3)) ∧ (decode cJ5_append_3fe6f 5 = .ok (.iconst 1, 1)) ∧ (decode cJ5_append_3fe6f 6 = .ok (.iadd, 1)) ∧ (decode cJ5_append_3fe6f 7 = .ok (.invokevirtual 100, 3)) ∧ (decode cJ5_append_3fe6f 10 = .ok (.aload_n 0, 1)) ∧ (decode cJ5_append_3fe6f 11 = .ok (.invokevirtual 83, 3)) := by decide +kernel
def dJ5_append_3fe6f_0 := gdJ5_append_3fe6f_0.1
def dJ5_append_3fe6f_1 := gdJ5_append_3fe6f_0.2.1
def dJ5_append_3fe6f_2 := gdJ5_append_3fe6f_0.2.2.1
def dJ5_append_3fe6f_5 := gdJ5_append_3fe6f_0.2.2.2.1
def dJ5_append_3fe6f_6 := gdJ5_append_3fe6f_0.2.2.2.2.1
def dJ5_append_3fe6f_7 := gdJ5_append_3fe6f_0.2.2.2.2.2.1
def dJ5_append_3fe6f_10 := gdJ5_append_3fe6f_0.2.2.2.2.2.2.1
def dJ5_append_3fe6f_11 := gdJ5_append_3fe6f_0.2.2.2.2.2.2.2
theorem gdJ5_append_3fe6f_14 : (decode cJ5_append_3fe6f 14 = .ok (.ifCond .eq 31, 3)) ∧ (decode cJ5_append_3fe6f 17 = .ok (.iload_n 1, 1)) ∧ (decode cJ5_append_3fe6f 18 = .ok (.invokestatic 191, 3)) ∧ (decode cJ5_append_3fe6f 21 = .ok (.ifCond .eq 24, 3)) ∧ (decode cJ5_append_3fe6f 24 = .ok (.aload_n 0, 1)) ∧ (decode cJ5_append_3fe6f 25 = .ok (.getfield 15, 3)) ∧ (decode cJ5_append_3fe6f 28 = .ok (.aload_n 0, 1)) ∧ (decode cJ5_append_3fe6f 29 = .ok (.dup, 1)) := by decide +kernel
def dJ5_append_3fe6f_14 := gdJ5_append_3fe6f_14.1
def dJ5_append_3fe6f_17 := gdJ5_append_3fe6f_14.2.1
def dJ5_append_3fe6f_18 := gdJ5_append_3fe6f_14.2.2.1
def dJ5_append_3fe6f_21 := gdJ5_append_3fe6f_14.2.2.2.1
def dJ5_append_3fe6f_24 := gdJ5_append_3fe6f_14.2.2.2.2.1
def dJ5_append_3fe6f_25 := gdJ5_append_3fe6f_14.2.2.2.2.2.1
def dJ5_append_3fe6f_28 := gdJ5_append_3fe6f_14.2.2.2.2.2.2.1
def dJ5_append_3fe6f_29 := gdJ5_append_3fe6f_14.2.2.2.2.2.2.2
theorem gdJ5_append_3fe6f_30 : (decode cJ5_append_3fe6f 30 = .ok (.getfield 79, 3)) ∧ (decode cJ5_append_3fe6f 33 = .ok (.dup_x1, 1)) ∧ (decode cJ5_append_3fe6f 34 = .ok (.iconst 1, 1)) ∧ (decode cJ5_append_3fe6f 35 = .ok (.iadd, 1)) ∧ (decode cJ5_append_3fe6f 36 = .ok (.putfield 79, 3)) ∧ (decode cJ5_append_3fe6f 39 = .ok (.iload_n 1, 1)) ∧ (decode cJ5_append_3fe6f 40 = .ok (.i2b, 1)) ∧ (decode cJ5_append_3fe6f 41 = .ok (.bastore, 1)) := by decide +kernel
def dJ5_append_3fe6f_30 := gdJ5_append_3fe6f_30.1
def dJ5_append_3fe6f_33 := gdJ5_append_3fe6f_30.2.1
def dJ5_append_3fe6f_34 := gdJ5_append_3fe6f_30.2.2.1
def dJ5_append_3fe6f_35 := gdJ5_append_3fe6f_30.2.2.2.1
def dJ5_append_3fe6f_36 := gdJ5_append_3fe6f_30.2.2.2.2.1
def dJ5_append_3fe6f_39 := gdJ5_append_3fe6f_30.2.2.2.2.2.1
def dJ5_append_3fe6f_40 := gdJ5_append_3fe6f_30.2.2.2.2.2.2.1
def dJ5_append_3fe6f_41 := gdJ5_append_3fe6f_30.2.2.2.2.2.2.2
theorem gdJ5_append_3fe6f_42 : (decode cJ5_append_3fe6f 42 = .ok (.goto 33, 3)) ∧ (decode cJ5_append_3fe6f 45 = .ok (.aload_n 0, 1)) ∧ (decode cJ5_append_3fe6f 46 = .ok (.invokevirtual 83, 3)) ∧ (decode cJ5_append_3fe6f 49 = .ok (.ifCond .eq 7, 3)) ∧ (decode cJ5_append_3fe6f 52 = .ok (.aload_n 0, 1)) ∧ (decode cJ5_append_3fe6f 53 = .ok (.invokevirtual 195, 3)) ∧ (decode cJ5_append_3fe6f 56 = .ok (.aload_n 0, 1)) ∧ (decode cJ5_append_3fe6f 57 = .ok (.getfield 15, 3)) := by decide +kernel
def dJ5_append_3fe6f_42 := gdJ5_append_3fe6f_42.1
def dJ5_append_3fe6f_45 := gdJ5_append_3fe6f_42.2.1
def dJ5_append_3fe6f_46 := gdJ5_append_3fe6f_42.2.2.1
def dJ5_append_3fe6f_49 := gdJ5_append_3fe6f_42.2.2.2.1
def dJ5_append_3fe6f_52 := gdJ5_append_3fe6f_42.2.2.2.2.1
def dJ5_append_3fe6f_53 := gdJ5_append_3fe6f_42.2.2.2.2.2.1
def dJ5_append_3fe6f_56 := gdJ5_append_3fe6f_42.2.2.2.2.2.2.1
def dJ5_append_3fe6f_57 := gdJ5_append_3fe6f_42.2.2.2.2.2.2.2
theorem gdJ5_append_3fe6f_60 : (decode cJ5_append_3fe6f 60 = .ok (.aload_n 0, 1)) ∧ (decode cJ5_append_3fe6f 61 = .ok (.dup, 1)) ∧ (decode cJ5_append_3fe6f 62 = .ok (.getfield 79, 3)) ∧ (decode cJ5_append_3fe6f 65 = .ok (.dup_x1, 1)) ∧ (decode cJ5_append_3fe6f 66 = .ok (.iconst 1, 1)) ∧ (decode cJ5_append_3fe6f 67 = .ok (.iadd, 1)) ∧ (decode cJ5_append_3fe6f 68 = .ok (.putfield 79, 3)) ∧ (decode cJ5_append_3fe6f 71 = .ok (.iload_n 1, 1)) := by decide +kernel
def dJ5_append_3fe6f_60 := gdJ5_append_3fe6f_60.1
def dJ5_append_3fe6f_61 := gdJ5_append_3fe6f_60.2.1
def dJ5_append_3fe6f_62 := gdJ5_append_3fe6f_60.2.2.1
def dJ5_append_3fe6f_65 := gdJ5_append_3fe6f_60.2.2.2.1
def dJ5_append_3fe6f_66 := gdJ5_append_3fe6f_60.2.2.2.2.1
def dJ5_append_3fe6f_67 := gdJ5_append_3fe6f_60.2.2.2.2.2.1
def dJ5_append_3fe6f_68 := gdJ5_append_3fe6f_60.2.2.2.2.2.2.1
def dJ5_append_3fe6f_71 := gdJ5_append_3fe6f_60.2.2.2.2.2.2.2
theorem gdJ5_append_3fe6f_72 : (decode cJ5_append_3fe6f 72 = .ok (.invokestatic 197, 3)) ∧ (decode cJ5_append_3fe6f 75 = .ok (.aload_n 0, 1)) ∧ (decode cJ5_append_3fe6f 76 = .ok (.areturn, 1)) := by decide +kernel
def dJ5_append_3fe6f_72 := gdJ5_append_3fe6f_72.1
def dJ5_append_3fe6f_75 := gdJ5_append_3fe6f_72.2.1
def dJ5_append_3fe6f_76 := gdJ5_append_3fe6f_72.2.2
theorem gdJ5_append_c97b9_0 : (decode cJ5_append_c97b9 0 = .ok (.aload_n 0, 1)) ∧ (decode cJ5_append_c97b9 1 = .ok (.getfield 79, 3)) ∧ (decode cJ5_append_c97b9 4 = .ok (.istore_n 2, 1)) ∧ (decode cJ5_append_c97b9 5 = .ok (.iload_n 2, 1)) ∧ (decode cJ5_append_c97b9 6 = .ok (.iload_n 1, 1)) ∧ (decode cJ5_append_c97b9 7 = .ok (.invokestatic 245, 3)) ∧ (decode cJ5_append_c97b9 10 = .ok (.iadd, 1)) ∧ (decode cJ5_append_c97b9 11 = .ok (.istore_n 3, 1)) := by decide +kernel
def dJ5_append_c97b9_0 := gdJ5_append_c97b9_0.1
def dJ5_append_c97b9_1 := gdJ5_append_c97b9_0.2.1
def dJ5_append_c97b9_4 := gdJ5_append_c97b9_0.2.2.1
def dJ5_append_c97b9_5 := gdJ5_append_c97b9_0.2.2.2.1
def dJ5_append_c97b9_6 := gdJ5_append_c97b9_0.2.2.2.2.1
def dJ5_append_c97b9_7 := gdJ5_append_c97b9_0.2.2.2.2.2.1
def dJ5_append_c97b9_10 := gdJ5_append_c97b9_0.2.2.2.2.2.2.1
def dJ5_append_c97b9_11 := gdJ5_append_c97b9_0.2.2.2.2.2.2.2
theorem gdJ5_append_c97b9_12 : (decode cJ5_append_c97b9 12 = .ok (.aload_n 0, 1)) ∧ (decode cJ5_append_c97b9 13 = .ok (.iload_n 3, 1)) ∧ (decode cJ5_append_c97b9 14 = .ok (.invokevirtual 100, 3)) ∧ (decode cJ5_append_c97b9 17 = .ok (.aload_n 0, 1)) ∧ (decode cJ5_append_c97b9 18 = .ok (.invokevirtual 83, 3)) ∧ (decode cJ5_append_c97b9 21 = .ok (.ifCond .eq 16, 3)) ∧ (decode cJ5_append_c97b9 24 = .ok (.iload_n 1, 1)) ∧ (decode cJ5_append_c97b9 25 = .ok (.iload_n 3, 1)) := by decide +kernel
def dJ5_append_c97b9_12 := gdJ5_append_c97b9_12.1
def dJ5_append_c97b9_13 := gdJ5_append_c97b9_12.2.1
def dJ5_append_c97b9_14 := gdJ5_append_c97b9_12.2.2.1
def dJ5_append_c97b9_17 := gdJ5_append_c97b9_12.2.2.2.1
def dJ5_append_c97b9_18 := gdJ5_append_c97b9_12.2.2.2.2.1
def dJ5_append_c97b9_21 := gdJ5_append_c97b9_12.2.2.2.2.2.1
def dJ5_append_c97b9_24 := gdJ5_append_c97b9_12.2.2.2.2.2.2.1
def dJ5_append_c97b9_25 := gdJ5_append_c97b9_12.2.2.2.2.2.2.2
theorem gdJ5_append_c97b9_26 : (decode cJ5_append_c97b9 26 = .ok (.aload_n 0, 1)) ∧ (decode cJ5_append_c97b9 27 = .ok (.getfield 15, 3)) ∧ (decode cJ5_append_c97b9 30 = .ok (.invokestatic 248, 3)) ∧ (decode cJ5_append_c97b9 33 = .ok (.pop, 1)) ∧ (decode cJ5_append_c97b9 34 = .ok (.goto 14, 3)) ∧ (decode cJ5_append_c97b9 37 = .ok (.iload_n 1, 1)) ∧ (decode cJ5_append_c97b9 38 = .ok (.iload_n 2, 1)) ∧ (decode cJ5_append_c97b9 39 = .ok (.iload_n 3, 1)) := by decide +kernel
def dJ5_append_c97b9_26 := gdJ5_append_c97b9_26.1
def dJ5_append_c97b9_27 := gdJ5_append_c97b9_26.2.1
def dJ5_append_c97b9_30 := gdJ5_append_c97b9_26.2.2.1
def dJ5_append_c97b9_33 := gdJ5_append_c97b9_26.2.2.2.1
def dJ5_append_c97b9_34 := gdJ5_append_c97b9_26.2.2.2.2.1
def dJ5_append_c97b9_37 := gdJ5_append_c97b9_26.2.2.2.2.2.1
def dJ5_append_c97b9_38 := gdJ5_append_c97b9_26.2.2.2.2.2.2.1
def dJ5_append_c97b9_39 := gdJ5_append_c97b9_26.2.2.2.2.2.2.2
theorem gdJ5_append_c97b9_40 : (decode cJ5_append_c97b9 40 = .ok (.aload_n 0, 1)) ∧ (decode cJ5_append_c97b9 41 = .ok (.getfield 15, 3)) ∧ (decode cJ5_append_c97b9 44 = .ok (.invokestatic 251, 3)) ∧ (decode cJ5_append_c97b9 47 = .ok (.pop, 1)) ∧ (decode cJ5_append_c97b9 48 = .ok (.aload_n 0, 1)) ∧ (decode cJ5_append_c97b9 49 = .ok (.iload_n 3, 1)) ∧ (decode cJ5_append_c97b9 50 = .ok (.putfield 79, 3)) ∧ (decode cJ5_append_c97b9 53 = .ok (.aload_n 0, 1)) := by decide +kernel
def dJ5_append_c97b9_40 := gdJ5_append_c97b9_40.1
def dJ5_append_c97b9_41 := gdJ5_append_c97b9_40.2.1
def dJ5_append_c97b9_44 := gdJ5_append_c97b9_40.2.2.1
def dJ5_append_c97b9_47 := gdJ5_append_c97b9_40.2.2.2.1
def dJ5_append_c97b9_48 := gdJ5_append_c97b9_40.2.2.2.2.1
def dJ5_append_c97b9_49 := gdJ5_append_c97b9_40.2.2.2.2.2.1
def dJ5_append_c97b9_50 := gdJ5_append_c97b9_40.2.2.2.2.2.2.1
def dJ5_append_c97b9_53 := gdJ5_append_c97b9_40.2.2.2.2.2.2.2
theorem dJ5_append_c97b9_54 : decode cJ5_append_c97b9 54 = .ok (.areturn, 1) := by decide +kernel
theorem gdJ5_isLatin1_aae02_0 : (decode cJ5_isLatin1_aae02 0 = .ok (.getstatic 18, 3)) ∧ (decode cJ5_isLatin1_aae02 3 = .ok (.ifCond .eq 14, 3)) ∧ (decode cJ5_isLatin1_aae02 6 = .ok (.aload_n 0, 1)) ∧ (decode cJ5_isLatin1_aae02 7 = .ok (.getfield 22, 3)) ∧ (decode cJ5_isLatin1_aae02 10 = .ok (.ifCond .ne 7, 3)) ∧ (decode cJ5_isLatin1_aae02 13 = .ok (.iconst 1, 1)) ∧ (decode cJ5_isLatin1_aae02 14 = .ok (.goto 4, 3)) ∧ (decode cJ5_isLatin1_aae02 17 = .ok (.iconst 0, 1)) := by decide +kernel
def dJ5_isLatin1_aae02_0 := gdJ5_isLatin1_aae02_0.1
def dJ5_isLatin1_aae02_3 := gdJ5_isLatin1_aae02_0.2.1
def dJ5_isLatin1_aae02_6 := gdJ5_isLatin1_aae02_0.2.2.1
def dJ5_isLatin1_aae02_7 := gdJ5_isLatin1_aae02_0.2.2.2.1
def dJ5_isLatin1_aae02_10 := gdJ5_isLatin1_aae02_0.2.2.2.2.1
def dJ5_isLatin1_aae02_13 := gdJ5_isLatin1_aae02_0.2.2.2.2.2.1
def dJ5_isLatin1_aae02_14 := gdJ5_isLatin1_aae02_0.2.2.2.2.2.2.1
def dJ5_isLatin1_aae02_17 := gdJ5_isLatin1_aae02_0.2.2.2.2.2.2.2
theorem dJ5_isLatin1_aae02_18 : decode cJ5_isLatin1_aae02 18 = .ok (.ireturn, 1) := by decide +kernel
theorem gdJ5_inflateIfNeededFor_a7421_0 : (decode cJ5_inflateIfNeededFor_a7421 0 = .ok (.getstatic 18, 3)) ∧ (decode cJ5_inflateIfNeededFor_a7421 3 = .ok (.ifCond .eq 18, 3)) ∧ (decode cJ5_inflateIfNeededFor_a7421 6 = .ok (.aload_n 0, 1)) ∧ (decode cJ5_inflateIfNeededFor_a7421 7 = .ok (.getfield 22, 3)) ∧ (decode cJ5_inflateIfNeededFor_a7421 10 = .ok (.aload_n 1, 1)) ∧ (decode cJ5_inflateIfNeededFor_a7421 11 = .ok (.invokevirtual 40, 3)) ∧ (decode cJ5_inflateIfNeededFor_a7421 14 = .ok (.if_icmp .eq 7, 3)) ∧ (decode cJ5_inflateIfNeededFor_a7421 17 = .ok (.aload_n 0, 1)) := by decide +kernel
def dJ5_inflateIfNeededFor_a7421_0 := gdJ5_inflateIfNeededFor_a7421_0.1
def dJ5_inflateIfNeededFor_a7421_3 := gdJ5_inflateIfNeededFor_a7421_0.2.1
def dJ5_inflateIfNeededFor_a7421_6 := gdJ5_inflateIfNeededFor_a7421_0.2.2.1
def dJ5_inflateIfNeededFor_a7421_7 := gdJ5_inflateIfNeededFor_a7421_0.2.2.2.1
def dJ5_inflateIfNeededFor_a7421_10 := gdJ5_inflateIfNeededFor_a7421_0.2.2.2.2.1
def dJ5_inflateIfNeededFor_a7421_11 := gdJ5_inflateIfNeededFor_a7421_0.2.2.2.2.2.1
def dJ5_inflateIfNeededFor_a7421_14 := gdJ5_inflateIfNeededFor_a7421_0.2.2.2.2.2.2.1
def dJ5_inflateIfNeededFor_a7421_17 := gdJ5_inflateIfNeededFor_a7421_0.2.2.2.2.2.2.2
theorem gdJ5_inflateIfNeededFor_a7421_18 : (decode cJ5_inflateIfNeededFor_a7421 18 = .ok (.invokevirtual 195, 3)) ∧ (decode cJ5_inflateIfNeededFor_a7421 21 = .ok (.return_, 1)) := by decide +kernel
def dJ5_inflateIfNeededFor_a7421_18 := gdJ5_inflateIfNeededFor_a7421_18.1
def dJ5_inflateIfNeededFor_a7421_21 := gdJ5_inflateIfNeededFor_a7421_18.2
theorem gdJ5_putStringAt_47b60_0 : (decode cJ5_putStringAt_47b60 0 = .ok (.aload_n 0, 1)) ∧ (decode cJ5_putStringAt_47b60 1 = .ok (.aload_n 2, 1)) ∧ (decode cJ5_putStringAt_47b60 2 = .ok (.invokevirtual 397, 3)) ∧ (decode cJ5_putStringAt_47b60 5 = .ok (.aload_n 2, 1)) ∧ (decode cJ5_putStringAt_47b60 6 = .ok (.aload_n 0, 1)) ∧ (decode cJ5_putStringAt_47b60 7 = .ok (.getfield 15, 3)) ∧ (decode cJ5_putStringAt_47b60 10 = .ok (.iload_n 1, 1)) ∧ (decode cJ5_putStringAt_47b60 11 = .ok (.aload_n 0, 1)) := by decide +kernel
def dJ5_putStringAt_47b60_0 := gdJ5_putStringAt_47b60_0.1
def dJ5_putStringAt_47b60_1 := gdJ5_putStringAt_47b60_0.2.1
def dJ5_putStringAt_47b60_2 := gdJ5_putStringAt_47b60_0.2.2.1
def dJ5_putStringAt_47b60_5 := gdJ5_putStringAt_47b60_0.2.2.2.1
def dJ5_putStringAt_47b60_6 := gdJ5_putStringAt_47b60_0.2.2.2.2.1
def dJ5_putStringAt_47b60_7 := gdJ5_putStringAt_47b60_0.2.2.2.2.2.1
def dJ5_putStringAt_47b60_10 := gdJ5_putStringAt_47b60_0.2.2.2.2.2.2.1
def dJ5_putStringAt_47b60_11 := gdJ5_putStringAt_47b60_0.2.2.2.2.2.2.2
theorem gdJ5_putStringAt_47b60_12 : (decode cJ5_putStringAt_47b60 12 = .ok (.getfield 22, 3)) ∧ (decode cJ5_putStringAt_47b60 15 = .ok (.invokevirtual 399, 3)) ∧ (decode cJ5_putStringAt_47b60 18 = .ok (.return_, 1)) := by decide +kernel
def dJ5_putStringAt_47b60_12 := gdJ5_putStringAt_47b60_12.1
def dJ5_putStringAt_47b60_15 := gdJ5_putStringAt_47b60_12.2.1
def dJ5_putStringAt_47b60_18 := gdJ5_putStringAt_47b60_12.2.2
theorem gdJ6_getChars_ba4f3_0 : (decode cJ6_getChars_ba4f3 0 = .ok (.iload_n 1, 1)) ∧ (decode cJ6_getChars_ba4f3 1 = .ok (.istore 5, 2)) ∧ (decode cJ6_getChars_ba4f3 3 = .ok (.iload_n 0, 1)) ∧ (decode cJ6_getChars_ba4f3 4 = .ok (.ifCond .ge 7, 3)) ∧ (decode cJ6_getChars_ba4f3 7 = .ok (.iconst 1, 1)) ∧ (decode cJ6_getChars_ba4f3 8 = .ok (.goto 4, 3)) ∧ (decode cJ6_getChars_ba4f3 11 = .ok (.iconst 0, 1)) ∧ (decode cJ6_getChars_ba4f3 12 = .ok (.istore 6, 2)) := by decide +kernel
def dJ6_getChars_ba4f3_0 := gdJ6_getChars_ba4f3_0.1
def dJ6_getChars_ba4f3_1 := gdJ6_getChars_ba4f3_0.2.1
def dJ6_getChars_ba4f3_3 := gdJ6_getChars_ba4f3_0.2.2.1
def dJ6_getChars_ba4f3_4 := gdJ6_getChars_ba4f3_0.2.2.2.1
def dJ6_getChars_ba4f3_7 := gdJ6_getChars_ba4f3_0.2.2.2.2.1
def dJ6_getChars_ba4f3_8 := gdJ6_getChars_ba4f3_0.2.2.2.2.2.1
def dJ6_getChars_ba4f3_11 := gdJ6_getChars_ba4f3_0.2.2.2.2.2.2.1
def dJ6_getChars_ba4f3_12 := gdJ6_getChars_ba4f3_0.2.2.2.2.2.2.2
theorem gdJ6_getChars_ba4f3_14 : (decode cJ6_getChars_ba4f3 14 = .ok (.iload 6, 2)) ∧ (decode cJ6_getChars_ba4f3 16 = .ok (.ifCond .ne 6, 3)) ∧ (decode cJ6_getChars_ba4f3 19 = .ok (.iload_n 0, 1)) ∧ (decode cJ6_getChars_ba4f3 20 = .ok (.ineg, 1)) ∧ (decode cJ6_getChars_ba4f3 21 = .ok (.istore_n 0, 1)) ∧ (decode cJ6_getChars_ba4f3 22 = .ok (.iload_n 0, 1)) ∧ (decode cJ6_getChars_ba4f3 23 = .ok (.bipush (-100), 2)) ∧ (decode cJ6_getChars_ba4f3 25 = .ok (.if_icmp .gt 47, 3)) := by decide +kernel
def dJ6_getChars_ba4f3_14 := gdJ6_getChars_ba4f3_14.1
def dJ6_getChars_ba4f3_16 := gdJ6_getChars_ba4f3_14.2.1
def dJ6_getChars_ba4f3_19 := gdJ6_getChars_ba4f3_14.2.2.1
def dJ6_getChars_ba4f3_20 := gdJ6_getChars_ba4f3_14.2.2.2.1
def dJ6_getChars_ba4f3_21 := gdJ6_getChars_ba4f3_14.2.2.2.2.1
def dJ6_getChars_ba4f3_22 := gdJ6_getChars_ba4f3_14.2.2.2.2.2.1
def dJ6_getChars_ba4f3_23 := gdJ6_getChars_ba4f3_14.2.2.2.2.2.2.1
def dJ6_getChars_ba4f3_25 := gdJ6_getChars_ba4f3_14.2.2.2.2.2.2.2
theorem gdJ6_getChars_ba4f3_28 : (decode cJ6_getChars_ba4f3 28 = .ok (.iload_n 0, 1)) ∧ (decode cJ6_getChars_ba4f3 29 = .ok (.bipush 100, 2)) ∧ (decode cJ6_getChars_ba4f3 31 = .ok (.idiv, 1)) ∧ (decode cJ6_getChars_ba4f3 32 = .ok (.istore_n 3, 1)) ∧ (decode cJ6_getChars_ba4f3 33 = .ok (.iload_n 3, 1)) ∧ (decode cJ6_getChars_ba4f3 34 = .ok (.bipush 100, 2)) ∧ (decode cJ6_getChars_ba4f3 36 = .ok (.imul, 1)) ∧ (decode cJ6_getChars_ba4f3 37 = .ok (.iload_n 0, 1)) := by decide +kernel
def dJ6_getChars_ba4f3_28 := gdJ6_getChars_ba4f3_28.1
def dJ6_getChars_ba4f3_29 := gdJ6_getChars_ba4f3_28.2.1
def dJ6_getChars_ba4f3_31 := gdJ6_getChars_ba4f3_28.2.2.1
def dJ6_getChars_ba4f3_32 := gdJ6_getChars_ba4f3_28.2.2.2.1
def dJ6_getChars_ba4f3_33 := gdJ6_getChars_ba4f3_28.2.2.2.2.1
def dJ6_getChars_ba4f3_34 := gdJ6_getChars_ba4f3_28.2.2.2.2.2.1
def dJ6_getChars_ba4f3_36 := gdJ6_getChars_ba4f3_28.2.2.2.2.2.2.1
def dJ6_getChars_ba4f3_37 := gdJ6_getChars_ba4f3_28.2.2.2.2.2.2.2
theorem gdJ6_getChars_ba4f3_38 : (decode cJ6_getChars_ba4f3 38 = .ok (.isub, 1)) ∧ (decode cJ6_getChars_ba4f3 39 = .ok (.istore 4, 2)) ∧ (decode cJ6_getChars_ba4f3 41 = .ok (.iload_n 3, 1)) ∧ (decode cJ6_getChars_ba4f3 42 = .ok (.istore_n 0, 1)) ∧ (decode cJ6_getChars_ba4f3 43 = .ok (.aload_n 2, 1)) ∧ (decode cJ6_getChars_ba4f3 44 = .ok (.iinc 5 (-1), 3)) ∧ (decode cJ6_getChars_ba4f3 47 = .ok (.iload 5, 2)) ∧ (decode cJ6_getChars_ba4f3 49 = .ok (.getstatic 83, 3)) := by decide +kernel
def dJ6_getChars_ba4f3_38 := gdJ6_getChars_ba4f3_38.1
def dJ6_getChars_ba4f3_39 := gdJ6_getChars_ba4f3_38.2.1
def dJ6_getChars_ba4f3_41 := gdJ6_getChars_ba4f3_38.2.2.1
def dJ6_getChars_ba4f3_42 := gdJ6_getChars_ba4f3_38.2.2.2.1
def dJ6_getChars_ba4f3_43 := gdJ6_getChars_ba4f3_38.2.2.2.2.1
def dJ6_getChars_ba4f3_44 := gdJ6_getChars_ba4f3_38.2.2.2.2.2.1
def dJ6_getChars_ba4f3_47 := gdJ6_getChars_ba4f3_38.2.2.2.2.2.2.1
def dJ6_getChars_ba4f3_49 := gdJ6_getChars_ba4f3_38.2.2.2.2.2.2.2
theorem gdJ6_getChars_ba4f3_52 : (decode cJ6_getChars_ba4f3 52 = .ok (.iload 4, 2)) ∧ (decode cJ6_getChars_ba4f3 54 = .ok (.baload, 1)) ∧ (decode cJ6_getChars_ba4f3 55 = .ok (.bastore, 1)) ∧ (decode cJ6_getChars_ba4f3 56 = .ok (.aload_n 2, 1)) ∧ (decode cJ6_getChars_ba4f3 57 = .ok (.iinc 5 (-1), 3)) ∧ (decode cJ6_getChars_ba4f3 60 = .ok (.iload 5, 2)) ∧ (decode cJ6_getChars_ba4f3 62 = .ok (.getstatic 87, 3)) ∧ (decode cJ6_getChars_ba4f3 65 = .ok (.iload 4, 2)) := by decide +kernel
def dJ6_getChars_ba4f3_52 := gdJ6_getChars_ba4f3_52.1
def dJ6_getChars_ba4f3_54 := gdJ6_getChars_ba4f3_52.2.1
def dJ6_getChars_ba4f3_55 := gdJ6_getChars_ba4f3_52.2.2.1
def dJ6_getChars_ba4f3_56 := gdJ6_getChars_ba4f3_52.2.2.2.1
def dJ6_getChars_ba4f3_57 := gdJ6_getChars_ba4f3_52.2.2.2.2.1
def dJ6_getChars_ba4f3_60 := gdJ6_getChars_ba4f3_52.2.2.2.2.2.1
def dJ6_getChars_ba4f3_62 := gdJ6_getChars_ba4f3_52.2.2.2.2.2.2.1
def dJ6_getChars_ba4f3_65 := gdJ6_getChars_ba4f3_52.2.2.2.2.2.2.2
theorem gdJ6_getChars_ba4f3_67 : (decode cJ6_getChars_ba4f3 67 = .ok (.baload, 1)) ∧ (decode cJ6_getChars_ba4f3 68 = .ok (.bastore, 1)) ∧ (decode cJ6_getChars_ba4f3 69 = .ok (.goto (-47), 3)) ∧ (decode cJ6_getChars_ba4f3 72 = .ok (.aload_n 2, 1)) ∧ (decode cJ6_getChars_ba4f3 73 = .ok (.iinc 5 (-1), 3)) ∧ (decode cJ6_getChars_ba4f3 76 = .ok (.iload 5, 2)) ∧ (decode cJ6_getChars_ba4f3 78 = .ok (.getstatic 83, 3)) ∧ (decode cJ6_getChars_ba4f3 81 = .ok (.iload_n 0, 1)) := by decide +kernel
def dJ6_getChars_ba4f3_67 := gdJ6_getChars_ba4f3_67.1
def dJ6_getChars_ba4f3_68 := gdJ6_getChars_ba4f3_67.2.1
def dJ6_getChars_ba4f3_69 := gdJ6_getChars_ba4f3_67.2.2.1
def dJ6_getChars_ba4f3_72 := gdJ6_getChars_ba4f3_67.2.2.2.1
def dJ6_getChars_ba4f3_73 := gdJ6_getChars_ba4f3_67.2.2.2.2.1
def dJ6_getChars_ba4f3_76 := gdJ6_getChars_ba4f3_67.2.2.2.2.2.1
def dJ6_getChars_ba4f3_78 := gdJ6_getChars_ba4f3_67.2.2.2.2.2.2.1
def dJ6_getChars_ba4f3_81 := gdJ6_getChars_ba4f3_67.2.2.2.2.2.2.2
theorem gdJ6_getChars_ba4f3_82 : (decode cJ6_getChars_ba4f3 82 = .ok (.ineg, 1)) ∧ (decode cJ6_getChars_ba4f3 83 = .ok (.baload, 1)) ∧ (decode cJ6_getChars_ba4f3 84 = .ok (.bastore, 1)) ∧ (decode cJ6_getChars_ba4f3 85 = .ok (.iload_n 0, 1)) ∧ (decode cJ6_getChars_ba4f3 86 = .ok (.bipush (-9), 2)) ∧ (decode cJ6_getChars_ba4f3 88 = .ok (.if_icmp .ge 16, 3)) ∧ (decode cJ6_getChars_ba4f3 91 = .ok (.aload_n 2, 1)) ∧ (decode cJ6_getChars_ba4f3 92 = .ok (.iinc 5 (-1), 3)) := by decide +kernel
def dJ6_getChars_ba4f3_82 := gdJ6_getChars_ba4f3_82.1
def dJ6_getChars_ba4f3_83 := gdJ6_getChars_ba4f3_82.2.1
def dJ6_getChars_ba4f3_84 := gdJ6_getChars_ba4f3_82.2.2.1
def dJ6_getChars_ba4f3_85 := gdJ6_getChars_ba4f3_82.2.2.2.1
def dJ6_getChars_ba4f3_86 := gdJ6_getChars_ba4f3_82.2.2.2.2.1
def dJ6_getChars_ba4f3_88 := gdJ6_getChars_ba4f3_82.2.2.2.2.2.1
def dJ6_getChars_ba4f3_91 := gdJ6_getChars_ba4f3_82.2.2.2.2.2.2.1
def dJ6_getChars_ba4f3_92 := gdJ6_getChars_ba4f3_82.2.2.2.2.2.2.2
theorem gdJ6_getChars_ba4f3_95 : (decode cJ6_getChars_ba4f3 95 = .ok (.iload 5, 2)) ∧ (decode cJ6_getChars_ba4f3 97 = .ok (.getstatic 87, 3)) ∧ (decode cJ6_getChars_ba4f3 100 = .ok (.iload_n 0, 1)) ∧ (decode cJ6_getChars_ba4f3 101 = .ok (.ineg, 1)) ∧ (decode cJ6_getChars_ba4f3 102 = .ok (.baload, 1)) ∧ (decode cJ6_getChars_ba4f3 103 = .ok (.bastore, 1)) ∧ (decode cJ6_getChars_ba4f3 104 = .ok (.iload 6, 2)) ∧ (decode cJ6_getChars_ba4f3 106 = .ok (.ifCond .eq 12, 3)) := by decide +kernel
def dJ6_getChars_ba4f3_95 := gdJ6_getChars_ba4f3_95.1
def dJ6_getChars_ba4f3_97 := gdJ6_getChars_ba4f3_95.2.1
def dJ6_getChars_ba4f3_100 := gdJ6_getChars_ba4f3_95.2.2.1
def dJ6_getChars_ba4f3_101 := gdJ6_getChars_ba4f3_95.2.2.2.1
def dJ6_getChars_ba4f3_102 := gdJ6_getChars_ba4f3_95.2.2.2.2.1
def dJ6_getChars_ba4f3_103 := gdJ6_getChars_ba4f3_95.2.2.2.2.2.1
def dJ6_getChars_ba4f3_104 := gdJ6_getChars_ba4f3_95.2.2.2.2.2.2.1
def dJ6_getChars_ba4f3_106 := gdJ6_getChars_ba4f3_95.2.2.2.2.2.2.2
theorem gdJ6_getChars_ba4f3_109 : (decode cJ6_getChars_ba4f3 109 = .ok (.aload_n 2, 1)) ∧ (decode cJ6_getChars_ba4f3 110 = .ok (.iinc 5 (-1), 3)) ∧ (decode cJ6_getChars_ba4f3 113 = .ok (.iload 5, 2)) ∧ (decode cJ6_getChars_ba4f3 115 = .ok (.bipush 45, 2)) ∧ (decode cJ6_getChars_ba4f3 117 = .ok (.bastore, 1)) ∧ (decode cJ6_getChars_ba4f3 118 = .ok (.iload 5, 2)) ∧ (decode cJ6_getChars_ba4f3 120 = .ok (.ireturn, 1)) := by decide +kernel
def dJ6_getChars_ba4f3_109 := gdJ6_getChars_ba4f3_109.1
def dJ6_getChars_ba4f3_110 := gdJ6_getChars_ba4f3_109.2.1
def dJ6_getChars_ba4f3_113 := gdJ6_getChars_ba4f3_109.2.2.1
def dJ6_getChars_ba4f3_115 := gdJ6_getChars_ba4f3_109.2.2.2.1
def dJ6_getChars_ba4f3_117 := gdJ6_getChars_ba4f3_109.2.2.2.2.1
def dJ6_getChars_ba4f3_118 := gdJ6_getChars_ba4f3_109.2.2.2.2.2.1
def dJ6_getChars_ba4f3_120 := gdJ6_getChars_ba4f3_109.2.2.2.2.2.2
theorem gdJ6_stringSize_0f7a4_0 : (decode cJ6_stringSize_0f7a4 0 = .ok (.iconst 1, 1)) ∧ (decode cJ6_stringSize_0f7a4 1 = .ok (.istore_n 1, 1)) ∧ (decode cJ6_stringSize_0f7a4 2 = .ok (.iload_n 0, 1)) ∧ (decode cJ6_stringSize_0f7a4 3 = .ok (.ifCond .lt 8, 3)) ∧ (decode cJ6_stringSize_0f7a4 6 = .ok (.iconst 0, 1)) ∧ (decode cJ6_stringSize_0f7a4 7 = .ok (.istore_n 1, 1)) ∧ (decode cJ6_stringSize_0f7a4 8 = .ok (.iload_n 0, 1)) ∧ (decode cJ6_stringSize_0f7a4 9 = .ok (.ineg, 1)) := by decide +kernel
def dJ6_stringSize_0f7a4_0 := gdJ6_stringSize_0f7a4_0.1
def dJ6_stringSize_0f7a4_1 := gdJ6_stringSize_0f7a4_0.2.1
def dJ6_stringSize_0f7a4_2 := gdJ6_stringSize_0f7a4_0.2.2.1
def dJ6_stringSize_0f7a4_3 := gdJ6_stringSize_0f7a4_0.2.2.2.1
def dJ6_stringSize_0f7a4_6 := gdJ6_stringSize_0f7a4_0.2.2.2.2.1
def dJ6_stringSize_0f7a4_7 := gdJ6_stringSize_0f7a4_0.2.2.2.2.2.1
def dJ6_stringSize_0f7a4_8 := gdJ6_stringSize_0f7a4_0.2.2.2.2.2.2.1
def dJ6_stringSize_0f7a4_9 := gdJ6_stringSize_0f7a4_0.2.2.2.2.2.2.2
theorem gdJ6_stringSize_0f7a4_10 : (decode cJ6_stringSize_0f7a4 10 = .ok (.istore_n 0, 1)) ∧ (decode cJ6_stringSize_0f7a4 11 = .ok (.bipush (-10), 2)) ∧ (decode cJ6_stringSize_0f7a4 13 = .ok (.istore_n 2, 1)) ∧ (decode cJ6_stringSize_0f7a4 14 = .ok (.iconst 1, 1)) ∧ (decode cJ6_stringSize_0f7a4 15 = .ok (.istore_n 3, 1)) ∧ (decode cJ6_stringSize_0f7a4 16 = .ok (.iload_n 3, 1)) ∧ (decode cJ6_stringSize_0f7a4 17 = .ok (.bipush 10, 2)) ∧ (decode cJ6_stringSize_0f7a4 19 = .ok (.if_icmp .ge 23, 3)) := by decide +kernel
def dJ6_stringSize_0f7a4_10 := gdJ6_stringSize_0f7a4_10.1
def dJ6_stringSize_0f7a4_11 := gdJ6_stringSize_0f7a4_10.2.1
def dJ6_stringSize_0f7a4_13 := gdJ6_stringSize_0f7a4_10.2.2.1
def dJ6_stringSize_0f7a4_14 := gdJ6_stringSize_0f7a4_10.2.2.2.1
def dJ6_stringSize_0f7a4_15 := gdJ6_stringSize_0f7a4_10.2.2.2.2.1
def dJ6_stringSize_0f7a4_16 := gdJ6_stringSize_0f7a4_10.2.2.2.2.2.1
def dJ6_stringSize_0f7a4_17 := gdJ6_stringSize_0f7a4_10.2.2.2.2.2.2.1
def dJ6_stringSize_0f7a4_19 := gdJ6_stringSize_0f7a4_10.2.2.2.2.2.2.2
theorem gdJ6_stringSize_0f7a4_22 : (decode cJ6_stringSize_0f7a4 22 = .ok (.iload_n 0, 1)) ∧ (decode cJ6_stringSize_0f7a4 23 = .ok (.iload_n 2, 1)) ∧ (decode cJ6_stringSize_0f7a4 24 = .ok (.if_icmp .le 7, 3)) ∧ (decode cJ6_stringSize_0f7a4 27 = .ok (.iload_n 3, 1)) ∧ (decode cJ6_stringSize_0f7a4 28 = .ok (.iload_n 1, 1)) ∧ (decode cJ6_stringSize_0f7a4 29 = .ok (.iadd, 1)) ∧ (decode cJ6_stringSize_0f7a4 30 = .ok (.ireturn, 1)) ∧ (decode cJ6_stringSize_0f7a4 31 = .ok (.bipush 10, 2)) := by decide +kernel
def dJ6_stringSize_0f7a4_22 := gdJ6_stringSize_0f7a4_22.1
def dJ6_stringSize_0f7a4_23 := gdJ6_stringSize_0f7a4_22.2.1
def dJ6_stringSize_0f7a4_24 := gdJ6_stringSize_0f7a4_22.2.2.1
def dJ6_stringSize_0f7a4_27 := gdJ6_stringSize_0f7a4_22.2.2.2.1
def dJ6_stringSize_0f7a4_28 := gdJ6_stringSize_0f7a4_22.2.2.2.2.1
def dJ6_stringSize_0f7a4_29 := gdJ6_stringSize_0f7a4_22.2.2.2.2.2.1
def dJ6_stringSize_0f7a4_30 := gdJ6_stringSize_0f7a4_22.2.2.2.2.2.2.1
def dJ6_stringSize_0f7a4_31 := gdJ6_stringSize_0f7a4_22.2.2.2.2.2.2.2
theorem gdJ6_stringSize_0f7a4_33 : (decode cJ6_stringSize_0f7a4 33 = .ok (.iload_n 2, 1)) ∧ (decode cJ6_stringSize_0f7a4 34 = .ok (.imul, 1)) ∧ (decode cJ6_stringSize_0f7a4 35 = .ok (.istore_n 2, 1)) ∧ (decode cJ6_stringSize_0f7a4 36 = .ok (.iinc 3 1, 3)) ∧ (decode cJ6_stringSize_0f7a4 39 = .ok (.goto (-23), 3)) ∧ (decode cJ6_stringSize_0f7a4 42 = .ok (.bipush 10, 2)) ∧ (decode cJ6_stringSize_0f7a4 44 = .ok (.iload_n 1, 1)) ∧ (decode cJ6_stringSize_0f7a4 45 = .ok (.iadd, 1)) := by decide +kernel
def dJ6_stringSize_0f7a4_33 := gdJ6_stringSize_0f7a4_33.1
def dJ6_stringSize_0f7a4_34 := gdJ6_stringSize_0f7a4_33.2.1
def dJ6_stringSize_0f7a4_35 := gdJ6_stringSize_0f7a4_33.2.2.1
def dJ6_stringSize_0f7a4_36 := gdJ6_stringSize_0f7a4_33.2.2.2.1
def dJ6_stringSize_0f7a4_39 := gdJ6_stringSize_0f7a4_33.2.2.2.2.1
def dJ6_stringSize_0f7a4_42 := gdJ6_stringSize_0f7a4_33.2.2.2.2.2.1
def dJ6_stringSize_0f7a4_44 := gdJ6_stringSize_0f7a4_33.2.2.2.2.2.2.1
def dJ6_stringSize_0f7a4_45 := gdJ6_stringSize_0f7a4_33.2.2.2.2.2.2.2
theorem dJ6_stringSize_0f7a4_46 : decode cJ6_stringSize_0f7a4 46 = .ok (.ireturn, 1) := by decide +kernel
theorem gdJ6_bitCount_0f7a4_0 : (decode cJ6_bitCount_0f7a4 0 = .ok (.iload_n 0, 1)) ∧ (decode cJ6_bitCount_0f7a4 1 = .ok (.iload_n 0, 1)) ∧ (decode cJ6_bitCount_0f7a4 2 = .ok (.iconst 1, 1)) ∧ (decode cJ6_bitCount_0f7a4 3 = .ok (.iushr, 1)) ∧ (decode cJ6_bitCount_0f7a4 4 = .ok (.ldc_w 265, 3)) ∧ (decode cJ6_bitCount_0f7a4 7 = .ok (.iand, 1)) ∧ (decode cJ6_bitCount_0f7a4 8 = .ok (.isub, 1)) ∧ (decode cJ6_bitCount_0f7a4 9 = .ok (.istore_n 0, 1)) := by decide +kernel
def dJ6_bitCount_0f7a4_0 := gdJ6_bitCount_0f7a4_0.1
def dJ6_bitCount_0f7a4_1 := gdJ6_bitCount_0f7a4_0.2.1
def dJ6_bitCount_0f7a4_2 := gdJ6_bitCount_0f7a4_0.2.2.1
def dJ6_bitCount_0f7a4_3 := gdJ6_bitCount_0f7a4_0.2.2.2.1
def dJ6_bitCount_0f7a4_4 := gdJ6_bitCount_0f7a4_0.2.2.2.2.1
def dJ6_bitCount_0f7a4_7 := gdJ6_bitCount_0f7a4_0.2.2.2.2.2.1
def dJ6_bitCount_0f7a4_8 := gdJ6_bitCount_0f7a4_0.2.2.2.2.2.2.1
def dJ6_bitCount_0f7a4_9 := gdJ6_bitCount_0f7a4_0.2.2.2.2.2.2.2
theorem gdJ6_bitCount_0f7a4_10 : (decode cJ6_bitCount_0f7a4 10 = .ok (.iload_n 0, 1)) ∧ (decode cJ6_bitCount_0f7a4 11 = .ok (.ldc_w 266, 3)) ∧ (decode cJ6_bitCount_0f7a4 14 = .ok (.iand, 1)) ∧ (decode cJ6_bitCount_0f7a4 15 = .ok (.iload_n 0, 1)) ∧ (decode cJ6_bitCount_0f7a4 16 = .ok (.iconst 2, 1)) ∧ (decode cJ6_bitCount_0f7a4 17 = .ok (.iushr, 1)) ∧ (decode cJ6_bitCount_0f7a4 18 = .ok (.ldc_w 266, 3)) ∧ (decode cJ6_bitCount_0f7a4 21 = .ok (.iand, 1)) := by decide +kernel
def dJ6_bitCount_0f7a4_10 := gdJ6_bitCount_0f7a4_10.1
def dJ6_bitCount_0f7a4_11 := gdJ6_bitCount_0f7a4_10.2.1
def dJ6_bitCount_0f7a4_14 := gdJ6_bitCount_0f7a4_10.2.2.1
def dJ6_bitCount_0f7a4_15 := gdJ6_bitCount_0f7a4_10.2.2.2.1
def dJ6_bitCount_0f7a4_16 := gdJ6_bitCount_0f7a4_10.2.2.2.2.1
def dJ6_bitCount_0f7a4_17 := gdJ6_bitCount_0f7a4_10.2.2.2.2.2.1
def dJ6_bitCount_0f7a4_18 := gdJ6_bitCount_0f7a4_10.2.2.2.2.2.2.1
def dJ6_bitCount_0f7a4_21 := gdJ6_bitCount_0f7a4_10.2.2.2.2.2.2.2
theorem gdJ6_bitCount_0f7a4_22 : (decode cJ6_bitCount_0f7a4 22 = .ok (.iadd, 1)) ∧ (decode cJ6_bitCount_0f7a4 23 = .ok (.istore_n 0, 1)) ∧ (decode cJ6_bitCount_0f7a4 24 = .ok (.iload_n 0, 1)) ∧ (decode cJ6_bitCount_0f7a4 25 = .ok (.iload_n 0, 1)) ∧ (decode cJ6_bitCount_0f7a4 26 = .ok (.iconst 4, 1)) ∧ (decode cJ6_bitCount_0f7a4 27 = .ok (.iushr, 1)) ∧ (decode cJ6_bitCount_0f7a4 28 = .ok (.iadd, 1)) ∧ (decode cJ6_bitCount_0f7a4 29 = .ok (.ldc_w 267, 3)) := by decide +kernel
def dJ6_bitCount_0f7a4_22 := gdJ6_bitCount_0f7a4_22.1
def dJ6_bitCount_0f7a4_23 := gdJ6_bitCount_0f7a4_22.2.1
def dJ6_bitCount_0f7a4_24 := gdJ6_bitCount_0f7a4_22.2.2.1
def dJ6_bitCount_0f7a4_25 := gdJ6_bitCount_0f7a4_22.2.2.2.1
def dJ6_bitCount_0f7a4_26 := gdJ6_bitCount_0f7a4_22.2.2.2.2.1
def dJ6_bitCount_0f7a4_27 := gdJ6_bitCount_0f7a4_22.2.2.2.2.2.1
def dJ6_bitCount_0f7a4_28 := gdJ6_bitCount_0f7a4_22.2.2.2.2.2.2.1
def dJ6_bitCount_0f7a4_29 := gdJ6_bitCount_0f7a4_22.2.2.2.2.2.2.2
theorem gdJ6_bitCount_0f7a4_32 : (decode cJ6_bitCount_0f7a4 32 = .ok (.iand, 1)) ∧ (decode cJ6_bitCount_0f7a4 33 = .ok (.istore_n 0, 1)) ∧ (decode cJ6_bitCount_0f7a4 34 = .ok (.iload_n 0, 1)) ∧ (decode cJ6_bitCount_0f7a4 35 = .ok (.iload_n 0, 1)) ∧ (decode cJ6_bitCount_0f7a4 36 = .ok (.bipush 8, 2)) ∧ (decode cJ6_bitCount_0f7a4 38 = .ok (.iushr, 1)) ∧ (decode cJ6_bitCount_0f7a4 39 = .ok (.iadd, 1)) ∧ (decode cJ6_bitCount_0f7a4 40 = .ok (.istore_n 0, 1)) := by decide +kernel
def dJ6_bitCount_0f7a4_32 := gdJ6_bitCount_0f7a4_32.1
def dJ6_bitCount_0f7a4_33 := gdJ6_bitCount_0f7a4_32.2.1
def dJ6_bitCount_0f7a4_34 := gdJ6_bitCount_0f7a4_32.2.2.1
def dJ6_bitCount_0f7a4_35 := gdJ6_bitCount_0f7a4_32.2.2.2.1
def dJ6_bitCount_0f7a4_36 := gdJ6_bitCount_0f7a4_32.2.2.2.2.1
def dJ6_bitCount_0f7a4_38 := gdJ6_bitCount_0f7a4_32.2.2.2.2.2.1
def dJ6_bitCount_0f7a4_39 := gdJ6_bitCount_0f7a4_32.2.2.2.2.2.2.1
def dJ6_bitCount_0f7a4_40 := gdJ6_bitCount_0f7a4_32.2.2.2.2.2.2.2
theorem gdJ6_bitCount_0f7a4_41 : (decode cJ6_bitCount_0f7a4 41 = .ok (.iload_n 0, 1)) ∧ (decode cJ6_bitCount_0f7a4 42 = .ok (.iload_n 0, 1)) ∧ (decode cJ6_bitCount_0f7a4 43 = .ok (.bipush 16, 2)) ∧ (decode cJ6_bitCount_0f7a4 45 = .ok (.iushr, 1)) ∧ (decode cJ6_bitCount_0f7a4 46 = .ok (.iadd, 1)) ∧ (decode cJ6_bitCount_0f7a4 47 = .ok (.istore_n 0, 1)) ∧ (decode cJ6_bitCount_0f7a4 48 = .ok (.iload_n 0, 1)) ∧ (decode cJ6_bitCount_0f7a4 49 = .ok (.bipush 63, 2)) := by decide +kernel
def dJ6_bitCount_0f7a4_41 := gdJ6_bitCount_0f7a4_41.1
def dJ6_bitCount_0f7a4_42 := gdJ6_bitCount_0f7a4_41.2.1
def dJ6_bitCount_0f7a4_43 := gdJ6_bitCount_0f7a4_41.2.2.1
def dJ6_bitCount_0f7a4_45 := gdJ6_bitCount_0f7a4_41.2.2.2.1
def dJ6_bitCount_0f7a4_46 := gdJ6_bitCount_0f7a4_41.2.2.2.2.1
def dJ6_bitCount_0f7a4_47 := gdJ6_bitCount_0f7a4_41.2.2.2.2.2.1
def dJ6_bitCount_0f7a4_48 := gdJ6_bitCount_0f7a4_41.2.2.2.2.2.2.1
def dJ6_bitCount_0f7a4_49 := gdJ6_bitCount_0f7a4_41.2.2.2.2.2.2.2
theorem gdJ6_bitCount_0f7a4_51 : (decode cJ6_bitCount_0f7a4 51 = .ok (.iand, 1)) ∧ (decode cJ6_bitCount_0f7a4 52 = .ok (.ireturn, 1)) := by decide +kernel
def dJ6_bitCount_0f7a4_51 := gdJ6_bitCount_0f7a4_51.1
def dJ6_bitCount_0f7a4_52 := gdJ6_bitCount_0f7a4_51.2
theorem gdJ9_max_7cf53_0 : (decode cJ9_max_7cf53 0 = .ok (.iload_n 0, 1)) ∧ (decode cJ9_max_7cf53 1 = .ok (.iload_n 1, 1)) ∧ (decode cJ9_max_7cf53 2 = .ok (.if_icmp .lt 7, 3)) ∧ (decode cJ9_max_7cf53 5 = .ok (.iload_n 0, 1)) ∧ (decode cJ9_max_7cf53 6 = .ok (.goto 4, 3)) ∧ (decode cJ9_max_7cf53 9 = .ok (.iload_n 1, 1)) ∧ (decode cJ9_max_7cf53 10 = .ok (.ireturn, 1)) := by decide +kernel
def dJ9_max_7cf53_0 := gdJ9_max_7cf53_0.1
def dJ9_max_7cf53_1 := gdJ9_max_7cf53_0.2.1
def dJ9_max_7cf53_2 := gdJ9_max_7cf53_0.2.2.1
def dJ9_max_7cf53_5 := gdJ9_max_7cf53_0.2.2.2.1
def dJ9_max_7cf53_6 := gdJ9_max_7cf53_0.2.2.2.2.1
def dJ9_max_7cf53_9 := gdJ9_max_7cf53_0.2.2.2.2.2.1
def dJ9_max_7cf53_10 := gdJ9_max_7cf53_0.2.2.2.2.2.2
theorem gdJ9_min_7cf53_0 : (decode cJ9_min_7cf53 0 = .ok (.iload_n 0, 1)) ∧ (decode cJ9_min_7cf53 1 = .ok (.iload_n 1, 1)) ∧ (decode cJ9_min_7cf53 2 = .ok (.if_icmp .gt 7, 3)) ∧ (decode cJ9_min_7cf53 5 = .ok (.iload_n 0, 1)) ∧ (decode cJ9_min_7cf53 6 = .ok (.goto 4, 3)) ∧ (decode cJ9_min_7cf53 9 = .ok (.iload_n 1, 1)) ∧ (decode cJ9_min_7cf53 10 = .ok (.ireturn, 1)) := by decide +kernel
def dJ9_min_7cf53_0 := gdJ9_min_7cf53_0.1
def dJ9_min_7cf53_1 := gdJ9_min_7cf53_0.2.1
def dJ9_min_7cf53_2 := gdJ9_min_7cf53_0.2.2.1
def dJ9_min_7cf53_5 := gdJ9_min_7cf53_0.2.2.2.1
def dJ9_min_7cf53_6 := gdJ9_min_7cf53_0.2.2.2.2.1
def dJ9_min_7cf53_9 := gdJ9_min_7cf53_0.2.2.2.2.2.1
def dJ9_min_7cf53_10 := gdJ9_min_7cf53_0.2.2.2.2.2.2
theorem gdJ0_length_8abf5_0 : (decode cJ0_length_8abf5 0 = .ok (.aload_n 0, 1)) ∧ (decode cJ0_length_8abf5 1 = .ok (.getfield 9, 3)) ∧ (decode cJ0_length_8abf5 4 = .ok (.arraylength, 1)) ∧ (decode cJ0_length_8abf5 5 = .ok (.aload_n 0, 1)) ∧ (decode cJ0_length_8abf5 6 = .ok (.invokevirtual 335, 3)) ∧ (decode cJ0_length_8abf5 9 = .ok (.ishr, 1)) ∧ (decode cJ0_length_8abf5 10 = .ok (.ireturn, 1)) := by decide +kernel
def dJ0_length_8abf5_0 := gdJ0_length_8abf5_0.1
def dJ0_length_8abf5_1 := gdJ0_length_8abf5_0.2.1
def dJ0_length_8abf5_4 := gdJ0_length_8abf5_0.2.2.1
def dJ0_length_8abf5_5 := gdJ0_length_8abf5_0.2.2.2.1
def dJ0_length_8abf5_6 := gdJ0_length_8abf5_0.2.2.2.2.1
def dJ0_length_8abf5_9 := gdJ0_length_8abf5_0.2.2.2.2.2.1
def dJ0_length_8abf5_10 := gdJ0_length_8abf5_0.2.2.2.2.2.2
theorem gdJ0_charAt_5068e_0 : (decode cJ0_charAt_5068e 0 = .ok (.aload_n 0, 1)) ∧ (decode cJ0_charAt_5068e 1 = .ok (.invokevirtual 492, 3)) ∧ (decode cJ0_charAt_5068e 4 = .ok (.ifCond .eq 12, 3)) ∧ (decode cJ0_charAt_5068e 7 = .ok (.aload_n 0, 1)) ∧ (decode cJ0_charAt_5068e 8 = .ok (.getfield 9, 3)) ∧ (decode cJ0_charAt_5068e 11 = .ok (.iload_n 1, 1)) ∧ (decode cJ0_charAt_5068e 12 = .ok (.invokestatic 495, 3)) ∧ (decode cJ0_charAt_5068e 15 = .ok (.ireturn, 1)) := by decide +kernel
def dJ0_charAt_5068e_0 := gdJ0_charAt_5068e_0.1
def dJ0_charAt_5068e_1 := gdJ0_charAt_5068e_0.2.1
def dJ0_charAt_5068e_4 := gdJ0_charAt_5068e_0.2.2.1
def dJ0_charAt_5068e_7 := gdJ0_charAt_5068e_0.2.2.2.1
def dJ0_charAt_5068e_8 := gdJ0_charAt_5068e_0.2.2.2.2.1
def dJ0_charAt_5068e_11 := gdJ0_charAt_5068e_0.2.2.2.2.2.1
def dJ0_charAt_5068e_12 := gdJ0_charAt_5068e_0.2.2.2.2.2.2.1
def dJ0_charAt_5068e_15 := gdJ0_charAt_5068e_0.2.2.2.2.2.2.2
theorem gdJ0_charAt_5068e_16 : (decode cJ0_charAt_5068e 16 = .ok (.aload_n 0, 1)) ∧ (decode cJ0_charAt_5068e 17 = .ok (.getfield 9, 3)) ∧ (decode cJ0_charAt_5068e 20 = .ok (.iload_n 1, 1)) ∧ (decode cJ0_charAt_5068e 21 = .ok (.invokestatic 498, 3)) ∧ (decode cJ0_charAt_5068e 24 = .ok (.ireturn, 1)) := by decide +kernel
def dJ0_charAt_5068e_16 := gdJ0_charAt_5068e_16.1
def dJ0_charAt_5068e_17 := gdJ0_charAt_5068e_16.2.1
def dJ0_charAt_5068e_20 := gdJ0_charAt_5068e_16.2.2.1
def dJ0_charAt_5068e_21 := gdJ0_charAt_5068e_16.2.2.2.1
def dJ0_charAt_5068e_24 := gdJ0_charAt_5068e_16.2.2.2.2
theorem gdJ0_getBytes_840e7_0 : (decode cJ0_getBytes_840e7 0 = .ok (.aload_n 0, 1)) ∧ (decode cJ0_getBytes_840e7 1 = .ok (.invokevirtual 335, 3)) ∧ (decode cJ0_getBytes_840e7 4 = .ok (.iload_n 3, 1)) ∧ (decode cJ0_getBytes_840e7 5 = .ok (.if_icmp .ne 23, 3)) ∧ (decode cJ0_getBytes_840e7 8 = .ok (.aload_n 0, 1)) ∧ (decode cJ0_getBytes_840e7 9 = .ok (.getfield 9, 3)) ∧ (decode cJ0_getBytes_840e7 12 = .ok (.iconst 0, 1)) ∧ (decode cJ0_getBytes_840e7 13 = .ok (.aload_n 1, 1)) := by decide +kernel
def dJ0_getBytes_840e7_0 := gdJ0_getBytes_840e7_0.1
def dJ0_getBytes_840e7_1 := gdJ0_getBytes_840e7_0.2.1
def dJ0_getBytes_840e7_4 := gdJ0_getBytes_840e7_0.2.2.1
def dJ0_getBytes_840e7_5 := gdJ0_getBytes_840e7_0.2.2.2.1
def dJ0_getBytes_840e7_8 := gdJ0_getBytes_840e7_0.2.2.2.2.1
def dJ0_getBytes_840e7_9 := gdJ0_getBytes_840e7_0.2.2.2.2.2.1
def dJ0_getBytes_840e7_12 := gdJ0_getBytes_840e7_0.2.2.2.2.2.2.1
def dJ0_getBytes_840e7_13 := gdJ0_getBytes_840e7_0.2.2.2.2.2.2.2
theorem gdJ0_getBytes_840e7_14 : (decode cJ0_getBytes_840e7 14 = .ok (.iload_n 2, 1)) ∧ (decode cJ0_getBytes_840e7 15 = .ok (.iload_n 3, 1)) ∧ (decode cJ0_getBytes_840e7 16 = .ok (.ishl, 1)) ∧ (decode cJ0_getBytes_840e7 17 = .ok (.aload_n 0, 1)) ∧ (decode cJ0_getBytes_840e7 18 = .ok (.getfield 9, 3)) ∧ (decode cJ0_getBytes_840e7 21 = .ok (.arraylength, 1)) ∧ (decode cJ0_getBytes_840e7 22 = .ok (.invokestatic 212, 3)) ∧ (decode cJ0_getBytes_840e7 25 = .ok (.goto 18, 3)) := by decide +kernel
def dJ0_getBytes_840e7_14 := gdJ0_getBytes_840e7_14.1
def dJ0_getBytes_840e7_15 := gdJ0_getBytes_840e7_14.2.1
def dJ0_getBytes_840e7_16 := gdJ0_getBytes_840e7_14.2.2.1
def dJ0_getBytes_840e7_17 := gdJ0_getBytes_840e7_14.2.2.2.1
def dJ0_getBytes_840e7_18 := gdJ0_getBytes_840e7_14.2.2.2.2.1
def dJ0_getBytes_840e7_21 := gdJ0_getBytes_840e7_14.2.2.2.2.2.1
def dJ0_getBytes_840e7_22 := gdJ0_getBytes_840e7_14.2.2.2.2.2.2.1
def dJ0_getBytes_840e7_25 := gdJ0_getBytes_840e7_14.2.2.2.2.2.2.2
theorem gdJ0_getBytes_840e7_28 : (decode cJ0_getBytes_840e7 28 = .ok (.aload_n 0, 1)) ∧ (decode cJ0_getBytes_840e7 29 = .ok (.getfield 9, 3)) ∧ (decode cJ0_getBytes_840e7 32 = .ok (.iconst 0, 1)) ∧ (decode cJ0_getBytes_840e7 33 = .ok (.aload_n 1, 1)) ∧ (decode cJ0_getBytes_840e7 34 = .ok (.iload_n 2, 1)) ∧ (decode cJ0_getBytes_840e7 35 = .ok (.aload_n 0, 1)) ∧ (decode cJ0_getBytes_840e7 36 = .ok (.getfield 9, 3)) ∧ (decode cJ0_getBytes_840e7 39 = .ok (.arraylength, 1)) := by decide +kernel
def dJ0_getBytes_840e7_28 := gdJ0_getBytes_840e7_28.1
def dJ0_getBytes_840e7_29 := gdJ0_getBytes_840e7_28.2.1
def dJ0_getBytes_840e7_32 := gdJ0_getBytes_840e7_28.2.2.1
def dJ0_getBytes_840e7_33 := gdJ0_getBytes_840e7_28.2.2.2.1
def dJ0_getBytes_840e7_34 := gdJ0_getBytes_840e7_28.2.2.2.2.1
def dJ0_getBytes_840e7_35 := gdJ0_getBytes_840e7_28.2.2.2.2.2.1
def dJ0_getBytes_840e7_36 := gdJ0_getBytes_840e7_28.2.2.2.2.2.2.1
def dJ0_getBytes_840e7_39 := gdJ0_getBytes_840e7_28.2.2.2.2.2.2.2
theorem gdJ0_getBytes_840e7_40 : (decode cJ0_getBytes_840e7 40 = .ok (.invokestatic 106, 3)) ∧ (decode cJ0_getBytes_840e7 43 = .ok (.return_, 1)) := by decide +kernel
def dJ0_getBytes_840e7_40 := gdJ0_getBytes_840e7_40.1
def dJ0_getBytes_840e7_43 := gdJ0_getBytes_840e7_40.2
theorem gdJ0_coder_7d493_0 : (decode cJ0_coder_7d493 0 = .ok (.getstatic 38, 3)) ∧ (decode cJ0_coder_7d493 3 = .ok (.ifCond .eq 10, 3)) ∧ (decode cJ0_coder_7d493 6 = .ok (.aload_n 0, 1)) ∧ (decode cJ0_coder_7d493 7 = .ok (.getfield 15, 3)) ∧ (decode cJ0_coder_7d493 10 = .ok (.goto 4, 3)) ∧ (decode cJ0_coder_7d493 13 = .ok (.iconst 1, 1)) ∧ (decode cJ0_coder_7d493 14 = .ok (.ireturn, 1)) := by decide +kernel
def dJ0_coder_7d493_0 := gdJ0_coder_7d493_0.1
def dJ0_coder_7d493_3 := gdJ0_coder_7d493_0.2.1
def dJ0_coder_7d493_6 := gdJ0_coder_7d493_0.2.2.1
def dJ0_coder_7d493_7 := gdJ0_coder_7d493_0.2.2.2.1
def dJ0_coder_7d493_10 := gdJ0_coder_7d493_0.2.2.2.2.1
def dJ0_coder_7d493_13 := gdJ0_coder_7d493_0.2.2.2.2.2.1
def dJ0_coder_7d493_14 := gdJ0_coder_7d493_0.2.2.2.2.2.2
theorem gdJ0_isLatin1_aae02_0 : (decode cJ0_isLatin1_aae02 0 = .ok (.getstatic 38, 3)) ∧ (decode cJ0_isLatin1_aae02 3 = .ok (.ifCond .eq 14, 3)) ∧ (decode cJ0_isLatin1_aae02 6 = .ok (.aload_n 0, 1)) ∧ (decode cJ0_isLatin1_aae02 7 = .ok (.getfield 15, 3)) ∧ (decode cJ0_isLatin1_aae02 10 = .ok (.ifCond .ne 7, 3)) ∧ (decode cJ0_isLatin1_aae02 13 = .ok (.iconst 1, 1)) ∧ (decode cJ0_isLatin1_aae02 14 = .ok (.goto 4, 3)) ∧ (decode cJ0_isLatin1_aae02 17 = .ok (.iconst 0, 1)) := by decide +kernel
def dJ0_isLatin1_aae02_0 := gdJ0_isLatin1_aae02_0.1
def dJ0_isLatin1_aae02_3 := gdJ0_isLatin1_aae02_0.2.1
def dJ0_isLatin1_aae02_6 := gdJ0_isLatin1_aae02_0.2.2.1
def dJ0_isLatin1_aae02_7 := gdJ0_isLatin1_aae02_0.2.2.2.1
def dJ0_isLatin1_aae02_10 := gdJ0_isLatin1_aae02_0.2.2.2.2.1
def dJ0_isLatin1_aae02_13 := gdJ0_isLatin1_aae02_0.2.2.2.2.2.1
def dJ0_isLatin1_aae02_14 := gdJ0_isLatin1_aae02_0.2.2.2.2.2.2.1
def dJ0_isLatin1_aae02_17 := gdJ0_isLatin1_aae02_0.2.2.2.2.2.2.2
theorem dJ0_isLatin1_aae02_18 : decode cJ0_isLatin1_aae02 18 = .ok (.ireturn, 1) := by decide +kernel
theorem gdJ0_checkIndex_df160_0 : (decode cJ0_checkIndex_df160 0 = .ok (.iload_n 0, 1)) ∧ (decode cJ0_checkIndex_df160 1 = .ok (.iload_n 1, 1)) ∧ (decode cJ0_checkIndex_df160 2 = .ok (.getstatic 1053, 3)) ∧ (decode cJ0_checkIndex_df160 5 = .ok (.invokestatic 1059, 3)) ∧ (decode cJ0_checkIndex_df160 8 = .ok (.pop, 1)) ∧ (decode cJ0_checkIndex_df160 9 = .ok (.return_, 1)) := by decide +kernel
def dJ0_checkIndex_df160_0 := gdJ0_checkIndex_df160_0.1
def dJ0_checkIndex_df160_1 := gdJ0_checkIndex_df160_0.2.1
def dJ0_checkIndex_df160_2 := gdJ0_checkIndex_df160_0.2.2.1
def dJ0_checkIndex_df160_5 := gdJ0_checkIndex_df160_0.2.2.2.1
def dJ0_checkIndex_df160_8 := gdJ0_checkIndex_df160_0.2.2.2.2.1
def dJ0_checkIndex_df160_9 := gdJ0_checkIndex_df160_0.2.2.2.2.2
theorem gdJ0_checkBoundsOffCount_cabcc_0 : (decode cJ0_checkBoundsOffCount_cabcc 0 = .ok (.iload_n 0, 1)) ∧ (decode cJ0_checkBoundsOffCount_cabcc 1 = .ok (.iload_n 1, 1)) ∧ (decode cJ0_checkBoundsOffCount_cabcc 2 = .ok (.iload_n 2, 1)) ∧ (decode cJ0_checkBoundsOffCount_cabcc 3 = .ok (.getstatic 1053, 3)) ∧ (decode cJ0_checkBoundsOffCount_cabcc 6 = .ok (.invokestatic 1065, 3)) ∧ (decode cJ0_checkBoundsOffCount_cabcc 9 = .ok (.ireturn, 1)) := by decide +kernel
def dJ0_checkBoundsOffCount_cabcc_0 := gdJ0_checkBoundsOffCount_cabcc_0.1
def dJ0_checkBoundsOffCount_cabcc_1 := gdJ0_checkBoundsOffCount_cabcc_0.2.1
def dJ0_checkBoundsOffCount_cabcc_2 := gdJ0_checkBoundsOffCount_cabcc_0.2.2.1
def dJ0_checkBoundsOffCount_cabcc_3 := gdJ0_checkBoundsOffCount_cabcc_0.2.2.2.1
def dJ0_checkBoundsOffCount_cabcc_6 := gdJ0_checkBoundsOffCount_cabcc_0.2.2.2.2.1
def dJ0_checkBoundsOffCount_cabcc_9 := gdJ0_checkBoundsOffCount_cabcc_0.2.2.2.2.2
theorem gdJ0_checkBoundsBeginEnd_23922_0 : (decode cJ0_checkBoundsBeginEnd_23922 0 = .ok (.iload_n 0, 1)) ∧ (decode cJ0_checkBoundsBeginEnd_23922 1 = .ok (.iload_n 1, 1)) ∧ (decode cJ0_checkBoundsBeginEnd_23922 2 = .ok (.iload_n 2, 1)) ∧ (decode cJ0_checkBoundsBeginEnd_23922 3 = .ok (.getstatic 1053, 3)) ∧ (decode cJ0_checkBoundsBeginEnd_23922 6 = .ok (.invokestatic 1062, 3)) ∧ (decode cJ0_checkBoundsBeginEnd_23922 9 = .ok (.pop, 1)) ∧ (decode cJ0_checkBoundsBeginEnd_23922 10 = .ok (.return_, 1)) := by decide +kernel
def dJ0_checkBoundsBeginEnd_23922_0 := gdJ0_checkBoundsBeginEnd_23922_0.1
def dJ0_checkBoundsBeginEnd_23922_1 := gdJ0_checkBoundsBeginEnd_23922_0.2.1
def dJ0_checkBoundsBeginEnd_23922_2 := gdJ0_checkBoundsBeginEnd_23922_0.2.2.1
def dJ0_checkBoundsBeginEnd_23922_3 := gdJ0_checkBoundsBeginEnd_23922_0.2.2.2.1
def dJ0_checkBoundsBeginEnd_23922_6 := gdJ0_checkBoundsBeginEnd_23922_0.2.2.2.2.1
def dJ0_checkBoundsBeginEnd_23922_9 := gdJ0_checkBoundsBeginEnd_23922_0.2.2.2.2.2.1
def dJ0_checkBoundsBeginEnd_23922_10 := gdJ0_checkBoundsBeginEnd_23922_0.2.2.2.2.2.2
theorem gdJ4_init_da8c8_0 : (decode cJ4_init_da8c8 0 = .ok (.aload_n 0, 1)) ∧ (decode cJ4_init_da8c8 1 = .ok (.bipush 16, 2)) ∧ (decode cJ4_init_da8c8 3 = .ok (.invokespecial 1, 3)) ∧ (decode cJ4_init_da8c8 6 = .ok (.return_, 1)) := by decide +kernel
def dJ4_init_da8c8_0 := gdJ4_init_da8c8_0.1
def dJ4_init_da8c8_1 := gdJ4_init_da8c8_0.2.1
def dJ4_init_da8c8_3 := gdJ4_init_da8c8_0.2.2.1
def dJ4_init_da8c8_6 := gdJ4_init_da8c8_0.2.2.2
theorem gdJ4_append_15ec4_0 : (decode cJ4_append_15ec4 0 = .ok (.aload_n 0, 1)) ∧ (decode cJ4_append_15ec4 1 = .ok (.aload_n 1, 1)) ∧ (decode cJ4_append_15ec4 2 = .ok (.invokespecial 29, 3)) ∧ (decode cJ4_append_15ec4 5 = .ok (.pop, 1)) ∧ (decode cJ4_append_15ec4 6 = .ok (.aload_n 0, 1)) ∧ (decode cJ4_append_15ec4 7 = .ok (.areturn, 1)) := by decide +kernel
def dJ4_append_15ec4_0 := gdJ4_append_15ec4_0.1
def dJ4_append_15ec4_1 := gdJ4_append_15ec4_0.2.1
def dJ4_append_15ec4_2 := gdJ4_append_15ec4_0.2.2.1
def dJ4_append_15ec4_5 := gdJ4_append_15ec4_0.2.2.2.1
def dJ4_append_15ec4_6 := gdJ4_append_15ec4_0.2.2.2.2.1
def dJ4_append_15ec4_7 := gdJ4_append_15ec4_0.2.2.2.2.2
theorem gdJ4_append_cf468_0 : (decode cJ4_append_cf468 0 = .ok (.aload_n 0, 1)) ∧ (decode cJ4_append_cf468 1 = .ok (.iload_n 1, 1)) ∧ (decode cJ4_append_cf468 2 = .ok (.invokespecial 50, 3)) ∧ (decode cJ4_append_cf468 5 = .ok (.pop, 1)) ∧ (decode cJ4_append_cf468 6 = .ok (.aload_n 0, 1)) ∧ (decode cJ4_append_cf468 7 = .ok (.areturn, 1)) := by decide +kernel
def dJ4_append_cf468_0 := gdJ4_append_cf468_0.1
def dJ4_append_cf468_1 := gdJ4_append_cf468_0.2.1
def dJ4_append_cf468_2 := gdJ4_append_cf468_0.2.2.1
def dJ4_append_cf468_5 := gdJ4_append_cf468_0.2.2.2.1
def dJ4_append_cf468_6 := gdJ4_append_cf468_0.2.2.2.2.1
def dJ4_append_cf468_7 := gdJ4_append_cf468_0.2.2.2.2.2
theorem gdJ4_append_bf812_0 : (decode cJ4_append_bf812 0 = .ok (.aload_n 0, 1)) ∧ (decode cJ4_append_bf812 1 = .ok (.iload_n 1, 1)) ∧ (decode cJ4_append_bf812 2 = .ok (.invokespecial 53, 3)) ∧ (decode cJ4_append_bf812 5 = .ok (.pop, 1)) ∧ (decode cJ4_append_bf812 6 = .ok (.aload_n 0, 1)) ∧ (decode cJ4_append_bf812 7 = .ok (.areturn, 1)) := by decide +kernel
def dJ4_append_bf812_0 := gdJ4_append_bf812_0.1
def dJ4_append_bf812_1 := gdJ4_append_bf812_0.2.1
def dJ4_append_bf812_2 := gdJ4_append_bf812_0.2.2.1
def dJ4_append_bf812_5 := gdJ4_append_bf812_0.2.2.2.1
def dJ4_append_bf812_6 := gdJ4_append_bf812_0.2.2.2.2.1
def dJ4_append_bf812_7 := gdJ4_append_bf812_0.2.2.2.2.2
theorem gdJ4_charAt_5068e_0 : (decode cJ4_charAt_5068e 0 = .ok (.aload_n 0, 1)) ∧ (decode cJ4_charAt_5068e 1 = .ok (.iload_n 1, 1)) ∧ (decode cJ4_charAt_5068e 2 = .ok (.invokespecial 329, 3)) ∧ (decode cJ4_charAt_5068e 5 = .ok (.ireturn, 1)) := by decide +kernel
def dJ4_charAt_5068e_0 := gdJ4_charAt_5068e_0.1
def dJ4_charAt_5068e_1 := gdJ4_charAt_5068e_0.2.1
def dJ4_charAt_5068e_2 := gdJ4_charAt_5068e_0.2.2.1
def dJ4_charAt_5068e_5 := gdJ4_charAt_5068e_0.2.2.2
theorem gdJ4_setLength_d00df_0 : (decode cJ4_setLength_d00df 0 = .ok (.aload_n 0, 1)) ∧ (decode cJ4_setLength_d00df 1 = .ok (.iload_n 1, 1)) ∧ (decode cJ4_setLength_d00df 2 = .ok (.invokespecial 333, 3)) ∧ (decode cJ4_setLength_d00df 5 = .ok (.return_, 1)) := by decide +kernel
def dJ4_setLength_d00df_0 := gdJ4_setLength_d00df_0.1
def dJ4_setLength_d00df_1 := gdJ4_setLength_d00df_0.2.1
def dJ4_setLength_d00df_2 := gdJ4_setLength_d00df_0.2.2.1
def dJ4_setLength_d00df_5 := gdJ4_setLength_d00df_0.2.2.2
theorem gdJ4_length_8abf5_0 : (decode cJ4_length_8abf5 0 = .ok (.aload_n 0, 1)) ∧ (decode cJ4_length_8abf5 1 = .ok (.invokespecial 343, 3)) ∧ (decode cJ4_length_8abf5 4 = .ok (.ireturn, 1)) := by decide +kernel
def dJ4_length_8abf5_0 := gdJ4_length_8abf5_0.1
def dJ4_length_8abf5_1 := gdJ4_length_8abf5_0.2.1
def dJ4_length_8abf5_4 := gdJ4_length_8abf5_0.2.2
theorem gdJ1_charAt_3b067_0 : (decode cJ1_charAt_3b067 0 = .ok (.iload_n 1, 1)) ∧ (decode cJ1_charAt_3b067 1 = .ok (.aload_n 0, 1)) ∧ (decode cJ1_charAt_3b067 2 = .ok (.arraylength, 1)) ∧ (decode cJ1_charAt_3b067 3 = .ok (.invokestatic 9, 3)) ∧ (decode cJ1_charAt_3b067 6 = .ok (.aload_n 0, 1)) ∧ (decode cJ1_charAt_3b067 7 = .ok (.iload_n 1, 1)) ∧ (decode cJ1_charAt_3b067 8 = .ok (.baload, 1)) ∧ (decode cJ1_charAt_3b067 9 = .ok (.sipush 255, 3)) := by decide +kernel
def dJ1_charAt_3b067_0 := gdJ1_charAt_3b067_0.1
def dJ1_charAt_3b067_1 := gdJ1_charAt_3b067_0.2.1
def dJ1_charAt_3b067_2 := gdJ1_charAt_3b067_0.2.2.1
def dJ1_charAt_3b067_3 := gdJ1_charAt_3b067_0.2.2.2.1
def dJ1_charAt_3b067_6 := gdJ1_charAt_3b067_0.2.2.2.2.1
def dJ1_charAt_3b067_7 := gdJ1_charAt_3b067_0.2.2.2.2.2.1
def dJ1_charAt_3b067_8 := gdJ1_charAt_3b067_0.2.2.2.2.2.2.1
def dJ1_charAt_3b067_9 := gdJ1_charAt_3b067_0.2.2.2.2.2.2.2
theorem gdJ1_charAt_3b067_12 : (decode cJ1_charAt_3b067 12 = .ok (.iand, 1)) ∧ (decode cJ1_charAt_3b067 13 = .ok (.i2c, 1)) ∧ (decode cJ1_charAt_3b067 14 = .ok (.ireturn, 1)) := by decide +kernel
def dJ1_charAt_3b067_12 := gdJ1_charAt_3b067_12.1
def dJ1_charAt_3b067_13 := gdJ1_charAt_3b067_12.2.1
def dJ1_charAt_3b067_14 := gdJ1_charAt_3b067_12.2.2
theorem gdJ1_canEncode_fc78d_0 : (decode cJ1_canEncode_fc78d 0 = .ok (.iload_n 0, 1)) ∧ (decode cJ1_canEncode_fc78d 1 = .ok (.sipush 255, 3)) ∧ (decode cJ1_canEncode_fc78d 4 = .ok (.if_icmp .gt 7, 3)) ∧ (decode cJ1_canEncode_fc78d 7 = .ok (.iconst 1, 1)) ∧ (decode cJ1_canEncode_fc78d 8 = .ok (.goto 4, 3)) ∧ (decode cJ1_canEncode_fc78d 11 = .ok (.iconst 0, 1)) ∧ (decode cJ1_canEncode_fc78d 12 = .ok (.ireturn, 1)) := by decide +kernel
def dJ1_canEncode_fc78d_0 := gdJ1_canEncode_fc78d_0.1
def dJ1_canEncode_fc78d_1 := gdJ1_canEncode_fc78d_0.2.1
def dJ1_canEncode_fc78d_4 := gdJ1_canEncode_fc78d_0.2.2.1
def dJ1_canEncode_fc78d_7 := gdJ1_canEncode_fc78d_0.2.2.2.1
def dJ1_canEncode_fc78d_8 := gdJ1_canEncode_fc78d_0.2.2.2.2.1
def dJ1_canEncode_fc78d_11 := gdJ1_canEncode_fc78d_0.2.2.2.2.2.1
def dJ1_canEncode_fc78d_12 := gdJ1_canEncode_fc78d_0.2.2.2.2.2.2
theorem gdJ1_fillNull_b72d1_0 : (decode cJ1_fillNull_b72d1 0 = .ok (.aload_n 0, 1)) ∧ (decode cJ1_fillNull_b72d1 1 = .ok (.iload_n 1, 1)) ∧ (decode cJ1_fillNull_b72d1 2 = .ok (.iload_n 2, 1)) ∧ (decode cJ1_fillNull_b72d1 3 = .ok (.iconst 0, 1)) ∧ (decode cJ1_fillNull_b72d1 4 = .ok (.invokestatic 236, 3)) ∧ (decode cJ1_fillNull_b72d1 7 = .ok (.return_, 1)) := by decide +kernel
def dJ1_fillNull_b72d1_0 := gdJ1_fillNull_b72d1_0.1
def dJ1_fillNull_b72d1_1 := gdJ1_fillNull_b72d1_0.2.1
def dJ1_fillNull_b72d1_2 := gdJ1_fillNull_b72d1_0.2.2.1
def dJ1_fillNull_b72d1_3 := gdJ1_fillNull_b72d1_0.2.2.2.1
def dJ1_fillNull_b72d1_4 := gdJ1_fillNull_b72d1_0.2.2.2.2.1
def dJ1_fillNull_b72d1_7 := gdJ1_fillNull_b72d1_0.2.2.2.2.2
theorem gdJ1_inflate_0e8fd_0 : (decode cJ1_inflate_0e8fd 0 = .ok (.aload_n 0, 1)) ∧ (decode cJ1_inflate_0e8fd 1 = .ok (.iload_n 1, 1)) ∧ (decode cJ1_inflate_0e8fd 2 = .ok (.aload_n 2, 1)) ∧ (decode cJ1_inflate_0e8fd 3 = .ok (.iload_n 3, 1)) ∧ (decode cJ1_inflate_0e8fd 4 = .ok (.iload 4, 2)) ∧ (decode cJ1_inflate_0e8fd 6 = .ok (.invokestatic 240, 3)) ∧ (decode cJ1_inflate_0e8fd 9 = .ok (.return_, 1)) := by decide +kernel
def dJ1_inflate_0e8fd_0 := gdJ1_inflate_0e8fd_0.1
def dJ1_inflate_0e8fd_1 := gdJ1_inflate_0e8fd_0.2.1
def dJ1_inflate_0e8fd_2 := gdJ1_inflate_0e8fd_0.2.2.1
def dJ1_inflate_0e8fd_3 := gdJ1_inflate_0e8fd_0.2.2.2.1
def dJ1_inflate_0e8fd_4 := gdJ1_inflate_0e8fd_0.2.2.2.2.1
def dJ1_inflate_0e8fd_6 := gdJ1_inflate_0e8fd_0.2.2.2.2.2.1
def dJ1_inflate_0e8fd_9 := gdJ1_inflate_0e8fd_0.2.2.2.2.2.2
theorem gdJ2_newBytesFor_77867_0 : (decode cJ2_newBytesFor_77867 0 = .ok (.iload_n 0, 1)) ∧ (decode cJ2_newBytesFor_77867 1 = .ok (.invokestatic 11, 3)) ∧ (decode cJ2_newBytesFor_77867 4 = .ok (.newarray .byte, 2)) ∧ (decode cJ2_newBytesFor_77867 6 = .ok (.areturn, 1)) := by decide +kernel
def dJ2_newBytesFor_77867_0 := gdJ2_newBytesFor_77867_0.1
def dJ2_newBytesFor_77867_1 := gdJ2_newBytesFor_77867_0.2.1
def dJ2_newBytesFor_77867_4 := gdJ2_newBytesFor_77867_0.2.2.1
def dJ2_newBytesFor_77867_6 := gdJ2_newBytesFor_77867_0.2.2.2
theorem gdJ2_newBytesLength_0f7a4_0 : (decode cJ2_newBytesLength_0f7a4 0 = .ok (.iload_n 0, 1)) ∧ (decode cJ2_newBytesLength_0f7a4 1 = .ok (.ifCond .ge 11, 3)) ∧ (decode cJ2_newBytesLength_0f7a4 4 = .ok (.new 17, 3)) ∧ (decode cJ2_newBytesLength_0f7a4 7 = .ok (.dup, 1)) ∧ (decode cJ2_newBytesLength_0f7a4 8 = .ok (.invokespecial 19, 3)) ∧ (decode cJ2_newBytesLength_0f7a4 11 = .ok (.athrow, 1)) ∧ (decode cJ2_newBytesLength_0f7a4 12 = .ok (.iload_n 0, 1)) ∧ (decode cJ2_newBytesLength_0f7a4 13 = .ok (.ldc 20, 2)) := by decide +kernel
def dJ2_newBytesLength_0f7a4_0 := gdJ2_newBytesLength_0f7a4_0.1
def dJ2_newBytesLength_0f7a4_1 := gdJ2_newBytesLength_0f7a4_0.2.1
def dJ2_newBytesLength_0f7a4_4 := gdJ2_newBytesLength_0f7a4_0.2.2.1
def dJ2_newBytesLength_0f7a4_7 := gdJ2_newBytesLength_0f7a4_0.2.2.2.1
def dJ2_newBytesLength_0f7a4_8 := gdJ2_newBytesLength_0f7a4_0.2.2.2.2.1
def dJ2_newBytesLength_0f7a4_11 := gdJ2_newBytesLength_0f7a4_0.2.2.2.2.2.1
def dJ2_newBytesLength_0f7a4_12 := gdJ2_newBytesLength_0f7a4_0.2.2.2.2.2.2.1
def dJ2_newBytesLength_0f7a4_13 := gdJ2_newBytesLength_0f7a4_0.2.2.2.2.2.2.2
theorem gdJ2_newBytesLength_0f7a4_15 : (decode cJ2_newBytesLength_0f7a4 15 = .ok (.if_icmp .lt 40, 3)) ∧ (decode cJ2_newBytesLength_0f7a4 18 = .ok (.new 21, 3)) ∧ (decode cJ2_newBytesLength_0f7a4 21 = .ok (.dup, 1)) ∧ (decode cJ2_newBytesLength_0f7a4 22 = .ok (.new 23, 3)) ∧ (decode cJ2_newBytesLength_0f7a4 25 = .ok (.dup, 1)) ∧ (decode cJ2_newBytesLength_0f7a4 26 = .ok (.invokespecial 25, 3)) ∧ (decode cJ2_newBytesLength_0f7a4 29 = .ok (.ldc 26, 2)) ∧ (decode cJ2_newBytesLength_0f7a4 31 = .ok (.invokevirtual 28, 3)) := by decide +kernel
def dJ2_newBytesLength_0f7a4_15 := gdJ2_newBytesLength_0f7a4_15.1
def dJ2_newBytesLength_0f7a4_18 := gdJ2_newBytesLength_0f7a4_15.2.1
def dJ2_newBytesLength_0f7a4_21 := gdJ2_newBytesLength_0f7a4_15.2.2.1
def dJ2_newBytesLength_0f7a4_22 := gdJ2_newBytesLength_0f7a4_15.2.2.2.1
def dJ2_newBytesLength_0f7a4_25 := gdJ2_newBytesLength_0f7a4_15.2.2.2.2.1
def dJ2_newBytesLength_0f7a4_26 := gdJ2_newBytesLength_0f7a4_15.2.2.2.2.2.1
def dJ2_newBytesLength_0f7a4_29 := gdJ2_newBytesLength_0f7a4_15.2.2.2.2.2.2.1
def dJ2_newBytesLength_0f7a4_31 := gdJ2_newBytesLength_0f7a4_15.2.2.2.2.2.2.2
theorem gdJ2_newBytesLength_0f7a4_34 : (decode cJ2_newBytesLength_0f7a4 34 = .ok (.iload_n 0, 1)) ∧ (decode cJ2_newBytesLength_0f7a4 35 = .ok (.invokevirtual 32, 3)) ∧ (decode cJ2_newBytesLength_0f7a4 38 = .ok (.ldc 35, 2)) ∧ (decode cJ2_newBytesLength_0f7a4 40 = .ok (.invokevirtual 28, 3)) ∧ (decode cJ2_newBytesLength_0f7a4 43 = .ok (.ldc 20, 2)) ∧ (decode cJ2_newBytesLength_0f7a4 45 = .ok (.invokevirtual 32, 3)) ∧ (decode cJ2_newBytesLength_0f7a4 48 = .ok (.invokevirtual 37, 3)) ∧ (decode cJ2_newBytesLength_0f7a4 51 = .ok (.invokespecial 41, 3)) := by decide +kernel
def dJ2_newBytesLength_0f7a4_34 := gdJ2_newBytesLength_0f7a4_34.1
def dJ2_newBytesLength_0f7a4_35 := gdJ2_newBytesLength_0f7a4_34.2.1
def dJ2_newBytesLength_0f7a4_38 := gdJ2_newBytesLength_0f7a4_34.2.2.1
def dJ2_newBytesLength_0f7a4_40 := gdJ2_newBytesLength_0f7a4_34.2.2.2.1
def dJ2_newBytesLength_0f7a4_43 := gdJ2_newBytesLength_0f7a4_34.2.2.2.2.1
def dJ2_newBytesLength_0f7a4_45 := gdJ2_newBytesLength_0f7a4_34.2.2.2.2.2.1
def dJ2_newBytesLength_0f7a4_48 := gdJ2_newBytesLength_0f7a4_34.2.2.2.2.2.2.1
def dJ2_newBytesLength_0f7a4_51 := gdJ2_newBytesLength_0f7a4_34.2.2.2.2.2.2.2
theorem gdJ2_newBytesLength_0f7a4_54 : (decode cJ2_newBytesLength_0f7a4 54 = .ok (.athrow, 1)) ∧ (decode cJ2_newBytesLength_0f7a4 55 = .ok (.iload_n 0, 1)) ∧ (decode cJ2_newBytesLength_0f7a4 56 = .ok (.iconst 1, 1)) ∧ (decode cJ2_newBytesLength_0f7a4 57 = .ok (.ishl, 1)) ∧ (decode cJ2_newBytesLength_0f7a4 58 = .ok (.ireturn, 1)) := by decide +kernel
def dJ2_newBytesLength_0f7a4_54 := gdJ2_newBytesLength_0f7a4_54.1
def dJ2_newBytesLength_0f7a4_55 := gdJ2_newBytesLength_0f7a4_54.2.1
def dJ2_newBytesLength_0f7a4_56 := gdJ2_newBytesLength_0f7a4_54.2.2.1
def dJ2_newBytesLength_0f7a4_57 := gdJ2_newBytesLength_0f7a4_54.2.2.2.1
def dJ2_newBytesLength_0f7a4_58 := gdJ2_newBytesLength_0f7a4_54.2.2.2.2
theorem gdJ2_putChar_b72d1_0 : (decode cJ2_putChar_b72d1 0 = .ok (.getstatic 44, 3)) ∧ (decode cJ2_putChar_b72d1 3 = .ok (.ifCond .ne 25, 3)) ∧ (decode cJ2_putChar_b72d1 6 = .ok (.iload_n 1, 1)) ∧ (decode cJ2_putChar_b72d1 7 = .ok (.ifCond .lt 11, 3)) ∧ (decode cJ2_putChar_b72d1 10 = .ok (.iload_n 1, 1)) ∧ (decode cJ2_putChar_b72d1 11 = .ok (.aload_n 0, 1)) ∧ (decode cJ2_putChar_b72d1 12 = .ok (.invokestatic 48, 3)) ∧ (decode cJ2_putChar_b72d1 15 = .ok (.if_icmp .lt 13, 3)) := by decide +kernel
def dJ2_putChar_b72d1_0 := gdJ2_putChar_b72d1_0.1
def dJ2_putChar_b72d1_3 := gdJ2_putChar_b72d1_0.2.1
def dJ2_putChar_b72d1_6 := gdJ2_putChar_b72d1_0.2.2.1
def dJ2_putChar_b72d1_7 := gdJ2_putChar_b72d1_0.2.2.2.1
def dJ2_putChar_b72d1_10 := gdJ2_putChar_b72d1_0.2.2.2.2.1
def dJ2_putChar_b72d1_11 := gdJ2_putChar_b72d1_0.2.2.2.2.2.1
def dJ2_putChar_b72d1_12 := gdJ2_putChar_b72d1_0.2.2.2.2.2.2.1
def dJ2_putChar_b72d1_15 := gdJ2_putChar_b72d1_0.2.2.2.2.2.2.2
theorem gdJ2_putChar_b72d1_18 : (decode cJ2_putChar_b72d1 18 = .ok (.new 52, 3)) ∧ (decode cJ2_putChar_b72d1 21 = .ok (.dup, 1)) ∧ (decode cJ2_putChar_b72d1 22 = .ok (.ldc 54, 2)) ∧ (decode cJ2_putChar_b72d1 24 = .ok (.invokespecial 56, 3)) ∧ (decode cJ2_putChar_b72d1 27 = .ok (.athrow, 1)) ∧ (decode cJ2_putChar_b72d1 28 = .ok (.iload_n 1, 1)) ∧ (decode cJ2_putChar_b72d1 29 = .ok (.iconst 1, 1)) ∧ (decode cJ2_putChar_b72d1 30 = .ok (.ishl, 1)) := by decide +kernel
def dJ2_putChar_b72d1_18 := gdJ2_putChar_b72d1_18.1
def dJ2_putChar_b72d1_21 := gdJ2_putChar_b72d1_18.2.1
def dJ2_putChar_b72d1_22 := gdJ2_putChar_b72d1_18.2.2.1
def dJ2_putChar_b72d1_24 := gdJ2_putChar_b72d1_18.2.2.2.1
def dJ2_putChar_b72d1_27 := gdJ2_putChar_b72d1_18.2.2.2.2.1
def dJ2_putChar_b72d1_28 := gdJ2_putChar_b72d1_18.2.2.2.2.2.1
def dJ2_putChar_b72d1_29 := gdJ2_putChar_b72d1_18.2.2.2.2.2.2.1
def dJ2_putChar_b72d1_30 := gdJ2_putChar_b72d1_18.2.2.2.2.2.2.2
theorem gdJ2_putChar_b72d1_31 : (decode cJ2_putChar_b72d1 31 = .ok (.istore_n 1, 1)) ∧ (decode cJ2_putChar_b72d1 32 = .ok (.aload_n 0, 1)) ∧ (decode cJ2_putChar_b72d1 33 = .ok (.iload_n 1, 1)) ∧ (decode cJ2_putChar_b72d1 34 = .ok (.iinc 1 1, 3)) ∧ (decode cJ2_putChar_b72d1 37 = .ok (.iload_n 2, 1)) ∧ (decode cJ2_putChar_b72d1 38 = .ok (.getstatic 59, 3)) ∧ (decode cJ2_putChar_b72d1 41 = .ok (.ishr, 1)) ∧ (decode cJ2_putChar_b72d1 42 = .ok (.i2b, 1)) := by decide +kernel
def dJ2_putChar_b72d1_31 := gdJ2_putChar_b72d1_31.1
def dJ2_putChar_b72d1_32 := gdJ2_putChar_b72d1_31.2.1
def dJ2_putChar_b72d1_33 := gdJ2_putChar_b72d1_31.2.2.1
def dJ2_putChar_b72d1_34 := gdJ2_putChar_b72d1_31.2.2.2.1
def dJ2_putChar_b72d1_37 := gdJ2_putChar_b72d1_31.2.2.2.2.1
def dJ2_putChar_b72d1_38 := gdJ2_putChar_b72d1_31.2.2.2.2.2.1
def dJ2_putChar_b72d1_41 := gdJ2_putChar_b72d1_31.2.2.2.2.2.2.1
def dJ2_putChar_b72d1_42 := gdJ2_putChar_b72d1_31.2.2.2.2.2.2.2
theorem gdJ2_putChar_b72d1_43 : (decode cJ2_putChar_b72d1 43 = .ok (.bastore, 1)) ∧ (decode cJ2_putChar_b72d1 44 = .ok (.aload_n 0, 1)) ∧ (decode cJ2_putChar_b72d1 45 = .ok (.iload_n 1, 1)) ∧ (decode cJ2_putChar_b72d1 46 = .ok (.iload_n 2, 1)) ∧ (decode cJ2_putChar_b72d1 47 = .ok (.getstatic 63, 3)) ∧ (decode cJ2_putChar_b72d1 50 = .ok (.ishr, 1)) ∧ (decode cJ2_putChar_b72d1 51 = .ok (.i2b, 1)) ∧ (decode cJ2_putChar_b72d1 52 = .ok (.bastore, 1)) := by decide +kernel
def dJ2_putChar_b72d1_43 := gdJ2_putChar_b72d1_43.1
def dJ2_putChar_b72d1_44 := gdJ2_putChar_b72d1_43.2.1
def dJ2_putChar_b72d1_45 := gdJ2_putChar_b72d1_43.2.2.1
def dJ2_putChar_b72d1_46 := gdJ2_putChar_b72d1_43.2.2.2.1
def dJ2_putChar_b72d1_47 := gdJ2_putChar_b72d1_43.2.2.2.2.1
def dJ2_putChar_b72d1_50 := gdJ2_putChar_b72d1_43.2.2.2.2.2.1
def dJ2_putChar_b72d1_51 := gdJ2_putChar_b72d1_43.2.2.2.2.2.2.1
def dJ2_putChar_b72d1_52 := gdJ2_putChar_b72d1_43.2.2.2.2.2.2.2
theorem dJ2_putChar_b72d1_53 : decode cJ2_putChar_b72d1 53 = .ok (.return_, 1) := by decide +kernel
theorem gdJ2_getChar_3b067_0 : (decode cJ2_getChar_3b067 0 = .ok (.getstatic 44, 3)) ∧ (decode cJ2_getChar_3b067 3 = .ok (.ifCond .ne 25, 3)) ∧ (decode cJ2_getChar_3b067 6 = .ok (.iload_n 1, 1)) ∧ (decode cJ2_getChar_3b067 7 = .ok (.ifCond .lt 11, 3)) ∧ (decode cJ2_getChar_3b067 10 = .ok (.iload_n 1, 1)) ∧ (decode cJ2_getChar_3b067 11 = .ok (.aload_n 0, 1)) ∧ (decode cJ2_getChar_3b067 12 = .ok (.invokestatic 48, 3)) ∧ (decode cJ2_getChar_3b067 15 = .ok (.if_icmp .lt 13, 3)) := by decide +kernel
def dJ2_getChar_3b067_0 := gdJ2_getChar_3b067_0.1
def dJ2_getChar_3b067_3 := gdJ2_getChar_3b067_0.2.1
def dJ2_getChar_3b067_6 := gdJ2_getChar_3b067_0.2.2.1
def dJ2_getChar_3b067_7 := gdJ2_getChar_3b067_0.2.2.2.1
def dJ2_getChar_3b067_10 := gdJ2_getChar_3b067_0.2.2.2.2.1
def dJ2_getChar_3b067_11 := gdJ2_getChar_3b067_0.2.2.2.2.2.1
def dJ2_getChar_3b067_12 := gdJ2_getChar_3b067_0.2.2.2.2.2.2.1
def dJ2_getChar_3b067_15 := gdJ2_getChar_3b067_0.2.2.2.2.2.2.2
theorem gdJ2_getChar_3b067_18 : (decode cJ2_getChar_3b067 18 = .ok (.new 52, 3)) ∧ (decode cJ2_getChar_3b067 21 = .ok (.dup, 1)) ∧ (decode cJ2_getChar_3b067 22 = .ok (.ldc 54, 2)) ∧ (decode cJ2_getChar_3b067 24 = .ok (.invokespecial 56, 3)) ∧ (decode cJ2_getChar_3b067 27 = .ok (.athrow, 1)) ∧ (decode cJ2_getChar_3b067 28 = .ok (.iload_n 1, 1)) ∧ (decode cJ2_getChar_3b067 29 = .ok (.iconst 1, 1)) ∧ (decode cJ2_getChar_3b067 30 = .ok (.ishl, 1)) := by decide +kernel
def dJ2_getChar_3b067_18 := gdJ2_getChar_3b067_18.1
def dJ2_getChar_3b067_21 := gdJ2_getChar_3b067_18.2.1
def dJ2_getChar_3b067_22 := gdJ2_getChar_3b067_18.2.2.1
def dJ2_getChar_3b067_24 := gdJ2_getChar_3b067_18.2.2.2.1
def dJ2_getChar_3b067_27 := gdJ2_getChar_3b067_18.2.2.2.2.1
def dJ2_getChar_3b067_28 := gdJ2_getChar_3b067_18.2.2.2.2.2.1
def dJ2_getChar_3b067_29 := gdJ2_getChar_3b067_18.2.2.2.2.2.2.1
def dJ2_getChar_3b067_30 := gdJ2_getChar_3b067_18.2.2.2.2.2.2.2
theorem gdJ2_getChar_3b067_31 : (decode cJ2_getChar_3b067 31 = .ok (.istore_n 1, 1)) ∧ (decode cJ2_getChar_3b067 32 = .ok (.aload_n 0, 1)) ∧ (decode cJ2_getChar_3b067 33 = .ok (.iload_n 1, 1)) ∧ (decode cJ2_getChar_3b067 34 = .ok (.iinc 1 1, 3)) ∧ (decode cJ2_getChar_3b067 37 = .ok (.baload, 1)) ∧ (decode cJ2_getChar_3b067 38 = .ok (.sipush 255, 3)) ∧ (decode cJ2_getChar_3b067 41 = .ok (.iand, 1)) ∧ (decode cJ2_getChar_3b067 42 = .ok (.getstatic 59, 3)) := by decide +kernel
def dJ2_getChar_3b067_31 := gdJ2_getChar_3b067_31.1
def dJ2_getChar_3b067_32 := gdJ2_getChar_3b067_31.2.1
def dJ2_getChar_3b067_33 := gdJ2_getChar_3b067_31.2.2.1
def dJ2_getChar_3b067_34 := gdJ2_getChar_3b067_31.2.2.2.1
def dJ2_getChar_3b067_37 := gdJ2_getChar_3b067_31.2.2.2.2.1
def dJ2_getChar_3b067_38 := gdJ2_getChar_3b067_31.2.2.2.2.2.1
def dJ2_getChar_3b067_41 := gdJ2_getChar_3b067_31.2.2.2.2.2.2.1
def dJ2_getChar_3b067_42 := gdJ2_getChar_3b067_31.2.2.2.2.2.2.2
theorem gdJ2_getChar_3b067_45 : (decode cJ2_getChar_3b067 45 = .ok (.ishl, 1)) ∧ (decode cJ2_getChar_3b067 46 = .ok (.aload_n 0, 1)) ∧ (decode cJ2_getChar_3b067 47 = .ok (.iload_n 1, 1)) ∧ (decode cJ2_getChar_3b067 48 = .ok (.baload, 1)) ∧ (decode cJ2_getChar_3b067 49 = .ok (.sipush 255, 3)) ∧ (decode cJ2_getChar_3b067 52 = .ok (.iand, 1)) ∧ (decode cJ2_getChar_3b067 53 = .ok (.getstatic 63, 3)) ∧ (decode cJ2_getChar_3b067 56 = .ok (.ishl, 1)) := by decide +kernel
def dJ2_getChar_3b067_45 := gdJ2_getChar_3b067_45.1
def dJ2_getChar_3b067_46 := gdJ2_getChar_3b067_45.2.1
def dJ2_getChar_3b067_47 := gdJ2_getChar_3b067_45.2.2.1
def dJ2_getChar_3b067_48 := gdJ2_getChar_3b067_45.2.2.2.1
def dJ2_getChar_3b067_49 := gdJ2_getChar_3b067_45.2.2.2.2.1
def dJ2_getChar_3b067_52 := gdJ2_getChar_3b067_45.2.2.2.2.2.1
def dJ2_getChar_3b067_53 := gdJ2_getChar_3b067_45.2.2.2.2.2.2.1
def dJ2_getChar_3b067_56 := gdJ2_getChar_3b067_45.2.2.2.2.2.2.2
theorem gdJ2_getChar_3b067_57 : (decode cJ2_getChar_3b067 57 = .ok (.ior, 1)) ∧ (decode cJ2_getChar_3b067 58 = .ok (.i2c, 1)) ∧ (decode cJ2_getChar_3b067 59 = .ok (.ireturn, 1)) := by decide +kernel
def dJ2_getChar_3b067_57 := gdJ2_getChar_3b067_57.1
def dJ2_getChar_3b067_58 := gdJ2_getChar_3b067_57.2.1
def dJ2_getChar_3b067_59 := gdJ2_getChar_3b067_57.2.2
theorem gdJ2_length_9d52b_0 : (decode cJ2_length_9d52b 0 = .ok (.aload_n 0, 1)) ∧ (decode cJ2_length_9d52b 1 = .ok (.arraylength, 1)) ∧ (decode cJ2_length_9d52b 2 = .ok (.iconst 1, 1)) ∧ (decode cJ2_length_9d52b 3 = .ok (.ishr, 1)) ∧ (decode cJ2_length_9d52b 4 = .ok (.ireturn, 1)) := by decide +kernel
def dJ2_length_9d52b_0 := gdJ2_length_9d52b_0.1
def dJ2_length_9d52b_1 := gdJ2_length_9d52b_0.2.1
def dJ2_length_9d52b_2 := gdJ2_length_9d52b_0.2.2.1
def dJ2_length_9d52b_3 := gdJ2_length_9d52b_0.2.2.2.1
def dJ2_length_9d52b_4 := gdJ2_length_9d52b_0.2.2.2.2
theorem gdJ2_fillNull_b72d1_0 : (decode cJ2_fillNull_b72d1 0 = .ok (.aload_n 0, 1)) ∧ (decode cJ2_fillNull_b72d1 1 = .ok (.iload_n 1, 1)) ∧ (decode cJ2_fillNull_b72d1 2 = .ok (.iconst 1, 1)) ∧ (decode cJ2_fillNull_b72d1 3 = .ok (.ishl, 1)) ∧ (decode cJ2_fillNull_b72d1 4 = .ok (.iload_n 2, 1)) ∧ (decode cJ2_fillNull_b72d1 5 = .ok (.iconst 1, 1)) ∧ (decode cJ2_fillNull_b72d1 6 = .ok (.ishl, 1)) ∧ (decode cJ2_fillNull_b72d1 7 = .ok (.iconst 0, 1)) := by decide +kernel
def dJ2_fillNull_b72d1_0 := gdJ2_fillNull_b72d1_0.1
def dJ2_fillNull_b72d1_1 := gdJ2_fillNull_b72d1_0.2.1
def dJ2_fillNull_b72d1_2 := gdJ2_fillNull_b72d1_0.2.2.1
def dJ2_fillNull_b72d1_3 := gdJ2_fillNull_b72d1_0.2.2.2.1
def dJ2_fillNull_b72d1_4 := gdJ2_fillNull_b72d1_0.2.2.2.2.1
def dJ2_fillNull_b72d1_5 := gdJ2_fillNull_b72d1_0.2.2.2.2.2.1
def dJ2_fillNull_b72d1_6 := gdJ2_fillNull_b72d1_0.2.2.2.2.2.2.1
def dJ2_fillNull_b72d1_7 := gdJ2_fillNull_b72d1_0.2.2.2.2.2.2.2
theorem gdJ2_fillNull_b72d1_8 : (decode cJ2_fillNull_b72d1 8 = .ok (.invokestatic 380, 3)) ∧ (decode cJ2_fillNull_b72d1 11 = .ok (.return_, 1)) := by decide +kernel
def dJ2_fillNull_b72d1_8 := gdJ2_fillNull_b72d1_8.1
def dJ2_fillNull_b72d1_11 := gdJ2_fillNull_b72d1_8.2
theorem gdJ2_putCharSB_b72d1_0 : (decode cJ2_putCharSB_b72d1 0 = .ok (.iload_n 1, 1)) ∧ (decode cJ2_putCharSB_b72d1 1 = .ok (.aload_n 0, 1)) ∧ (decode cJ2_putCharSB_b72d1 2 = .ok (.invokestatic 67, 3)) ∧ (decode cJ2_putCharSB_b72d1 5 = .ok (.aload_n 0, 1)) ∧ (decode cJ2_putCharSB_b72d1 6 = .ok (.iload_n 1, 1)) ∧ (decode cJ2_putCharSB_b72d1 7 = .ok (.iload_n 2, 1)) ∧ (decode cJ2_putCharSB_b72d1 8 = .ok (.invokestatic 111, 3)) ∧ (decode cJ2_putCharSB_b72d1 11 = .ok (.return_, 1)) := by decide +kernel
def dJ2_putCharSB_b72d1_0 := gdJ2_putCharSB_b72d1_0.1
def dJ2_putCharSB_b72d1_1 := gdJ2_putCharSB_b72d1_0.2.1
def dJ2_putCharSB_b72d1_2 := gdJ2_putCharSB_b72d1_0.2.2.1
def dJ2_putCharSB_b72d1_5 := gdJ2_putCharSB_b72d1_0.2.2.2.1
def dJ2_putCharSB_b72d1_6 := gdJ2_putCharSB_b72d1_0.2.2.2.2.1
def dJ2_putCharSB_b72d1_7 := gdJ2_putCharSB_b72d1_0.2.2.2.2.2.1
def dJ2_putCharSB_b72d1_8 := gdJ2_putCharSB_b72d1_0.2.2.2.2.2.2.1
def dJ2_putCharSB_b72d1_11 := gdJ2_putCharSB_b72d1_0.2.2.2.2.2.2.2
theorem gdJ2_getChars_46870_0 : (decode cJ2_getChars_46870 0 = .ok (.iload_n 1, 1)) ∧ (decode cJ2_getChars_46870 1 = .ok (.iload_n 2, 1)) ∧ (decode cJ2_getChars_46870 2 = .ok (.aload_n 3, 1)) ∧ (decode cJ2_getChars_46870 3 = .ok (.invokestatic 96, 3)) ∧ (decode cJ2_getChars_46870 6 = .ok (.iload_n 0, 1)) ∧ (decode cJ2_getChars_46870 7 = .ok (.iload_n 2, 1)) ∧ (decode cJ2_getChars_46870 8 = .ok (.aload_n 3, 1)) ∧ (decode cJ2_getChars_46870 9 = .ok (.invokestatic 393, 3)) := by decide +kernel
def dJ2_getChars_46870_0 := gdJ2_getChars_46870_0.1
def dJ2_getChars_46870_1 := gdJ2_getChars_46870_0.2.1
def dJ2_getChars_46870_2 := gdJ2_getChars_46870_0.2.2.1
def dJ2_getChars_46870_3 := gdJ2_getChars_46870_0.2.2.2.1
def dJ2_getChars_46870_6 := gdJ2_getChars_46870_0.2.2.2.2.1
def dJ2_getChars_46870_7 := gdJ2_getChars_46870_0.2.2.2.2.2.1
def dJ2_getChars_46870_8 := gdJ2_getChars_46870_0.2.2.2.2.2.2.1
def dJ2_getChars_46870_9 := gdJ2_getChars_46870_0.2.2.2.2.2.2.2
theorem gdJ2_getChars_46870_12 : (decode cJ2_getChars_46870 12 = .ok (.istore 4, 2)) ∧ (decode cJ2_getChars_46870 14 = .ok (.getstatic 44, 3)) ∧ (decode cJ2_getChars_46870 17 = .ok (.ifCond .ne 17, 3)) ∧ (decode cJ2_getChars_46870 20 = .ok (.iload_n 1, 1)) ∧ (decode cJ2_getChars_46870 21 = .ok (.iload 4, 2)) ∧ (decode cJ2_getChars_46870 23 = .ok (.if_icmp .eq 11, 3)) ∧ (decode cJ2_getChars_46870 26 = .ok (.new 52, 3)) ∧ (decode cJ2_getChars_46870 29 = .ok (.dup, 1)) := by decide +kernel
def dJ2_getChars_46870_12 := gdJ2_getChars_46870_12.1
def dJ2_getChars_46870_14 := gdJ2_getChars_46870_12.2.1
def dJ2_getChars_46870_17 := gdJ2_getChars_46870_12.2.2.1
def dJ2_getChars_46870_20 := gdJ2_getChars_46870_12.2.2.2.1
def dJ2_getChars_46870_21 := gdJ2_getChars_46870_12.2.2.2.2.1
def dJ2_getChars_46870_23 := gdJ2_getChars_46870_12.2.2.2.2.2.1
def dJ2_getChars_46870_26 := gdJ2_getChars_46870_12.2.2.2.2.2.2.1
def dJ2_getChars_46870_29 := gdJ2_getChars_46870_12.2.2.2.2.2.2.2
theorem gdJ2_getChars_46870_30 : (decode cJ2_getChars_46870 30 = .ok (.invokespecial 66, 3)) ∧ (decode cJ2_getChars_46870 33 = .ok (.athrow, 1)) ∧ (decode cJ2_getChars_46870 34 = .ok (.iload 4, 2)) ∧ (decode cJ2_getChars_46870 36 = .ok (.ireturn, 1)) := by decide +kernel
def dJ2_getChars_46870_30 := gdJ2_getChars_46870_30.1
def dJ2_getChars_46870_33 := gdJ2_getChars_46870_30.2.1
def dJ2_getChars_46870_34 := gdJ2_getChars_46870_30.2.2.1
def dJ2_getChars_46870_36 := gdJ2_getChars_46870_30.2.2.2
theorem gdJ2_putCharsAt_cd4e5_0 : (decode cJ2_putCharsAt_cd4e5 0 = .ok (.iload_n 1, 1)) ∧ (decode cJ2_putCharsAt_cd4e5 1 = .ok (.iconst 4, 1)) ∧ (decode cJ2_putCharsAt_cd4e5 2 = .ok (.iadd, 1)) ∧ (decode cJ2_putCharsAt_cd4e5 3 = .ok (.istore 6, 2)) ∧ (decode cJ2_putCharsAt_cd4e5 5 = .ok (.iload_n 1, 1)) ∧ (decode cJ2_putCharsAt_cd4e5 6 = .ok (.iload 6, 2)) ∧ (decode cJ2_putCharsAt_cd4e5 8 = .ok (.aload_n 0, 1)) ∧ (decode cJ2_putCharsAt_cd4e5 9 = .ok (.invokestatic 96, 3)) := by decide +kernel
def dJ2_putCharsAt_cd4e5_0 := gdJ2_putCharsAt_cd4e5_0.1
def dJ2_putCharsAt_cd4e5_1 := gdJ2_putCharsAt_cd4e5_0.2.1
def dJ2_putCharsAt_cd4e5_2 := gdJ2_putCharsAt_cd4e5_0.2.2.1
def dJ2_putCharsAt_cd4e5_3 := gdJ2_putCharsAt_cd4e5_0.2.2.2.1
def dJ2_putCharsAt_cd4e5_5 := gdJ2_putCharsAt_cd4e5_0.2.2.2.2.1
def dJ2_putCharsAt_cd4e5_6 := gdJ2_putCharsAt_cd4e5_0.2.2.2.2.2.1
def dJ2_putCharsAt_cd4e5_8 := gdJ2_putCharsAt_cd4e5_0.2.2.2.2.2.2.1
def dJ2_putCharsAt_cd4e5_9 := gdJ2_putCharsAt_cd4e5_0.2.2.2.2.2.2.2
theorem gdJ2_putCharsAt_cd4e5_12 : (decode cJ2_putCharsAt_cd4e5 12 = .ok (.aload_n 0, 1)) ∧ (decode cJ2_putCharsAt_cd4e5 13 = .ok (.iload_n 1, 1)) ∧ (decode cJ2_putCharsAt_cd4e5 14 = .ok (.iinc 1 1, 3)) ∧ (decode cJ2_putCharsAt_cd4e5 17 = .ok (.iload_n 2, 1)) ∧ (decode cJ2_putCharsAt_cd4e5 18 = .ok (.invokestatic 111, 3)) ∧ (decode cJ2_putCharsAt_cd4e5 21 = .ok (.aload_n 0, 1)) ∧ (decode cJ2_putCharsAt_cd4e5 22 = .ok (.iload_n 1, 1)) ∧ (decode cJ2_putCharsAt_cd4e5 23 = .ok (.iinc 1 1, 3)) := by decide +kernel
def dJ2_putCharsAt_cd4e5_12 := gdJ2_putCharsAt_cd4e5_12.1
def dJ2_putCharsAt_cd4e5_13 := gdJ2_putCharsAt_cd4e5_12.2.1
def dJ2_putCharsAt_cd4e5_14 := gdJ2_putCharsAt_cd4e5_12.2.2.1
def dJ2_putCharsAt_cd4e5_17 := gdJ2_putCharsAt_cd4e5_12.2.2.2.1
def dJ2_putCharsAt_cd4e5_18 := gdJ2_putCharsAt_cd4e5_12.2.2.2.2.1
def dJ2_putCharsAt_cd4e5_21 := gdJ2_putCharsAt_cd4e5_12.2.2.2.2.2.1
def dJ2_putCharsAt_cd4e5_22 := gdJ2_putCharsAt_cd4e5_12.2.2.2.2.2.2.1
def dJ2_putCharsAt_cd4e5_23 := gdJ2_putCharsAt_cd4e5_12.2.2.2.2.2.2.2
theorem gdJ2_putCharsAt_cd4e5_26 : (decode cJ2_putCharsAt_cd4e5 26 = .ok (.iload_n 3, 1)) ∧ (decode cJ2_putCharsAt_cd4e5 27 = .ok (.invokestatic 111, 3)) ∧ (decode cJ2_putCharsAt_cd4e5 30 = .ok (.aload_n 0, 1)) ∧ (decode cJ2_putCharsAt_cd4e5 31 = .ok (.iload_n 1, 1)) ∧ (decode cJ2_putCharsAt_cd4e5 32 = .ok (.iinc 1 1, 3)) ∧ (decode cJ2_putCharsAt_cd4e5 35 = .ok (.iload 4, 2)) ∧ (decode cJ2_putCharsAt_cd4e5 37 = .ok (.invokestatic 111, 3)) ∧ (decode cJ2_putCharsAt_cd4e5 40 = .ok (.aload_n 0, 1)) := by decide +kernel
def dJ2_putCharsAt_cd4e5_26 := gdJ2_putCharsAt_cd4e5_26.1
def dJ2_putCharsAt_cd4e5_27 := gdJ2_putCharsAt_cd4e5_26.2.1
def dJ2_putCharsAt_cd4e5_30 := gdJ2_putCharsAt_cd4e5_26.2.2.1
def dJ2_putCharsAt_cd4e5_31 := gdJ2_putCharsAt_cd4e5_26.2.2.2.1
def dJ2_putCharsAt_cd4e5_32 := gdJ2_putCharsAt_cd4e5_26.2.2.2.2.1
def dJ2_putCharsAt_cd4e5_35 := gdJ2_putCharsAt_cd4e5_26.2.2.2.2.2.1
def dJ2_putCharsAt_cd4e5_37 := gdJ2_putCharsAt_cd4e5_26.2.2.2.2.2.2.1
def dJ2_putCharsAt_cd4e5_40 := gdJ2_putCharsAt_cd4e5_26.2.2.2.2.2.2.2
theorem gdJ2_putCharsAt_cd4e5_41 : (decode cJ2_putCharsAt_cd4e5 41 = .ok (.iload_n 1, 1)) ∧ (decode cJ2_putCharsAt_cd4e5 42 = .ok (.iinc 1 1, 3)) ∧ (decode cJ2_putCharsAt_cd4e5 45 = .ok (.iload 5, 2)) ∧ (decode cJ2_putCharsAt_cd4e5 47 = .ok (.invokestatic 111, 3)) ∧ (decode cJ2_putCharsAt_cd4e5 50 = .ok (.getstatic 44, 3)) ∧ (decode cJ2_putCharsAt_cd4e5 53 = .ok (.ifCond .ne 17, 3)) ∧ (decode cJ2_putCharsAt_cd4e5 56 = .ok (.iload_n 1, 1)) ∧ (decode cJ2_putCharsAt_cd4e5 57 = .ok (.iload 6, 2)) := by decide +kernel
def dJ2_putCharsAt_cd4e5_41 := gdJ2_putCharsAt_cd4e5_41.1
def dJ2_putCharsAt_cd4e5_42 := gdJ2_putCharsAt_cd4e5_41.2.1
def dJ2_putCharsAt_cd4e5_45 := gdJ2_putCharsAt_cd4e5_41.2.2.1
def dJ2_putCharsAt_cd4e5_47 := gdJ2_putCharsAt_cd4e5_41.2.2.2.1
def dJ2_putCharsAt_cd4e5_50 := gdJ2_putCharsAt_cd4e5_41.2.2.2.2.1
def dJ2_putCharsAt_cd4e5_53 := gdJ2_putCharsAt_cd4e5_41.2.2.2.2.2.1
def dJ2_putCharsAt_cd4e5_56 := gdJ2_putCharsAt_cd4e5_41.2.2.2.2.2.2.1
def dJ2_putCharsAt_cd4e5_57 := gdJ2_putCharsAt_cd4e5_41.2.2.2.2.2.2.2
theorem gdJ2_putCharsAt_cd4e5_59 : (decode cJ2_putCharsAt_cd4e5 59 = .ok (.if_icmp .eq 11, 3)) ∧ (decode cJ2_putCharsAt_cd4e5 62 = .ok (.new 52, 3)) ∧ (decode cJ2_putCharsAt_cd4e5 65 = .ok (.dup, 1)) ∧ (decode cJ2_putCharsAt_cd4e5 66 = .ok (.invokespecial 66, 3)) ∧ (decode cJ2_putCharsAt_cd4e5 69 = .ok (.athrow, 1)) ∧ (decode cJ2_putCharsAt_cd4e5 70 = .ok (.iload 6, 2)) ∧ (decode cJ2_putCharsAt_cd4e5 72 = .ok (.ireturn, 1)) := by decide +kernel
def dJ2_putCharsAt_cd4e5_59 := gdJ2_putCharsAt_cd4e5_59.1
def dJ2_putCharsAt_cd4e5_62 := gdJ2_putCharsAt_cd4e5_59.2.1
def dJ2_putCharsAt_cd4e5_65 := gdJ2_putCharsAt_cd4e5_59.2.2.1
def dJ2_putCharsAt_cd4e5_66 := gdJ2_putCharsAt_cd4e5_59.2.2.2.1
def dJ2_putCharsAt_cd4e5_69 := gdJ2_putCharsAt_cd4e5_59.2.2.2.2.1
def dJ2_putCharsAt_cd4e5_70 := gdJ2_putCharsAt_cd4e5_59.2.2.2.2.2.1
def dJ2_putCharsAt_cd4e5_72 := gdJ2_putCharsAt_cd4e5_59.2.2.2.2.2.2
theorem gdJ2_charAt_3b067_0 : (decode cJ2_charAt_3b067 0 = .ok (.iload_n 1, 1)) ∧ (decode cJ2_charAt_3b067 1 = .ok (.aload_n 0, 1)) ∧ (decode cJ2_charAt_3b067 2 = .ok (.invokestatic 67, 3)) ∧ (decode cJ2_charAt_3b067 5 = .ok (.aload_n 0, 1)) ∧ (decode cJ2_charAt_3b067 6 = .ok (.iload_n 1, 1)) ∧ (decode cJ2_charAt_3b067 7 = .ok (.invokestatic 71, 3)) ∧ (decode cJ2_charAt_3b067 10 = .ok (.ireturn, 1)) := by decide +kernel
def dJ2_charAt_3b067_0 := gdJ2_charAt_3b067_0.1
def dJ2_charAt_3b067_1 := gdJ2_charAt_3b067_0.2.1
def dJ2_charAt_3b067_2 := gdJ2_charAt_3b067_0.2.2.1
def dJ2_charAt_3b067_5 := gdJ2_charAt_3b067_0.2.2.2.1
def dJ2_charAt_3b067_6 := gdJ2_charAt_3b067_0.2.2.2.2.1
def dJ2_charAt_3b067_7 := gdJ2_charAt_3b067_0.2.2.2.2.2.1
def dJ2_charAt_3b067_10 := gdJ2_charAt_3b067_0.2.2.2.2.2.2
theorem gdJ2_inflate_0e8fd_0 : (decode cJ2_inflate_0e8fd 0 = .ok (.iload_n 3, 1)) ∧ (decode cJ2_inflate_0e8fd 1 = .ok (.iload 4, 2)) ∧ (decode cJ2_inflate_0e8fd 3 = .ok (.aload_n 2, 1)) ∧ (decode cJ2_inflate_0e8fd 4 = .ok (.invokestatic 173, 3)) ∧ (decode cJ2_inflate_0e8fd 7 = .ok (.iconst 0, 1)) ∧ (decode cJ2_inflate_0e8fd 8 = .ok (.istore 5, 2)) ∧ (decode cJ2_inflate_0e8fd 10 = .ok (.iload 5, 2)) ∧ (decode cJ2_inflate_0e8fd 12 = .ok (.iload 4, 2)) := by decide +kernel
def dJ2_inflate_0e8fd_0 := gdJ2_inflate_0e8fd_0.1
def dJ2_inflate_0e8fd_1 := gdJ2_inflate_0e8fd_0.2.1
def dJ2_inflate_0e8fd_3 := gdJ2_inflate_0e8fd_0.2.2.1
def dJ2_inflate_0e8fd_4 := gdJ2_inflate_0e8fd_0.2.2.2.1
def dJ2_inflate_0e8fd_7 := gdJ2_inflate_0e8fd_0.2.2.2.2.1
def dJ2_inflate_0e8fd_8 := gdJ2_inflate_0e8fd_0.2.2.2.2.2.1
def dJ2_inflate_0e8fd_10 := gdJ2_inflate_0e8fd_0.2.2.2.2.2.2.1
def dJ2_inflate_0e8fd_12 := gdJ2_inflate_0e8fd_0.2.2.2.2.2.2.2
theorem gdJ2_inflate_0e8fd_14 : (decode cJ2_inflate_0e8fd 14 = .ok (.if_icmp .ge 27, 3)) ∧ (decode cJ2_inflate_0e8fd 17 = .ok (.aload_n 2, 1)) ∧ (decode cJ2_inflate_0e8fd 18 = .ok (.iload_n 3, 1)) ∧ (decode cJ2_inflate_0e8fd 19 = .ok (.iinc 3 1, 3)) ∧ (decode cJ2_inflate_0e8fd 22 = .ok (.aload_n 0, 1)) ∧ (decode cJ2_inflate_0e8fd 23 = .ok (.iload_n 1, 1)) ∧ (decode cJ2_inflate_0e8fd 24 = .ok (.iinc 1 1, 3)) ∧ (decode cJ2_inflate_0e8fd 27 = .ok (.baload, 1)) := by decide +kernel
def dJ2_inflate_0e8fd_14 := gdJ2_inflate_0e8fd_14.1
def dJ2_inflate_0e8fd_17 := gdJ2_inflate_0e8fd_14.2.1
def dJ2_inflate_0e8fd_18 := gdJ2_inflate_0e8fd_14.2.2.1
def dJ2_inflate_0e8fd_19 := gdJ2_inflate_0e8fd_14.2.2.2.1
def dJ2_inflate_0e8fd_22 := gdJ2_inflate_0e8fd_14.2.2.2.2.1
def dJ2_inflate_0e8fd_23 := gdJ2_inflate_0e8fd_14.2.2.2.2.2.1
def dJ2_inflate_0e8fd_24 := gdJ2_inflate_0e8fd_14.2.2.2.2.2.2.1
def dJ2_inflate_0e8fd_27 := gdJ2_inflate_0e8fd_14.2.2.2.2.2.2.2
theorem gdJ2_inflate_0e8fd_28 : (decode cJ2_inflate_0e8fd 28 = .ok (.sipush 255, 3)) ∧ (decode cJ2_inflate_0e8fd 31 = .ok (.iand, 1)) ∧ (decode cJ2_inflate_0e8fd 32 = .ok (.invokestatic 111, 3)) ∧ (decode cJ2_inflate_0e8fd 35 = .ok (.iinc 5 1, 3)) ∧ (decode cJ2_inflate_0e8fd 38 = .ok (.goto (-28), 3)) ∧ (decode cJ2_inflate_0e8fd 41 = .ok (.return_, 1)) := by decide +kernel
def dJ2_inflate_0e8fd_28 := gdJ2_inflate_0e8fd_28.1
def dJ2_inflate_0e8fd_31 := gdJ2_inflate_0e8fd_28.2.1
def dJ2_inflate_0e8fd_32 := gdJ2_inflate_0e8fd_28.2.2.1
def dJ2_inflate_0e8fd_35 := gdJ2_inflate_0e8fd_28.2.2.2.1
def dJ2_inflate_0e8fd_38 := gdJ2_inflate_0e8fd_28.2.2.2.2.1
def dJ2_inflate_0e8fd_41 := gdJ2_inflate_0e8fd_28.2.2.2.2.2
theorem gdJ2_getChars_ba4f3_0 : (decode cJ2_getChars_ba4f3 0 = .ok (.iload_n 1, 1)) ∧ (decode cJ2_getChars_ba4f3 1 = .ok (.istore 5, 2)) ∧ (decode cJ2_getChars_ba4f3 3 = .ok (.iload_n 0, 1)) ∧ (decode cJ2_getChars_ba4f3 4 = .ok (.ifCond .ge 7, 3)) ∧ (decode cJ2_getChars_ba4f3 7 = .ok (.iconst 1, 1)) ∧ (decode cJ2_getChars_ba4f3 8 = .ok (.goto 4, 3)) ∧ (decode cJ2_getChars_ba4f3 11 = .ok (.iconst 0, 1)) ∧ (decode cJ2_getChars_ba4f3 12 = .ok (.istore 6, 2)) := by decide +kernel
def dJ2_getChars_ba4f3_0 := gdJ2_getChars_ba4f3_0.1
def dJ2_getChars_ba4f3_1 := gdJ2_getChars_ba4f3_0.2.1
def dJ2_getChars_ba4f3_3 := gdJ2_getChars_ba4f3_0.2.2.1
def dJ2_getChars_ba4f3_4 := gdJ2_getChars_ba4f3_0.2.2.2.1
def dJ2_getChars_ba4f3_7 := gdJ2_getChars_ba4f3_0.2.2.2.2.1
def dJ2_getChars_ba4f3_8 := gdJ2_getChars_ba4f3_0.2.2.2.2.2.1
def dJ2_getChars_ba4f3_11 := gdJ2_getChars_ba4f3_0.2.2.2.2.2.2.1
def dJ2_getChars_ba4f3_12 := gdJ2_getChars_ba4f3_0.2.2.2.2.2.2.2
theorem gdJ2_getChars_ba4f3_14 : (decode cJ2_getChars_ba4f3 14 = .ok (.iload 6, 2)) ∧ (decode cJ2_getChars_ba4f3 16 = .ok (.ifCond .ne 6, 3)) ∧ (decode cJ2_getChars_ba4f3 19 = .ok (.iload_n 0, 1)) ∧ (decode cJ2_getChars_ba4f3 20 = .ok (.ineg, 1)) ∧ (decode cJ2_getChars_ba4f3 21 = .ok (.istore_n 0, 1)) ∧ (decode cJ2_getChars_ba4f3 22 = .ok (.iload_n 0, 1)) ∧ (decode cJ2_getChars_ba4f3 23 = .ok (.bipush (-100), 2)) ∧ (decode cJ2_getChars_ba4f3 25 = .ok (.if_icmp .gt 51, 3)) := by decide +kernel
def dJ2_getChars_ba4f3_14 := gdJ2_getChars_ba4f3_14.1
def dJ2_getChars_ba4f3_16 := gdJ2_getChars_ba4f3_14.2.1
def dJ2_getChars_ba4f3_19 := gdJ2_getChars_ba4f3_14.2.2.1
def dJ2_getChars_ba4f3_20 := gdJ2_getChars_ba4f3_14.2.2.2.1
def dJ2_getChars_ba4f3_21 := gdJ2_getChars_ba4f3_14.2.2.2.2.1
def dJ2_getChars_ba4f3_22 := gdJ2_getChars_ba4f3_14.2.2.2.2.2.1
def dJ2_getChars_ba4f3_23 := gdJ2_getChars_ba4f3_14.2.2.2.2.2.2.1
def dJ2_getChars_ba4f3_25 := gdJ2_getChars_ba4f3_14.2.2.2.2.2.2.2
theorem gdJ2_getChars_ba4f3_28 : (decode cJ2_getChars_ba4f3 28 = .ok (.iload_n 0, 1)) ∧ (decode cJ2_getChars_ba4f3 29 = .ok (.bipush 100, 2)) ∧ (decode cJ2_getChars_ba4f3 31 = .ok (.idiv, 1)) ∧ (decode cJ2_getChars_ba4f3 32 = .ok (.istore_n 3, 1)) ∧ (decode cJ2_getChars_ba4f3 33 = .ok (.iload_n 3, 1)) ∧ (decode cJ2_getChars_ba4f3 34 = .ok (.bipush 100, 2)) ∧ (decode cJ2_getChars_ba4f3 36 = .ok (.imul, 1)) ∧ (decode cJ2_getChars_ba4f3 37 = .ok (.iload_n 0, 1)) := by decide +kernel
def dJ2_getChars_ba4f3_28 := gdJ2_getChars_ba4f3_28.1
def dJ2_getChars_ba4f3_29 := gdJ2_getChars_ba4f3_28.2.1
def dJ2_getChars_ba4f3_31 := gdJ2_getChars_ba4f3_28.2.2.1
def dJ2_getChars_ba4f3_32 := gdJ2_getChars_ba4f3_28.2.2.2.1
def dJ2_getChars_ba4f3_33 := gdJ2_getChars_ba4f3_28.2.2.2.2.1
def dJ2_getChars_ba4f3_34 := gdJ2_getChars_ba4f3_28.2.2.2.2.2.1
def dJ2_getChars_ba4f3_36 := gdJ2_getChars_ba4f3_28.2.2.2.2.2.2.1
def dJ2_getChars_ba4f3_37 := gdJ2_getChars_ba4f3_28.2.2.2.2.2.2.2
theorem gdJ2_getChars_ba4f3_38 : (decode cJ2_getChars_ba4f3 38 = .ok (.isub, 1)) ∧ (decode cJ2_getChars_ba4f3 39 = .ok (.istore 4, 2)) ∧ (decode cJ2_getChars_ba4f3 41 = .ok (.iload_n 3, 1)) ∧ (decode cJ2_getChars_ba4f3 42 = .ok (.istore_n 0, 1)) ∧ (decode cJ2_getChars_ba4f3 43 = .ok (.aload_n 2, 1)) ∧ (decode cJ2_getChars_ba4f3 44 = .ok (.iinc 5 (-1), 3)) ∧ (decode cJ2_getChars_ba4f3 47 = .ok (.iload 5, 2)) ∧ (decode cJ2_getChars_ba4f3 49 = .ok (.getstatic 403, 3)) := by decide +kernel
def dJ2_getChars_ba4f3_38 := gdJ2_getChars_ba4f3_38.1
def dJ2_getChars_ba4f3_39 := gdJ2_getChars_ba4f3_38.2.1
def dJ2_getChars_ba4f3_41 := gdJ2_getChars_ba4f3_38.2.2.1
def dJ2_getChars_ba4f3_42 := gdJ2_getChars_ba4f3_38.2.2.2.1
def dJ2_getChars_ba4f3_43 := gdJ2_getChars_ba4f3_38.2.2.2.2.1
def dJ2_getChars_ba4f3_44 := gdJ2_getChars_ba4f3_38.2.2.2.2.2.1
def dJ2_getChars_ba4f3_47 := gdJ2_getChars_ba4f3_38.2.2.2.2.2.2.1
def dJ2_getChars_ba4f3_49 := gdJ2_getChars_ba4f3_38.2.2.2.2.2.2.2
theorem gdJ2_getChars_ba4f3_52 : (decode cJ2_getChars_ba4f3 52 = .ok (.iload 4, 2)) ∧ (decode cJ2_getChars_ba4f3 54 = .ok (.baload, 1)) ∧ (decode cJ2_getChars_ba4f3 55 = .ok (.invokestatic 111, 3)) ∧ (decode cJ2_getChars_ba4f3 58 = .ok (.aload_n 2, 1)) ∧ (decode cJ2_getChars_ba4f3 59 = .ok (.iinc 5 (-1), 3)) ∧ (decode cJ2_getChars_ba4f3 62 = .ok (.iload 5, 2)) ∧ (decode cJ2_getChars_ba4f3 64 = .ok (.getstatic 407, 3)) ∧ (decode cJ2_getChars_ba4f3 67 = .ok (.iload 4, 2)) := by decide +kernel
def dJ2_getChars_ba4f3_52 := gdJ2_getChars_ba4f3_52.1
def dJ2_getChars_ba4f3_54 := gdJ2_getChars_ba4f3_52.2.1
def dJ2_getChars_ba4f3_55 := gdJ2_getChars_ba4f3_52.2.2.1
def dJ2_getChars_ba4f3_58 := gdJ2_getChars_ba4f3_52.2.2.2.1
def dJ2_getChars_ba4f3_59 := gdJ2_getChars_ba4f3_52.2.2.2.2.1
def dJ2_getChars_ba4f3_62 := gdJ2_getChars_ba4f3_52.2.2.2.2.2.1
def dJ2_getChars_ba4f3_64 := gdJ2_getChars_ba4f3_52.2.2.2.2.2.2.1
def dJ2_getChars_ba4f3_67 := gdJ2_getChars_ba4f3_52.2.2.2.2.2.2.2
theorem gdJ2_getChars_ba4f3_69 : (decode cJ2_getChars_ba4f3 69 = .ok (.baload, 1)) ∧ (decode cJ2_getChars_ba4f3 70 = .ok (.invokestatic 111, 3)) ∧ (decode cJ2_getChars_ba4f3 73 = .ok (.goto (-51), 3)) ∧ (decode cJ2_getChars_ba4f3 76 = .ok (.aload_n 2, 1)) ∧ (decode cJ2_getChars_ba4f3 77 = .ok (.iinc 5 (-1), 3)) ∧ (decode cJ2_getChars_ba4f3 80 = .ok (.iload 5, 2)) ∧ (decode cJ2_getChars_ba4f3 82 = .ok (.getstatic 403, 3)) ∧ (decode cJ2_getChars_ba4f3 85 = .ok (.iload_n 0, 1)) := by decide +kernel
def dJ2_getChars_ba4f3_69 := gdJ2_getChars_ba4f3_69.1
def dJ2_getChars_ba4f3_70 := gdJ2_getChars_ba4f3_69.2.1
def dJ2_getChars_ba4f3_73 := gdJ2_getChars_ba4f3_69.2.2.1
def dJ2_getChars_ba4f3_76 := gdJ2_getChars_ba4f3_69.2.2.2.1
def dJ2_getChars_ba4f3_77 := gdJ2_getChars_ba4f3_69.2.2.2.2.1
def dJ2_getChars_ba4f3_80 := gdJ2_getChars_ba4f3_69.2.2.2.2.2.1
def dJ2_getChars_ba4f3_82 := gdJ2_getChars_ba4f3_69.2.2.2.2.2.2.1
def dJ2_getChars_ba4f3_85 := gdJ2_getChars_ba4f3_69.2.2.2.2.2.2.2
theorem gdJ2_getChars_ba4f3_86 : (decode cJ2_getChars_ba4f3 86 = .ok (.ineg, 1)) ∧ (decode cJ2_getChars_ba4f3 87 = .ok (.baload, 1)) ∧ (decode cJ2_getChars_ba4f3 88 = .ok (.invokestatic 111, 3)) ∧ (decode cJ2_getChars_ba4f3 91 = .ok (.iload_n 0, 1)) ∧ (decode cJ2_getChars_ba4f3 92 = .ok (.bipush (-9), 2)) ∧ (decode cJ2_getChars_ba4f3 94 = .ok (.if_icmp .ge 18, 3)) ∧ (decode cJ2_getChars_ba4f3 97 = .ok (.aload_n 2, 1)) ∧ (decode cJ2_getChars_ba4f3 98 = .ok (.iinc 5 (-1), 3)) := by decide +kernel
def dJ2_getChars_ba4f3_86 := gdJ2_getChars_ba4f3_86.1
def dJ2_getChars_ba4f3_87 := gdJ2_getChars_ba4f3_86.2.1
def dJ2_getChars_ba4f3_88 := gdJ2_getChars_ba4f3_86.2.2.1
def dJ2_getChars_ba4f3_91 := gdJ2_getChars_ba4f3_86.2.2.2.1
def dJ2_getChars_ba4f3_92 := gdJ2_getChars_ba4f3_86.2.2.2.2.1
def dJ2_getChars_ba4f3_94 := gdJ2_getChars_ba4f3_86.2.2.2.2.2.1
def dJ2_getChars_ba4f3_97 := gdJ2_getChars_ba4f3_86.2.2.2.2.2.2.1
def dJ2_getChars_ba4f3_98 := gdJ2_getChars_ba4f3_86.2.2.2.2.2.2.2
theorem gdJ2_getChars_ba4f3_101 : (decode cJ2_getChars_ba4f3 101 = .ok (.iload 5, 2)) ∧ (decode cJ2_getChars_ba4f3 103 = .ok (.getstatic 407, 3)) ∧ (decode cJ2_getChars_ba4f3 106 = .ok (.iload_n 0, 1)) ∧ (decode cJ2_getChars_ba4f3 107 = .ok (.ineg, 1)) ∧ (decode cJ2_getChars_ba4f3 108 = .ok (.baload, 1)) ∧ (decode cJ2_getChars_ba4f3 109 = .ok (.invokestatic 111, 3)) ∧ (decode cJ2_getChars_ba4f3 112 = .ok (.iload 6, 2)) ∧ (decode cJ2_getChars_ba4f3 114 = .ok (.ifCond .eq 14, 3)) := by decide +kernel
def dJ2_getChars_ba4f3_101 := gdJ2_getChars_ba4f3_101.1
def dJ2_getChars_ba4f3_103 := gdJ2_getChars_ba4f3_101.2.1
def dJ2_getChars_ba4f3_106 := gdJ2_getChars_ba4f3_101.2.2.1
def dJ2_getChars_ba4f3_107 := gdJ2_getChars_ba4f3_101.2.2.2.1
def dJ2_getChars_ba4f3_108 := gdJ2_getChars_ba4f3_101.2.2.2.2.1
def dJ2_getChars_ba4f3_109 := gdJ2_getChars_ba4f3_101.2.2.2.2.2.1
def dJ2_getChars_ba4f3_112 := gdJ2_getChars_ba4f3_101.2.2.2.2.2.2.1
def dJ2_getChars_ba4f3_114 := gdJ2_getChars_ba4f3_101.2.2.2.2.2.2.2
theorem gdJ2_getChars_ba4f3_117 : (decode cJ2_getChars_ba4f3 117 = .ok (.aload_n 2, 1)) ∧ (decode cJ2_getChars_ba4f3 118 = .ok (.iinc 5 (-1), 3)) ∧ (decode cJ2_getChars_ba4f3 121 = .ok (.iload 5, 2)) ∧ (decode cJ2_getChars_ba4f3 123 = .ok (.bipush 45, 2)) ∧ (decode cJ2_getChars_ba4f3 125 = .ok (.invokestatic 111, 3)) ∧ (decode cJ2_getChars_ba4f3 128 = .ok (.iload 5, 2)) ∧ (decode cJ2_getChars_ba4f3 130 = .ok (.ireturn, 1)) := by decide +kernel
def dJ2_getChars_ba4f3_117 := gdJ2_getChars_ba4f3_117.1
def dJ2_getChars_ba4f3_118 := gdJ2_getChars_ba4f3_117.2.1
def dJ2_getChars_ba4f3_121 := gdJ2_getChars_ba4f3_117.2.2.1
def dJ2_getChars_ba4f3_123 := gdJ2_getChars_ba4f3_117.2.2.2.1
def dJ2_getChars_ba4f3_125 := gdJ2_getChars_ba4f3_117.2.2.2.2.1
def dJ2_getChars_ba4f3_128 := gdJ2_getChars_ba4f3_117.2.2.2.2.2.1
def dJ2_getChars_ba4f3_130 := gdJ2_getChars_ba4f3_117.2.2.2.2.2.2
theorem gdJ2_checkIndex_2214a_0 : (decode cJ2_checkIndex_2214a 0 = .ok (.iload_n 0, 1)) ∧ (decode cJ2_checkIndex_2214a 1 = .ok (.aload_n 1, 1)) ∧ (decode cJ2_checkIndex_2214a 2 = .ok (.invokestatic 48, 3)) ∧ (decode cJ2_checkIndex_2214a 5 = .ok (.invokestatic 414, 3)) ∧ (decode cJ2_checkIndex_2214a 8 = .ok (.return_, 1)) := by decide +kernel
def dJ2_checkIndex_2214a_0 := gdJ2_checkIndex_2214a_0.1
def dJ2_checkIndex_2214a_1 := gdJ2_checkIndex_2214a_0.2.1
def dJ2_checkIndex_2214a_2 := gdJ2_checkIndex_2214a_0.2.2.1
def dJ2_checkIndex_2214a_5 := gdJ2_checkIndex_2214a_0.2.2.2.1
def dJ2_checkIndex_2214a_8 := gdJ2_checkIndex_2214a_0.2.2.2.2
theorem gdJ2_checkBoundsBeginEnd_d044e_0 : (decode cJ2_checkBoundsBeginEnd_d044e 0 = .ok (.iload_n 0, 1)) ∧ (decode cJ2_checkBoundsBeginEnd_d044e 1 = .ok (.iload_n 1, 1)) ∧ (decode cJ2_checkBoundsBeginEnd_d044e 2 = .ok (.aload_n 2, 1)) ∧ (decode cJ2_checkBoundsBeginEnd_d044e 3 = .ok (.invokestatic 48, 3)) ∧ (decode cJ2_checkBoundsBeginEnd_d044e 6 = .ok (.invokestatic 241, 3)) ∧ (decode cJ2_checkBoundsBeginEnd_d044e 9 = .ok (.return_, 1)) := by decide +kernel
def dJ2_checkBoundsBeginEnd_d044e_0 := gdJ2_checkBoundsBeginEnd_d044e_0.1
def dJ2_checkBoundsBeginEnd_d044e_1 := gdJ2_checkBoundsBeginEnd_d044e_0.2.1
def dJ2_checkBoundsBeginEnd_d044e_2 := gdJ2_checkBoundsBeginEnd_d044e_0.2.2.1
def dJ2_checkBoundsBeginEnd_d044e_3 := gdJ2_checkBoundsBeginEnd_d044e_0.2.2.2.1
def dJ2_checkBoundsBeginEnd_d044e_6 := gdJ2_checkBoundsBeginEnd_d044e_0.2.2.2.2.1
def dJ2_checkBoundsBeginEnd_d044e_9 := gdJ2_checkBoundsBeginEnd_d044e_0.2.2.2.2.2
theorem gdJ2_checkBoundsOffCount_d044e_0 : (decode cJ2_checkBoundsOffCount_d044e 0 = .ok (.iload_n 0, 1)) ∧ (decode cJ2_checkBoundsOffCount_d044e 1 = .ok (.iload_n 1, 1)) ∧ (decode cJ2_checkBoundsOffCount_d044e 2 = .ok (.aload_n 2, 1)) ∧ (decode cJ2_checkBoundsOffCount_d044e 3 = .ok (.invokestatic 48, 3)) ∧ (decode cJ2_checkBoundsOffCount_d044e 6 = .ok (.invokestatic 419, 3)) ∧ (decode cJ2_checkBoundsOffCount_d044e 9 = .ok (.pop, 1)) ∧ (decode cJ2_checkBoundsOffCount_d044e 10 = .ok (.return_, 1)) := by decide +kernel
def dJ2_checkBoundsOffCount_d044e_0 := gdJ2_checkBoundsOffCount_d044e_0.1
def dJ2_checkBoundsOffCount_d044e_1 := gdJ2_checkBoundsOffCount_d044e_0.2.1
def dJ2_checkBoundsOffCount_d044e_2 := gdJ2_checkBoundsOffCount_d044e_0.2.2.1
def dJ2_checkBoundsOffCount_d044e_3 := gdJ2_checkBoundsOffCount_d044e_0.2.2.2.1
def dJ2_checkBoundsOffCount_d044e_6 := gdJ2_checkBoundsOffCount_d044e_0.2.2.2.2.1
def dJ2_checkBoundsOffCount_d044e_9 := gdJ2_checkBoundsOffCount_d044e_0.2.2.2.2.2.1
def dJ2_checkBoundsOffCount_d044e_10 := gdJ2_checkBoundsOffCount_d044e_0.2.2.2.2.2.2
theorem gdJ7_rangeCheck_23922_0 : (decode cJ7_rangeCheck_23922 0 = .ok (.iload_n 1, 1)) ∧ (decode cJ7_rangeCheck_23922 1 = .ok (.iload_n 2, 1)) ∧ (decode cJ7_rangeCheck_23922 2 = .ok (.if_icmp .le 44, 3)) ∧ (decode cJ7_rangeCheck_23922 5 = .ok (.new 43, 3)) ∧ (decode cJ7_rangeCheck_23922 8 = .ok (.dup, 1)) ∧ (decode cJ7_rangeCheck_23922 9 = .ok (.new 45, 3)) ∧ (decode cJ7_rangeCheck_23922 12 = .ok (.dup, 1)) ∧ (decode cJ7_rangeCheck_23922 13 = .ok (.invokespecial 47, 3)) := by decide +kernel
def dJ7_rangeCheck_23922_0 := gdJ7_rangeCheck_23922_0.1
def dJ7_rangeCheck_23922_1 := gdJ7_rangeCheck_23922_0.2.1
def dJ7_rangeCheck_23922_2 := gdJ7_rangeCheck_23922_0.2.2.1
def dJ7_rangeCheck_23922_5 := gdJ7_rangeCheck_23922_0.2.2.2.1
def dJ7_rangeCheck_23922_8 := gdJ7_rangeCheck_23922_0.2.2.2.2.1
def dJ7_rangeCheck_23922_9 := gdJ7_rangeCheck_23922_0.2.2.2.2.2.1
def dJ7_rangeCheck_23922_12 := gdJ7_rangeCheck_23922_0.2.2.2.2.2.2.1
def dJ7_rangeCheck_23922_13 := gdJ7_rangeCheck_23922_0.2.2.2.2.2.2.2
theorem gdJ7_rangeCheck_23922_16 : (decode cJ7_rangeCheck_23922 16 = .ok (.ldc 48, 2)) ∧ (decode cJ7_rangeCheck_23922 18 = .ok (.invokevirtual 50, 3)) ∧ (decode cJ7_rangeCheck_23922 21 = .ok (.iload_n 1, 1)) ∧ (decode cJ7_rangeCheck_23922 22 = .ok (.invokevirtual 54, 3)) ∧ (decode cJ7_rangeCheck_23922 25 = .ok (.ldc 57, 2)) ∧ (decode cJ7_rangeCheck_23922 27 = .ok (.invokevirtual 50, 3)) ∧ (decode cJ7_rangeCheck_23922 30 = .ok (.iload_n 2, 1)) ∧ (decode cJ7_rangeCheck_23922 31 = .ok (.invokevirtual 54, 3)) := by decide +kernel
def dJ7_rangeCheck_23922_16 := gdJ7_rangeCheck_23922_16.1
def dJ7_rangeCheck_23922_18 := gdJ7_rangeCheck_23922_16.2.1
def dJ7_rangeCheck_23922_21 := gdJ7_rangeCheck_23922_16.2.2.1
def dJ7_rangeCheck_23922_22 := gdJ7_rangeCheck_23922_16.2.2.2.1
def dJ7_rangeCheck_23922_25 := gdJ7_rangeCheck_23922_16.2.2.2.2.1
def dJ7_rangeCheck_23922_27 := gdJ7_rangeCheck_23922_16.2.2.2.2.2.1
def dJ7_rangeCheck_23922_30 := gdJ7_rangeCheck_23922_16.2.2.2.2.2.2.1
def dJ7_rangeCheck_23922_31 := gdJ7_rangeCheck_23922_16.2.2.2.2.2.2.2
theorem gdJ7_rangeCheck_23922_34 : (decode cJ7_rangeCheck_23922 34 = .ok (.ldc 59, 2)) ∧ (decode cJ7_rangeCheck_23922 36 = .ok (.invokevirtual 50, 3)) ∧ (decode cJ7_rangeCheck_23922 39 = .ok (.invokevirtual 61, 3)) ∧ (decode cJ7_rangeCheck_23922 42 = .ok (.invokespecial 65, 3)) ∧ (decode cJ7_rangeCheck_23922 45 = .ok (.athrow, 1)) ∧ (decode cJ7_rangeCheck_23922 46 = .ok (.iload_n 1, 1)) ∧ (decode cJ7_rangeCheck_23922 47 = .ok (.ifCond .ge 12, 3)) ∧ (decode cJ7_rangeCheck_23922 50 = .ok (.new 68, 3)) := by decide +kernel
def dJ7_rangeCheck_23922_34 := gdJ7_rangeCheck_23922_34.1
def dJ7_rangeCheck_23922_36 := gdJ7_rangeCheck_23922_34.2.1
def dJ7_rangeCheck_23922_39 := gdJ7_rangeCheck_23922_34.2.2.1
def dJ7_rangeCheck_23922_42 := gdJ7_rangeCheck_23922_34.2.2.2.1
def dJ7_rangeCheck_23922_45 := gdJ7_rangeCheck_23922_34.2.2.2.2.1
def dJ7_rangeCheck_23922_46 := gdJ7_rangeCheck_23922_34.2.2.2.2.2.1
def dJ7_rangeCheck_23922_47 := gdJ7_rangeCheck_23922_34.2.2.2.2.2.2.1
def dJ7_rangeCheck_23922_50 := gdJ7_rangeCheck_23922_34.2.2.2.2.2.2.2
theorem gdJ7_rangeCheck_23922_53 : (decode cJ7_rangeCheck_23922 53 = .ok (.dup, 1)) ∧ (decode cJ7_rangeCheck_23922 54 = .ok (.iload_n 1, 1)) ∧ (decode cJ7_rangeCheck_23922 55 = .ok (.invokespecial 70, 3)) ∧ (decode cJ7_rangeCheck_23922 58 = .ok (.athrow, 1)) ∧ (decode cJ7_rangeCheck_23922 59 = .ok (.iload_n 2, 1)) ∧ (decode cJ7_rangeCheck_23922 60 = .ok (.iload_n 0, 1)) ∧ (decode cJ7_rangeCheck_23922 61 = .ok (.if_icmp .le 12, 3)) ∧ (decode cJ7_rangeCheck_23922 64 = .ok (.new 68, 3)) := by decide +kernel
def dJ7_rangeCheck_23922_53 := gdJ7_rangeCheck_23922_53.1
def dJ7_rangeCheck_23922_54 := gdJ7_rangeCheck_23922_53.2.1
def dJ7_rangeCheck_23922_55 := gdJ7_rangeCheck_23922_53.2.2.1
def dJ7_rangeCheck_23922_58 := gdJ7_rangeCheck_23922_53.2.2.2.1
def dJ7_rangeCheck_23922_59 := gdJ7_rangeCheck_23922_53.2.2.2.2.1
def dJ7_rangeCheck_23922_60 := gdJ7_rangeCheck_23922_53.2.2.2.2.2.1
def dJ7_rangeCheck_23922_61 := gdJ7_rangeCheck_23922_53.2.2.2.2.2.2.1
def dJ7_rangeCheck_23922_64 := gdJ7_rangeCheck_23922_53.2.2.2.2.2.2.2
theorem gdJ7_rangeCheck_23922_67 : (decode cJ7_rangeCheck_23922 67 = .ok (.dup, 1)) ∧ (decode cJ7_rangeCheck_23922 68 = .ok (.iload_n 2, 1)) ∧ (decode cJ7_rangeCheck_23922 69 = .ok (.invokespecial 70, 3)) ∧ (decode cJ7_rangeCheck_23922 72 = .ok (.athrow, 1)) ∧ (decode cJ7_rangeCheck_23922 73 = .ok (.return_, 1)) := by decide +kernel
def dJ7_rangeCheck_23922_67 := gdJ7_rangeCheck_23922_67.1
def dJ7_rangeCheck_23922_68 := gdJ7_rangeCheck_23922_67.2.1
def dJ7_rangeCheck_23922_69 := gdJ7_rangeCheck_23922_67.2.2.1
def dJ7_rangeCheck_23922_72 := gdJ7_rangeCheck_23922_67.2.2.2.1
def dJ7_rangeCheck_23922_73 := gdJ7_rangeCheck_23922_67.2.2.2.2
theorem gdJ7_fill_eb02e_0 : (decode cJ7_fill_eb02e 0 = .ok (.aload_n 0, 1)) ∧ (decode cJ7_fill_eb02e 1 = .ok (.arraylength, 1)) ∧ (decode cJ7_fill_eb02e 2 = .ok (.iload_n 1, 1)) ∧ (decode cJ7_fill_eb02e 3 = .ok (.iload_n 2, 1)) ∧ (decode cJ7_fill_eb02e 4 = .ok (.invokestatic 13, 3)) ∧ (decode cJ7_fill_eb02e 7 = .ok (.iload_n 1, 1)) ∧ (decode cJ7_fill_eb02e 8 = .ok (.istore 4, 2)) ∧ (decode cJ7_fill_eb02e 10 = .ok (.iload 4, 2)) := by decide +kernel
def dJ7_fill_eb02e_0 := gdJ7_fill_eb02e_0.1
def dJ7_fill_eb02e_1 := gdJ7_fill_eb02e_0.2.1
def dJ7_fill_eb02e_2 := gdJ7_fill_eb02e_0.2.2.1
def dJ7_fill_eb02e_3 := gdJ7_fill_eb02e_0.2.2.2.1
def dJ7_fill_eb02e_4 := gdJ7_fill_eb02e_0.2.2.2.2.1
def dJ7_fill_eb02e_7 := gdJ7_fill_eb02e_0.2.2.2.2.2.1
def dJ7_fill_eb02e_8 := gdJ7_fill_eb02e_0.2.2.2.2.2.2.1
def dJ7_fill_eb02e_10 := gdJ7_fill_eb02e_0.2.2.2.2.2.2.2
theorem gdJ7_fill_eb02e_12 : (decode cJ7_fill_eb02e 12 = .ok (.iload_n 2, 1)) ∧ (decode cJ7_fill_eb02e 13 = .ok (.if_icmp .ge 14, 3)) ∧ (decode cJ7_fill_eb02e 16 = .ok (.aload_n 0, 1)) ∧ (decode cJ7_fill_eb02e 17 = .ok (.iload 4, 2)) ∧ (decode cJ7_fill_eb02e 19 = .ok (.iload_n 3, 1)) ∧ (decode cJ7_fill_eb02e 20 = .ok (.bastore, 1)) ∧ (decode cJ7_fill_eb02e 21 = .ok (.iinc 4 1, 3)) ∧ (decode cJ7_fill_eb02e 24 = .ok (.goto (-14), 3)) := by decide +kernel
def dJ7_fill_eb02e_12 := gdJ7_fill_eb02e_12.1
def dJ7_fill_eb02e_13 := gdJ7_fill_eb02e_12.2.1
def dJ7_fill_eb02e_16 := gdJ7_fill_eb02e_12.2.2.1
def dJ7_fill_eb02e_17 := gdJ7_fill_eb02e_12.2.2.2.1
def dJ7_fill_eb02e_19 := gdJ7_fill_eb02e_12.2.2.2.2.1
def dJ7_fill_eb02e_20 := gdJ7_fill_eb02e_12.2.2.2.2.2.1
def dJ7_fill_eb02e_21 := gdJ7_fill_eb02e_12.2.2.2.2.2.2.1
def dJ7_fill_eb02e_24 := gdJ7_fill_eb02e_12.2.2.2.2.2.2.2
theorem dJ7_fill_eb02e_27 : decode cJ7_fill_eb02e 27 = .ok (.return_, 1) := by decide +kernel
theorem gdJ7_copyOf_9075b_0 : (decode cJ7_copyOf_9075b 0 = .ok (.iload_n 1, 1)) ∧ (decode cJ7_copyOf_9075b 1 = .ok (.aload_n 0, 1)) ∧ (decode cJ7_copyOf_9075b 2 = .ok (.arraylength, 1)) ∧ (decode cJ7_copyOf_9075b 3 = .ok (.if_icmp .ne 11, 3)) ∧ (decode cJ7_copyOf_9075b 6 = .ok (.aload_n 0, 1)) ∧ (decode cJ7_copyOf_9075b 7 = .ok (.invokevirtual 310, 3)) ∧ (decode cJ7_copyOf_9075b 10 = .ok (.checkcast 311, 3)) ∧ (decode cJ7_copyOf_9075b 13 = .ok (.areturn, 1)) := by decide +kernel
def dJ7_copyOf_9075b_0 := gdJ7_copyOf_9075b_0.1
def dJ7_copyOf_9075b_1 := gdJ7_copyOf_9075b_0.2.1
def dJ7_copyOf_9075b_2 := gdJ7_copyOf_9075b_0.2.2.1
def dJ7_copyOf_9075b_3 := gdJ7_copyOf_9075b_0.2.2.2.1
def dJ7_copyOf_9075b_6 := gdJ7_copyOf_9075b_0.2.2.2.2.1
def dJ7_copyOf_9075b_7 := gdJ7_copyOf_9075b_0.2.2.2.2.2.1
def dJ7_copyOf_9075b_10 := gdJ7_copyOf_9075b_0.2.2.2.2.2.2.1
def dJ7_copyOf_9075b_13 := gdJ7_copyOf_9075b_0.2.2.2.2.2.2.2
theorem gdJ7_copyOf_9075b_14 : (decode cJ7_copyOf_9075b 14 = .ok (.iload_n 1, 1)) ∧ (decode cJ7_copyOf_9075b 15 = .ok (.newarray .byte, 2)) ∧ (decode cJ7_copyOf_9075b 17 = .ok (.astore_n 2, 1)) ∧ (decode cJ7_copyOf_9075b 18 = .ok (.aload_n 0, 1)) ∧ (decode cJ7_copyOf_9075b 19 = .ok (.iconst 0, 1)) ∧ (decode cJ7_copyOf_9075b 20 = .ok (.aload_n 2, 1)) ∧ (decode cJ7_copyOf_9075b 21 = .ok (.iconst 0, 1)) ∧ (decode cJ7_copyOf_9075b 22 = .ok (.aload_n 0, 1)) := by decide +kernel
def dJ7_copyOf_9075b_14 := gdJ7_copyOf_9075b_14.1
def dJ7_copyOf_9075b_15 := gdJ7_copyOf_9075b_14.2.1
def dJ7_copyOf_9075b_17 := gdJ7_copyOf_9075b_14.2.2.1
def dJ7_copyOf_9075b_18 := gdJ7_copyOf_9075b_14.2.2.2.1
def dJ7_copyOf_9075b_19 := gdJ7_copyOf_9075b_14.2.2.2.2.1
def dJ7_copyOf_9075b_20 := gdJ7_copyOf_9075b_14.2.2.2.2.2.1
def dJ7_copyOf_9075b_21 := gdJ7_copyOf_9075b_14.2.2.2.2.2.2.1
def dJ7_copyOf_9075b_22 := gdJ7_copyOf_9075b_14.2.2.2.2.2.2.2
theorem gdJ7_copyOf_9075b_23 : (decode cJ7_copyOf_9075b 23 = .ok (.arraylength, 1)) ∧ (decode cJ7_copyOf_9075b 24 = .ok (.iload_n 1, 1)) ∧ (decode cJ7_copyOf_9075b 25 = .ok (.invokestatic 304, 3)) ∧ (decode cJ7_copyOf_9075b 28 = .ok (.invokestatic 150, 3)) ∧ (decode cJ7_copyOf_9075b 31 = .ok (.aload_n 2, 1)) ∧ (decode cJ7_copyOf_9075b 32 = .ok (.areturn, 1)) := by decide +kernel
def dJ7_copyOf_9075b_23 := gdJ7_copyOf_9075b_23.1
def dJ7_copyOf_9075b_24 := gdJ7_copyOf_9075b_23.2.1
def dJ7_copyOf_9075b_25 := gdJ7_copyOf_9075b_23.2.2.1
def dJ7_copyOf_9075b_28 := gdJ7_copyOf_9075b_23.2.2.2.1
def dJ7_copyOf_9075b_31 := gdJ7_copyOf_9075b_23.2.2.2.2.1
def dJ7_copyOf_9075b_32 := gdJ7_copyOf_9075b_23.2.2.2.2.2
theorem gdJ8_newLength_cabcc_0 : (decode cJ8_newLength_cabcc 0 = .ok (.iload_n 0, 1)) ∧ (decode cJ8_newLength_cabcc 1 = .ok (.iload_n 1, 1)) ∧ (decode cJ8_newLength_cabcc 2 = .ok (.iload_n 2, 1)) ∧ (decode cJ8_newLength_cabcc 3 = .ok (.invokestatic 194, 3)) ∧ (decode cJ8_newLength_cabcc 6 = .ok (.iadd, 1)) ∧ (decode cJ8_newLength_cabcc 7 = .ok (.istore_n 3, 1)) ∧ (decode cJ8_newLength_cabcc 8 = .ok (.iconst 0, 1)) ∧ (decode cJ8_newLength_cabcc 9 = .ok (.iload_n 3, 1)) := by decide +kernel
def dJ8_newLength_cabcc_0 := gdJ8_newLength_cabcc_0.1
def dJ8_newLength_cabcc_1 := gdJ8_newLength_cabcc_0.2.1
def dJ8_newLength_cabcc_2 := gdJ8_newLength_cabcc_0.2.2.1
def dJ8_newLength_cabcc_3 := gdJ8_newLength_cabcc_0.2.2.2.1
def dJ8_newLength_cabcc_6 := gdJ8_newLength_cabcc_0.2.2.2.2.1
def dJ8_newLength_cabcc_7 := gdJ8_newLength_cabcc_0.2.2.2.2.2.1
def dJ8_newLength_cabcc_8 := gdJ8_newLength_cabcc_0.2.2.2.2.2.2.1
def dJ8_newLength_cabcc_9 := gdJ8_newLength_cabcc_0.2.2.2.2.2.2.2
theorem gdJ8_newLength_cabcc_10 : (decode cJ8_newLength_cabcc 10 = .ok (.if_icmp .ge 11, 3)) ∧ (decode cJ8_newLength_cabcc 13 = .ok (.iload_n 3, 1)) ∧ (decode cJ8_newLength_cabcc 14 = .ok (.ldc 200, 2)) ∧ (decode cJ8_newLength_cabcc 16 = .ok (.if_icmp .gt 5, 3)) ∧ (decode cJ8_newLength_cabcc 19 = .ok (.iload_n 3, 1)) ∧ (decode cJ8_newLength_cabcc 20 = .ok (.ireturn, 1)) ∧ (decode cJ8_newLength_cabcc 21 = .ok (.iload_n 0, 1)) ∧ (decode cJ8_newLength_cabcc 22 = .ok (.iload_n 1, 1)) := by decide +kernel
def dJ8_newLength_cabcc_10 := gdJ8_newLength_cabcc_10.1
def dJ8_newLength_cabcc_13 := gdJ8_newLength_cabcc_10.2.1
def dJ8_newLength_cabcc_14 := gdJ8_newLength_cabcc_10.2.2.1
def dJ8_newLength_cabcc_16 := gdJ8_newLength_cabcc_10.2.2.2.1
def dJ8_newLength_cabcc_19 := gdJ8_newLength_cabcc_10.2.2.2.2.1
def dJ8_newLength_cabcc_20 := gdJ8_newLength_cabcc_10.2.2.2.2.2.1
def dJ8_newLength_cabcc_21 := gdJ8_newLength_cabcc_10.2.2.2.2.2.2.1
def dJ8_newLength_cabcc_22 := gdJ8_newLength_cabcc_10.2.2.2.2.2.2.2
theorem gdJ8_newLength_cabcc_23 : (decode cJ8_newLength_cabcc 23 = .ok (.invokestatic 201, 3)) ∧ (decode cJ8_newLength_cabcc 26 = .ok (.ireturn, 1)) := by decide +kernel
def dJ8_newLength_cabcc_23 := gdJ8_newLength_cabcc_23.1
def dJ8_newLength_cabcc_26 := gdJ8_newLength_cabcc_23.2
theorem gdJ8_hugeLength_7cf53_0 : (decode cJ8_hugeLength_7cf53 0 = .ok (.iload_n 0, 1)) ∧ (decode cJ8_hugeLength_7cf53 1 = .ok (.iload_n 1, 1)) ∧ (decode cJ8_hugeLength_7cf53 2 = .ok (.iadd, 1)) ∧ (decode cJ8_hugeLength_7cf53 3 = .ok (.istore_n 2, 1)) ∧ (decode cJ8_hugeLength_7cf53 4 = .ok (.iload_n 2, 1)) ∧ (decode cJ8_hugeLength_7cf53 5 = .ok (.ifCond .ge 44, 3)) ∧ (decode cJ8_hugeLength_7cf53 8 = .ok (.new 204, 3)) ∧ (decode cJ8_hugeLength_7cf53 11 = .ok (.dup, 1)) := by decide +kernel
def dJ8_hugeLength_7cf53_0 := gdJ8_hugeLength_7cf53_0.1
def dJ8_hugeLength_7cf53_1 := gdJ8_hugeLength_7cf53_0.2.1
def dJ8_hugeLength_7cf53_2 := gdJ8_hugeLength_7cf53_0.2.2.1
def dJ8_hugeLength_7cf53_3 := gdJ8_hugeLength_7cf53_0.2.2.2.1
def dJ8_hugeLength_7cf53_4 := gdJ8_hugeLength_7cf53_0.2.2.2.2.1
def dJ8_hugeLength_7cf53_5 := gdJ8_hugeLength_7cf53_0.2.2.2.2.2.1
def dJ8_hugeLength_7cf53_8 := gdJ8_hugeLength_7cf53_0.2.2.2.2.2.2.1
def dJ8_hugeLength_7cf53_11 := gdJ8_hugeLength_7cf53_0.2.2.2.2.2.2.2
theorem gdJ8_hugeLength_7cf53_12 : (decode cJ8_hugeLength_7cf53 12 = .ok (.new 89, 3)) ∧ (decode cJ8_hugeLength_7cf53 15 = .ok (.dup, 1)) ∧ (decode cJ8_hugeLength_7cf53 16 = .ok (.invokespecial 91, 3)) ∧ (decode cJ8_hugeLength_7cf53 19 = .ok (.ldc 206, 2)) ∧ (decode cJ8_hugeLength_7cf53 21 = .ok (.invokevirtual 94, 3)) ∧ (decode cJ8_hugeLength_7cf53 24 = .ok (.iload_n 0, 1)) ∧ (decode cJ8_hugeLength_7cf53 25 = .ok (.invokevirtual 98, 3)) ∧ (decode cJ8_hugeLength_7cf53 28 = .ok (.ldc 208, 2)) := by decide +kernel
def dJ8_hugeLength_7cf53_12 := gdJ8_hugeLength_7cf53_12.1
def dJ8_hugeLength_7cf53_15 := gdJ8_hugeLength_7cf53_12.2.1
def dJ8_hugeLength_7cf53_16 := gdJ8_hugeLength_7cf53_12.2.2.1
def dJ8_hugeLength_7cf53_19 := gdJ8_hugeLength_7cf53_12.2.2.2.1
def dJ8_hugeLength_7cf53_21 := gdJ8_hugeLength_7cf53_12.2.2.2.2.1
def dJ8_hugeLength_7cf53_24 := gdJ8_hugeLength_7cf53_12.2.2.2.2.2.1
def dJ8_hugeLength_7cf53_25 := gdJ8_hugeLength_7cf53_12.2.2.2.2.2.2.1
def dJ8_hugeLength_7cf53_28 := gdJ8_hugeLength_7cf53_12.2.2.2.2.2.2.2
theorem gdJ8_hugeLength_7cf53_30 : (decode cJ8_hugeLength_7cf53 30 = .ok (.invokevirtual 94, 3)) ∧ (decode cJ8_hugeLength_7cf53 33 = .ok (.iload_n 1, 1)) ∧ (decode cJ8_hugeLength_7cf53 34 = .ok (.invokevirtual 98, 3)) ∧ (decode cJ8_hugeLength_7cf53 37 = .ok (.ldc 210, 2)) ∧ (decode cJ8_hugeLength_7cf53 39 = .ok (.invokevirtual 94, 3)) ∧ (decode cJ8_hugeLength_7cf53 42 = .ok (.invokevirtual 101, 3)) ∧ (decode cJ8_hugeLength_7cf53 45 = .ok (.invokespecial 212, 3)) ∧ (decode cJ8_hugeLength_7cf53 48 = .ok (.athrow, 1)) := by decide +kernel
def dJ8_hugeLength_7cf53_30 := gdJ8_hugeLength_7cf53_30.1
def dJ8_hugeLength_7cf53_33 := gdJ8_hugeLength_7cf53_30.2.1
def dJ8_hugeLength_7cf53_34 := gdJ8_hugeLength_7cf53_30.2.2.1
def dJ8_hugeLength_7cf53_37 := gdJ8_hugeLength_7cf53_30.2.2.2.1
def dJ8_hugeLength_7cf53_39 := gdJ8_hugeLength_7cf53_30.2.2.2.2.1
def dJ8_hugeLength_7cf53_42 := gdJ8_hugeLength_7cf53_30.2.2.2.2.2.1
def dJ8_hugeLength_7cf53_45 := gdJ8_hugeLength_7cf53_30.2.2.2.2.2.2.1
def dJ8_hugeLength_7cf53_48 := gdJ8_hugeLength_7cf53_30.2.2.2.2.2.2.2
theorem gdJ8_hugeLength_7cf53_49 : (decode cJ8_hugeLength_7cf53 49 = .ok (.iload_n 2, 1)) ∧ (decode cJ8_hugeLength_7cf53 50 = .ok (.ldc 200, 2)) ∧ (decode cJ8_hugeLength_7cf53 52 = .ok (.if_icmp .gt 6, 3)) ∧ (decode cJ8_hugeLength_7cf53 55 = .ok (.ldc 200, 2)) ∧ (decode cJ8_hugeLength_7cf53 57 = .ok (.ireturn, 1)) ∧ (decode cJ8_hugeLength_7cf53 58 = .ok (.iload_n 2, 1)) ∧ (decode cJ8_hugeLength_7cf53 59 = .ok (.ireturn, 1)) := by decide +kernel
def dJ8_hugeLength_7cf53_49 := gdJ8_hugeLength_7cf53_49.1
def dJ8_hugeLength_7cf53_50 := gdJ8_hugeLength_7cf53_49.2.1
def dJ8_hugeLength_7cf53_52 := gdJ8_hugeLength_7cf53_49.2.2.1
def dJ8_hugeLength_7cf53_55 := gdJ8_hugeLength_7cf53_49.2.2.2.1
def dJ8_hugeLength_7cf53_57 := gdJ8_hugeLength_7cf53_49.2.2.2.2.1
def dJ8_hugeLength_7cf53_58 := gdJ8_hugeLength_7cf53_49.2.2.2.2.2.1
def dJ8_hugeLength_7cf53_59 := gdJ8_hugeLength_7cf53_49.2.2.2.2.2.2
theorem gdJ3_checkIndex_8e157_0 : (decode cJ3_checkIndex_8e157 0 = .ok (.iload_n 0, 1)) ∧ (decode cJ3_checkIndex_8e157 1 = .ok (.ifCond .lt 8, 3)) ∧ (decode cJ3_checkIndex_8e157 4 = .ok (.iload_n 0, 1)) ∧ (decode cJ3_checkIndex_8e157 5 = .ok (.iload_n 1, 1)) ∧ (decode cJ3_checkIndex_8e157 6 = .ok (.if_icmp .lt 10, 3)) ∧ (decode cJ3_checkIndex_8e157 9 = .ok (.aload_n 2, 1)) ∧ (decode cJ3_checkIndex_8e157 10 = .ok (.iload_n 0, 1)) ∧ (decode cJ3_checkIndex_8e157 11 = .ok (.iload_n 1, 1)) := by decide +kernel
def dJ3_checkIndex_8e157_0 := gdJ3_checkIndex_8e157_0.1
def dJ3_checkIndex_8e157_1 := gdJ3_checkIndex_8e157_0.2.1
def dJ3_checkIndex_8e157_4 := gdJ3_checkIndex_8e157_0.2.2.1
def dJ3_checkIndex_8e157_5 := gdJ3_checkIndex_8e157_0.2.2.2.1
def dJ3_checkIndex_8e157_6 := gdJ3_checkIndex_8e157_0.2.2.2.2.1
def dJ3_checkIndex_8e157_9 := gdJ3_checkIndex_8e157_0.2.2.2.2.2.1
def dJ3_checkIndex_8e157_10 := gdJ3_checkIndex_8e157_0.2.2.2.2.2.2.1
def dJ3_checkIndex_8e157_11 := gdJ3_checkIndex_8e157_0.2.2.2.2.2.2.2
theorem gdJ3_checkIndex_8e157_12 : (decode cJ3_checkIndex_8e157 12 = .ok (.invokestatic 95, 3)) ∧ (decode cJ3_checkIndex_8e157 15 = .ok (.athrow, 1)) ∧ (decode cJ3_checkIndex_8e157 16 = .ok (.iload_n 0, 1)) ∧ (decode cJ3_checkIndex_8e157 17 = .ok (.ireturn, 1)) := by decide +kernel
def dJ3_checkIndex_8e157_12 := gdJ3_checkIndex_8e157_12.1
def dJ3_checkIndex_8e157_15 := gdJ3_checkIndex_8e157_12.2.1
def dJ3_checkIndex_8e157_16 := gdJ3_checkIndex_8e157_12.2.2.1
def dJ3_checkIndex_8e157_17 := gdJ3_checkIndex_8e157_12.2.2.2
theorem gdJ3_checkFromToIndex_8c36e_0 : (decode cJ3_checkFromToIndex_8c36e 0 = .ok (.iload_n 0, 1)) ∧ (decode cJ3_checkFromToIndex_8c36e 1 = .ok (.ifCond .lt 13, 3)) ∧ (decode cJ3_checkFromToIndex_8c36e 4 = .ok (.iload_n 0, 1)) ∧ (decode cJ3_checkFromToIndex_8c36e 5 = .ok (.iload_n 1, 1)) ∧ (decode cJ3_checkFromToIndex_8c36e 6 = .ok (.if_icmp .gt 8, 3)) ∧ (decode cJ3_checkFromToIndex_8c36e 9 = .ok (.iload_n 1, 1)) ∧ (decode cJ3_checkFromToIndex_8c36e 10 = .ok (.iload_n 2, 1)) ∧ (decode cJ3_checkFromToIndex_8c36e 11 = .ok (.if_icmp .le 11, 3)) := by decide +kernel
def dJ3_checkFromToIndex_8c36e_0 := gdJ3_checkFromToIndex_8c36e_0.1
def dJ3_checkFromToIndex_8c36e_1 := gdJ3_checkFromToIndex_8c36e_0.2.1
def dJ3_checkFromToIndex_8c36e_4 := gdJ3_checkFromToIndex_8c36e_0.2.2.1
def dJ3_checkFromToIndex_8c36e_5 := gdJ3_checkFromToIndex_8c36e_0.2.2.2.1
def dJ3_checkFromToIndex_8c36e_6 := gdJ3_checkFromToIndex_8c36e_0.2.2.2.2.1
def dJ3_checkFromToIndex_8c36e_9 := gdJ3_checkFromToIndex_8c36e_0.2.2.2.2.2.1
def dJ3_checkFromToIndex_8c36e_10 := gdJ3_checkFromToIndex_8c36e_0.2.2.2.2.2.2.1
def dJ3_checkFromToIndex_8c36e_11 := gdJ3_checkFromToIndex_8c36e_0.2.2.2.2.2.2.2
theorem gdJ3_checkFromToIndex_8c36e_14 : (decode cJ3_checkFromToIndex_8c36e 14 = .ok (.aload_n 3, 1)) ∧ (decode cJ3_checkFromToIndex_8c36e 15 = .ok (.iload_n 0, 1)) ∧ (decode cJ3_checkFromToIndex_8c36e 16 = .ok (.iload_n 1, 1)) ∧ (decode cJ3_checkFromToIndex_8c36e 17 = .ok (.iload_n 2, 1)) ∧ (decode cJ3_checkFromToIndex_8c36e 18 = .ok (.invokestatic 99, 3)) ∧ (decode cJ3_checkFromToIndex_8c36e 21 = .ok (.athrow, 1)) ∧ (decode cJ3_checkFromToIndex_8c36e 22 = .ok (.iload_n 0, 1)) ∧ (decode cJ3_checkFromToIndex_8c36e 23 = .ok (.ireturn, 1)) := by decide +kernel
def dJ3_checkFromToIndex_8c36e_14 := gdJ3_checkFromToIndex_8c36e_14.1
def dJ3_checkFromToIndex_8c36e_15 := gdJ3_checkFromToIndex_8c36e_14.2.1
def dJ3_checkFromToIndex_8c36e_16 := gdJ3_checkFromToIndex_8c36e_14.2.2.1
def dJ3_checkFromToIndex_8c36e_17 := gdJ3_checkFromToIndex_8c36e_14.2.2.2.1
def dJ3_checkFromToIndex_8c36e_18 := gdJ3_checkFromToIndex_8c36e_14.2.2.2.2.1
def dJ3_checkFromToIndex_8c36e_21 := gdJ3_checkFromToIndex_8c36e_14.2.2.2.2.2.1
def dJ3_checkFromToIndex_8c36e_22 := gdJ3_checkFromToIndex_8c36e_14.2.2.2.2.2.2.1
def dJ3_checkFromToIndex_8c36e_23 := gdJ3_checkFromToIndex_8c36e_14.2.2.2.2.2.2.2
theorem gdJ3_checkFromIndexSize_8c36e_0 : (decode cJ3_checkFromIndexSize_8c36e 0 = .ok (.iload_n 2, 1)) ∧ (decode cJ3_checkFromIndexSize_8c36e 1 = .ok (.iload_n 0, 1)) ∧ (decode cJ3_checkFromIndexSize_8c36e 2 = .ok (.ior, 1)) ∧ (decode cJ3_checkFromIndexSize_8c36e 3 = .ok (.iload_n 1, 1)) ∧ (decode cJ3_checkFromIndexSize_8c36e 4 = .ok (.ior, 1)) ∧ (decode cJ3_checkFromIndexSize_8c36e 5 = .ok (.ifCond .lt 10, 3)) ∧ (decode cJ3_checkFromIndexSize_8c36e 8 = .ok (.iload_n 1, 1)) ∧ (decode cJ3_checkFromIndexSize_8c36e 9 = .ok (.iload_n 2, 1)) := by decide +kernel
def dJ3_checkFromIndexSize_8c36e_0 := gdJ3_checkFromIndexSize_8c36e_0.1
def dJ3_checkFromIndexSize_8c36e_1 := gdJ3_checkFromIndexSize_8c36e_0.2.1
def dJ3_checkFromIndexSize_8c36e_2 := gdJ3_checkFromIndexSize_8c36e_0.2.2.1
def dJ3_checkFromIndexSize_8c36e_3 := gdJ3_checkFromIndexSize_8c36e_0.2.2.2.1
def dJ3_checkFromIndexSize_8c36e_4 := gdJ3_checkFromIndexSize_8c36e_0.2.2.2.2.1
def dJ3_checkFromIndexSize_8c36e_5 := gdJ3_checkFromIndexSize_8c36e_0.2.2.2.2.2.1
def dJ3_checkFromIndexSize_8c36e_8 := gdJ3_checkFromIndexSize_8c36e_0.2.2.2.2.2.2.1
def dJ3_checkFromIndexSize_8c36e_9 := gdJ3_checkFromIndexSize_8c36e_0.2.2.2.2.2.2.2
theorem gdJ3_checkFromIndexSize_8c36e_10 : (decode cJ3_checkFromIndexSize_8c36e 10 = .ok (.iload_n 0, 1)) ∧ (decode cJ3_checkFromIndexSize_8c36e 11 = .ok (.isub, 1)) ∧ (decode cJ3_checkFromIndexSize_8c36e 12 = .ok (.if_icmp .le 11, 3)) ∧ (decode cJ3_checkFromIndexSize_8c36e 15 = .ok (.aload_n 3, 1)) ∧ (decode cJ3_checkFromIndexSize_8c36e 16 = .ok (.iload_n 0, 1)) ∧ (decode cJ3_checkFromIndexSize_8c36e 17 = .ok (.iload_n 1, 1)) ∧ (decode cJ3_checkFromIndexSize_8c36e 18 = .ok (.iload_n 2, 1)) ∧ (decode cJ3_checkFromIndexSize_8c36e 19 = .ok (.invokestatic 103, 3)) := by decide +kernel
def dJ3_checkFromIndexSize_8c36e_10 := gdJ3_checkFromIndexSize_8c36e_10.1
def dJ3_checkFromIndexSize_8c36e_11 := gdJ3_checkFromIndexSize_8c36e_10.2.1
def dJ3_checkFromIndexSize_8c36e_12 := gdJ3_checkFromIndexSize_8c36e_10.2.2.1
def dJ3_checkFromIndexSize_8c36e_15 := gdJ3_checkFromIndexSize_8c36e_10.2.2.2.1
def dJ3_checkFromIndexSize_8c36e_16 := gdJ3_checkFromIndexSize_8c36e_10.2.2.2.2.1
def dJ3_checkFromIndexSize_8c36e_17 := gdJ3_checkFromIndexSize_8c36e_10.2.2.2.2.2.1
def dJ3_checkFromIndexSize_8c36e_18 := gdJ3_checkFromIndexSize_8c36e_10.2.2.2.2.2.2.1
def dJ3_checkFromIndexSize_8c36e_19 := gdJ3_checkFromIndexSize_8c36e_10.2.2.2.2.2.2.2
theorem gdJ3_checkFromIndexSize_8c36e_22 : (decode cJ3_checkFromIndexSize_8c36e 22 = .ok (.athrow, 1)) ∧ (decode cJ3_checkFromIndexSize_8c36e 23 = .ok (.iload_n 0, 1)) ∧ (decode cJ3_checkFromIndexSize_8c36e 24 = .ok (.ireturn, 1)) := by decide +kernel
def dJ3_checkFromIndexSize_8c36e_22 := gdJ3_checkFromIndexSize_8c36e_22.1
def dJ3_checkFromIndexSize_8c36e_23 := gdJ3_checkFromIndexSize_8c36e_22.2.1
def dJ3_checkFromIndexSize_8c36e_24 := gdJ3_checkFromIndexSize_8c36e_22.2.2
