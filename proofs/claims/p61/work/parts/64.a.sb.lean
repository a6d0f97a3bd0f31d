theorem q2_48 : Jvm.Cond.superclass "java/lang/StringBuilder" "java/lang/AbstractStringBuilder" ∈ BIG := bg2 (List.mem_of_getElem? (i := 48) rfl) rfl
theorem q6_169 : Jvm.Cond.constant "java/lang/AbstractStringBuilder" (39 : Nat) (2147483647 : Int32) ∈ BIG := bg6 (List.mem_of_getElem? (i := 169) rfl) rfl
theorem q6_182 : Jvm.Cond.sameMethod "java/lang/AbstractStringBuilder" "java/lang/AbstractStringBuilder" "isLatin1" "()Z" ∈ BIG := bg6 (List.mem_of_getElem? (i := 182) rfl) rfl
theorem q7_100 : Jvm.Cond.sameMethod "java/lang/AbstractStringBuilder" "java/lang/AbstractStringBuilder" "ensureCapacityInternal" "(I)V" ∈ BIG := bg7 (List.mem_of_getElem? (i := 100) rfl) rfl
theorem q7_101 : Jvm.Cond.sameMethod "java/lang/AbstractStringBuilder" "java/lang/AbstractStringBuilder" "newCapacity" "(I)I" ∈ BIG := bg7 (List.mem_of_getElem? (i := 101) rfl) rfl
theorem q7_102 : Jvm.Cond.sameMethod "java/lang/AbstractStringBuilder" "java/lang/AbstractStringBuilder" "putStringAt" "(ILjava/lang/String;)V" ∈ BIG := bg7 (List.mem_of_getElem? (i := 102) rfl) rfl
theorem q7_103 : Jvm.Cond.sameMethod "java/lang/AbstractStringBuilder" "java/lang/AbstractStringBuilder" "inflateIfNeededFor" "(Ljava/lang/String;)V" ∈ BIG := bg7 (List.mem_of_getElem? (i := 103) rfl) rfl
theorem q7_105 : Jvm.Cond.sameMethod "java/lang/AbstractStringBuilder" "java/lang/AbstractStringBuilder" "append" "(I)Ljava/lang/AbstractStringBuilder;" ∈ BIG := bg7 (List.mem_of_getElem? (i := 105) rfl) rfl
theorem q7_39 : Jvm.Cond.sameMethod "java/lang/AbstractStringBuilder" "java/lang/AbstractStringBuilder" "length" "()I" ∈ BIG := bg7 (List.mem_of_getElem? (i := 39) rfl) rfl
theorem q7_98 : Jvm.Cond.sameMethod "java/lang/AbstractStringBuilder" "java/lang/AbstractStringBuilder" "append" "(Ljava/lang/String;)Ljava/lang/AbstractStringBuilder;" ∈ BIG := bg7 (List.mem_of_getElem? (i := 98) rfl) rfl
-- ===== p61: a text is put together =====
theorem dJ6_stringSize_0f7a4_0 : decode cJ6_stringSize_0f7a4 0 = .ok (.iconst 1, 1) := by decide +kernel
theorem dJ6_stringSize_0f7a4_1 : decode cJ6_stringSize_0f7a4 1 = .ok (.istore_n 1, 1) := by decide +kernel
theorem dJ6_stringSize_0f7a4_2 : decode cJ6_stringSize_0f7a4 2 = .ok (.iload_n 0, 1) := by decide +kernel
theorem dJ6_stringSize_0f7a4_3 : decode cJ6_stringSize_0f7a4 3 = .ok (.ifCond .lt 8, 3) := by decide +kernel
theorem dJ6_stringSize_0f7a4_6 : decode cJ6_stringSize_0f7a4 6 = .ok (.iconst 0, 1) := by decide +kernel
theorem dJ6_stringSize_0f7a4_7 : decode cJ6_stringSize_0f7a4 7 = .ok (.istore_n 1, 1) := by decide +kernel
theorem dJ6_stringSize_0f7a4_8 : decode cJ6_stringSize_0f7a4 8 = .ok (.iload_n 0, 1) := by decide +kernel
theorem dJ6_stringSize_0f7a4_9 : decode cJ6_stringSize_0f7a4 9 = .ok (.ineg, 1) := by decide +kernel
theorem dJ6_stringSize_0f7a4_10 : decode cJ6_stringSize_0f7a4 10 = .ok (.istore_n 0, 1) := by decide +kernel
theorem dJ6_stringSize_0f7a4_11 : decode cJ6_stringSize_0f7a4 11 = .ok (.bipush (-10), 2) := by decide +kernel
theorem dJ6_stringSize_0f7a4_13 : decode cJ6_stringSize_0f7a4 13 = .ok (.istore_n 2, 1) := by decide +kernel
theorem dJ6_stringSize_0f7a4_14 : decode cJ6_stringSize_0f7a4 14 = .ok (.iconst 1, 1) := by decide +kernel
theorem dJ6_stringSize_0f7a4_15 : decode cJ6_stringSize_0f7a4 15 = .ok (.istore_n 3, 1) := by decide +kernel
theorem dJ6_stringSize_0f7a4_16 : decode cJ6_stringSize_0f7a4 16 = .ok (.iload_n 3, 1) := by decide +kernel
theorem dJ6_stringSize_0f7a4_17 : decode cJ6_stringSize_0f7a4 17 = .ok (.bipush 10, 2) := by decide +kernel
theorem dJ6_stringSize_0f7a4_19 : decode cJ6_stringSize_0f7a4 19 = .ok (.if_icmp .ge 23, 3) := by decide +kernel
theorem dJ6_stringSize_0f7a4_22 : decode cJ6_stringSize_0f7a4 22 = .ok (.iload_n 0, 1) := by decide +kernel
theorem dJ6_stringSize_0f7a4_23 : decode cJ6_stringSize_0f7a4 23 = .ok (.iload_n 2, 1) := by decide +kernel
theorem dJ6_stringSize_0f7a4_24 : decode cJ6_stringSize_0f7a4 24 = .ok (.if_icmp .le 7, 3) := by decide +kernel
theorem dJ6_stringSize_0f7a4_27 : decode cJ6_stringSize_0f7a4 27 = .ok (.iload_n 3, 1) := by decide +kernel
theorem dJ6_stringSize_0f7a4_28 : decode cJ6_stringSize_0f7a4 28 = .ok (.iload_n 1, 1) := by decide +kernel
theorem dJ6_stringSize_0f7a4_29 : decode cJ6_stringSize_0f7a4 29 = .ok (.iadd, 1) := by decide +kernel
theorem dJ6_stringSize_0f7a4_30 : decode cJ6_stringSize_0f7a4 30 = .ok (.ireturn, 1) := by decide +kernel
theorem dJ6_stringSize_0f7a4_31 : decode cJ6_stringSize_0f7a4 31 = .ok (.bipush 10, 2) := by decide +kernel
theorem dJ6_stringSize_0f7a4_33 : decode cJ6_stringSize_0f7a4 33 = .ok (.iload_n 2, 1) := by decide +kernel
theorem dJ6_stringSize_0f7a4_34 : decode cJ6_stringSize_0f7a4 34 = .ok (.imul, 1) := by decide +kernel
theorem dJ6_stringSize_0f7a4_35 : decode cJ6_stringSize_0f7a4 35 = .ok (.istore_n 2, 1) := by decide +kernel
theorem dJ6_stringSize_0f7a4_36 : decode cJ6_stringSize_0f7a4 36 = .ok (.iinc 3 1, 3) := by decide +kernel
theorem dJ6_stringSize_0f7a4_39 : decode cJ6_stringSize_0f7a4 39 = .ok (.goto (-23), 3) := by decide +kernel
theorem dJ6_stringSize_0f7a4_42 : decode cJ6_stringSize_0f7a4 42 = .ok (.bipush 10, 2) := by decide +kernel
theorem dJ6_stringSize_0f7a4_44 : decode cJ6_stringSize_0f7a4 44 = .ok (.iload_n 1, 1) := by decide +kernel
theorem dJ6_stringSize_0f7a4_45 : decode cJ6_stringSize_0f7a4 45 = .ok (.iadd, 1) := by decide +kernel
theorem dJ6_stringSize_0f7a4_46 : decode cJ6_stringSize_0f7a4 46 = .ok (.ireturn, 1) := by decide +kernel
theorem dJ5_isLatin1_aae02_0 : decode cJ5_isLatin1_aae02 0 = .ok (.getstatic 18, 3) := by decide +kernel
theorem dJ5_isLatin1_aae02_3 : decode cJ5_isLatin1_aae02 3 = .ok (.ifCond .eq 14, 3) := by decide +kernel
theorem dJ5_isLatin1_aae02_6 : decode cJ5_isLatin1_aae02 6 = .ok (.aload_n 0, 1) := by decide +kernel
theorem dJ5_isLatin1_aae02_7 : decode cJ5_isLatin1_aae02 7 = .ok (.getfield 22, 3) := by decide +kernel
theorem dJ5_isLatin1_aae02_10 : decode cJ5_isLatin1_aae02 10 = .ok (.ifCond .ne 7, 3) := by decide +kernel
theorem dJ5_isLatin1_aae02_13 : decode cJ5_isLatin1_aae02 13 = .ok (.iconst 1, 1) := by decide +kernel
theorem dJ5_isLatin1_aae02_14 : decode cJ5_isLatin1_aae02 14 = .ok (.goto 4, 3) := by decide +kernel
theorem dJ5_isLatin1_aae02_17 : decode cJ5_isLatin1_aae02 17 = .ok (.iconst 0, 1) := by decide +kernel
theorem dJ5_isLatin1_aae02_18 : decode cJ5_isLatin1_aae02 18 = .ok (.ireturn, 1) := by decide +kernel
theorem dJ5_length_8abf5_0 : decode cJ5_length_8abf5 0 = .ok (.aload_n 0, 1) := by decide +kernel
theorem dJ5_length_8abf5_1 : decode cJ5_length_8abf5 1 = .ok (.getfield 79, 3) := by decide +kernel
theorem dJ5_length_8abf5_4 : decode cJ5_length_8abf5 4 = .ok (.ireturn, 1) := by decide +kernel
theorem dJ4_length_8abf5_0 : decode cJ4_length_8abf5 0 = .ok (.aload_n 0, 1) := by decide +kernel
theorem dJ4_length_8abf5_1 : decode cJ4_length_8abf5 1 = .ok (.invokespecial 343, 3) := by decide +kernel
theorem dJ4_length_8abf5_4 : decode cJ4_length_8abf5 4 = .ok (.ireturn, 1) := by decide +kernel
theorem dJ5_newCapacity_0f7a4_0 : decode cJ5_newCapacity_0f7a4 0 = .ok (.aload_n 0, 1) := by decide +kernel
theorem dJ5_newCapacity_0f7a4_1 : decode cJ5_newCapacity_0f7a4 1 = .ok (.getfield 15, 3) := by decide +kernel
theorem dJ5_newCapacity_0f7a4_4 : decode cJ5_newCapacity_0f7a4 4 = .ok (.arraylength, 1) := by decide +kernel
theorem dJ5_newCapacity_0f7a4_5 : decode cJ5_newCapacity_0f7a4 5 = .ok (.istore_n 2, 1) := by decide +kernel
theorem dJ5_newCapacity_0f7a4_6 : decode cJ5_newCapacity_0f7a4 6 = .ok (.iload_n 1, 1) := by decide +kernel
theorem dJ5_newCapacity_0f7a4_7 : decode cJ5_newCapacity_0f7a4 7 = .ok (.aload_n 0, 1) := by decide +kernel
theorem dJ5_newCapacity_0f7a4_8 : decode cJ5_newCapacity_0f7a4 8 = .ok (.getfield 22, 3) := by decide +kernel
theorem dJ5_newCapacity_0f7a4_11 : decode cJ5_newCapacity_0f7a4 11 = .ok (.ishl, 1) := by decide +kernel
theorem dJ5_newCapacity_0f7a4_12 : decode cJ5_newCapacity_0f7a4 12 = .ok (.istore_n 3, 1) := by decide +kernel
theorem dJ5_newCapacity_0f7a4_13 : decode cJ5_newCapacity_0f7a4 13 = .ok (.iload_n 3, 1) := by decide +kernel
theorem dJ5_newCapacity_0f7a4_14 : decode cJ5_newCapacity_0f7a4 14 = .ok (.iload_n 2, 1) := by decide +kernel
theorem dJ5_newCapacity_0f7a4_15 : decode cJ5_newCapacity_0f7a4 15 = .ok (.isub, 1) := by decide +kernel
theorem dJ5_newCapacity_0f7a4_16 : decode cJ5_newCapacity_0f7a4 16 = .ok (.istore 4, 2) := by decide +kernel
theorem dJ5_newCapacity_0f7a4_18 : decode cJ5_newCapacity_0f7a4 18 = .ok (.iload_n 2, 1) := by decide +kernel
theorem dJ5_newCapacity_0f7a4_19 : decode cJ5_newCapacity_0f7a4 19 = .ok (.iload 4, 2) := by decide +kernel
theorem dJ5_newCapacity_0f7a4_21 : decode cJ5_newCapacity_0f7a4 21 = .ok (.iload_n 2, 1) := by decide +kernel
theorem dJ5_newCapacity_0f7a4_22 : decode cJ5_newCapacity_0f7a4 22 = .ok (.iconst 2, 1) := by decide +kernel
theorem dJ5_newCapacity_0f7a4_23 : decode cJ5_newCapacity_0f7a4 23 = .ok (.aload_n 0, 1) := by decide +kernel
theorem dJ5_newCapacity_0f7a4_24 : decode cJ5_newCapacity_0f7a4 24 = .ok (.getfield 22, 3) := by decide +kernel
theorem dJ5_newCapacity_0f7a4_27 : decode cJ5_newCapacity_0f7a4 27 = .ok (.ishl, 1) := by decide +kernel
theorem dJ5_newCapacity_0f7a4_28 : decode cJ5_newCapacity_0f7a4 28 = .ok (.iadd, 1) := by decide +kernel
theorem dJ5_newCapacity_0f7a4_29 : decode cJ5_newCapacity_0f7a4 29 = .ok (.invokestatic 114, 3) := by decide +kernel
theorem dJ5_newCapacity_0f7a4_32 : decode cJ5_newCapacity_0f7a4 32 = .ok (.istore 5, 2) := by decide +kernel
theorem dJ5_newCapacity_0f7a4_34 : decode cJ5_newCapacity_0f7a4 34 = .ok (.iload 5, 2) := by decide +kernel
theorem dJ5_newCapacity_0f7a4_36 : decode cJ5_newCapacity_0f7a4 36 = .ok (.ldc 39, 2) := by decide +kernel
theorem dJ5_newCapacity_0f7a4_38 : decode cJ5_newCapacity_0f7a4 38 = .ok (.if_icmp .ne 13, 3) := by decide +kernel
theorem dJ5_newCapacity_0f7a4_41 : decode cJ5_newCapacity_0f7a4 41 = .ok (.new 120, 3) := by decide +kernel
theorem dJ5_newCapacity_0f7a4_44 : decode cJ5_newCapacity_0f7a4 44 = .ok (.dup, 1) := by decide +kernel
theorem dJ5_newCapacity_0f7a4_45 : decode cJ5_newCapacity_0f7a4 45 = .ok (.ldc 122, 2) := by decide +kernel
theorem dJ5_newCapacity_0f7a4_47 : decode cJ5_newCapacity_0f7a4 47 = .ok (.invokespecial 124, 3) := by decide +kernel
theorem dJ5_newCapacity_0f7a4_50 : decode cJ5_newCapacity_0f7a4 50 = .ok (.athrow, 1) := by decide +kernel
theorem dJ5_newCapacity_0f7a4_51 : decode cJ5_newCapacity_0f7a4 51 = .ok (.iload 5, 2) := by decide +kernel
theorem dJ5_newCapacity_0f7a4_53 : decode cJ5_newCapacity_0f7a4 53 = .ok (.aload_n 0, 1) := by decide +kernel
theorem dJ5_newCapacity_0f7a4_54 : decode cJ5_newCapacity_0f7a4 54 = .ok (.getfield 22, 3) := by decide +kernel
theorem dJ5_newCapacity_0f7a4_57 : decode cJ5_newCapacity_0f7a4 57 = .ok (.ishr, 1) := by decide +kernel
theorem dJ5_newCapacity_0f7a4_58 : decode cJ5_newCapacity_0f7a4 58 = .ok (.ireturn, 1) := by decide +kernel
theorem dJ7_copyOf_9075b_0 : decode cJ7_copyOf_9075b 0 = .ok (.iload_n 1, 1) := by decide +kernel
theorem dJ7_copyOf_9075b_1 : decode cJ7_copyOf_9075b 1 = .ok (.aload_n 0, 1) := by decide +kernel
theorem dJ7_copyOf_9075b_2 : decode cJ7_copyOf_9075b 2 = .ok (.arraylength, 1) := by decide +kernel
theorem dJ7_copyOf_9075b_3 : decode cJ7_copyOf_9075b 3 = .ok (.if_icmp .ne 11, 3) := by decide +kernel
theorem dJ7_copyOf_9075b_6 : decode cJ7_copyOf_9075b 6 = .ok (.aload_n 0, 1) := by decide +kernel
theorem dJ7_copyOf_9075b_7 : decode cJ7_copyOf_9075b 7 = .ok (.invokevirtual 310, 3) := by decide +kernel
theorem dJ7_copyOf_9075b_10 : decode cJ7_copyOf_9075b 10 = .ok (.checkcast 311, 3) := by decide +kernel
theorem dJ7_copyOf_9075b_13 : decode cJ7_copyOf_9075b 13 = .ok (.areturn, 1) := by decide +kernel
theorem dJ7_copyOf_9075b_14 : decode cJ7_copyOf_9075b 14 = .ok (.iload_n 1, 1) := by decide +kernel
theorem dJ7_copyOf_9075b_15 : decode cJ7_copyOf_9075b 15 = .ok (.newarray .byte, 2) := by decide +kernel
theorem dJ7_copyOf_9075b_17 : decode cJ7_copyOf_9075b 17 = .ok (.astore_n 2, 1) := by decide +kernel
theorem dJ7_copyOf_9075b_18 : decode cJ7_copyOf_9075b 18 = .ok (.aload_n 0, 1) := by decide +kernel
theorem dJ7_copyOf_9075b_19 : decode cJ7_copyOf_9075b 19 = .ok (.iconst 0, 1) := by decide +kernel
theorem dJ7_copyOf_9075b_20 : decode cJ7_copyOf_9075b 20 = .ok (.aload_n 2, 1) := by decide +kernel
theorem dJ7_copyOf_9075b_21 : decode cJ7_copyOf_9075b 21 = .ok (.iconst 0, 1) := by decide +kernel
theorem dJ7_copyOf_9075b_22 : decode cJ7_copyOf_9075b 22 = .ok (.aload_n 0, 1) := by decide +kernel
theorem dJ7_copyOf_9075b_23 : decode cJ7_copyOf_9075b 23 = .ok (.arraylength, 1) := by decide +kernel
theorem dJ7_copyOf_9075b_24 : decode cJ7_copyOf_9075b 24 = .ok (.iload_n 1, 1) := by decide +kernel
theorem dJ7_copyOf_9075b_25 : decode cJ7_copyOf_9075b 25 = .ok (.invokestatic 304, 3) := by decide +kernel
theorem dJ7_copyOf_9075b_28 : decode cJ7_copyOf_9075b 28 = .ok (.invokestatic 150, 3) := by decide +kernel
theorem dJ7_copyOf_9075b_31 : decode cJ7_copyOf_9075b 31 = .ok (.aload_n 2, 1) := by decide +kernel
theorem dJ7_copyOf_9075b_32 : decode cJ7_copyOf_9075b 32 = .ok (.areturn, 1) := by decide +kernel
theorem dJ5_ensureCapacityInternal_d00df_0 : decode cJ5_ensureCapacityInternal_d00df 0 = .ok (.aload_n 0, 1) := by decide +kernel
theorem dJ5_ensureCapacityInternal_d00df_1 : decode cJ5_ensureCapacityInternal_d00df 1 = .ok (.getfield 15, 3) := by decide +kernel
theorem dJ5_ensureCapacityInternal_d00df_4 : decode cJ5_ensureCapacityInternal_d00df 4 = .ok (.arraylength, 1) := by decide +kernel
theorem dJ5_ensureCapacityInternal_d00df_5 : decode cJ5_ensureCapacityInternal_d00df 5 = .ok (.aload_n 0, 1) := by decide +kernel
theorem dJ5_ensureCapacityInternal_d00df_6 : decode cJ5_ensureCapacityInternal_d00df 6 = .ok (.getfield 22, 3) := by decide +kernel
theorem dJ5_ensureCapacityInternal_d00df_9 : decode cJ5_ensureCapacityInternal_d00df 9 = .ok (.ishr, 1) := by decide +kernel
theorem dJ5_ensureCapacityInternal_d00df_10 : decode cJ5_ensureCapacityInternal_d00df 10 = .ok (.istore_n 2, 1) := by decide +kernel
theorem dJ5_ensureCapacityInternal_d00df_11 : decode cJ5_ensureCapacityInternal_d00df 11 = .ok (.iload_n 1, 1) := by decide +kernel
theorem dJ5_ensureCapacityInternal_d00df_12 : decode cJ5_ensureCapacityInternal_d00df 12 = .ok (.iload_n 2, 1) := by decide +kernel
theorem dJ5_ensureCapacityInternal_d00df_13 : decode cJ5_ensureCapacityInternal_d00df 13 = .ok (.isub, 1) := by decide +kernel
theorem dJ5_ensureCapacityInternal_d00df_14 : decode cJ5_ensureCapacityInternal_d00df 14 = .ok (.ifCond .le 24, 3) := by decide +kernel
theorem dJ5_ensureCapacityInternal_d00df_17 : decode cJ5_ensureCapacityInternal_d00df 17 = .ok (.aload_n 0, 1) := by decide +kernel
theorem dJ5_ensureCapacityInternal_d00df_18 : decode cJ5_ensureCapacityInternal_d00df 18 = .ok (.aload_n 0, 1) := by decide +kernel
theorem dJ5_ensureCapacityInternal_d00df_19 : decode cJ5_ensureCapacityInternal_d00df 19 = .ok (.getfield 15, 3) := by decide +kernel
theorem dJ5_ensureCapacityInternal_d00df_22 : decode cJ5_ensureCapacityInternal_d00df 22 = .ok (.aload_n 0, 1) := by decide +kernel
theorem dJ5_ensureCapacityInternal_d00df_23 : decode cJ5_ensureCapacityInternal_d00df 23 = .ok (.iload_n 1, 1) := by decide +kernel
theorem dJ5_ensureCapacityInternal_d00df_24 : decode cJ5_ensureCapacityInternal_d00df 24 = .ok (.invokevirtual 104, 3) := by decide +kernel
theorem dJ5_ensureCapacityInternal_d00df_27 : decode cJ5_ensureCapacityInternal_d00df 27 = .ok (.aload_n 0, 1) := by decide +kernel
theorem dJ5_ensureCapacityInternal_d00df_28 : decode cJ5_ensureCapacityInternal_d00df 28 = .ok (.getfield 22, 3) := by decide +kernel
theorem dJ5_ensureCapacityInternal_d00df_31 : decode cJ5_ensureCapacityInternal_d00df 31 = .ok (.ishl, 1) := by decide +kernel
theorem dJ5_ensureCapacityInternal_d00df_32 : decode cJ5_ensureCapacityInternal_d00df 32 = .ok (.invokestatic 108, 3) := by decide +kernel
theorem dJ5_ensureCapacityInternal_d00df_35 : decode cJ5_ensureCapacityInternal_d00df 35 = .ok (.putfield 15, 3) := by decide +kernel
theorem dJ5_ensureCapacityInternal_d00df_38 : decode cJ5_ensureCapacityInternal_d00df 38 = .ok (.return_, 1) := by decide +kernel
theorem dJ6_getChars_ba4f3_0 : decode cJ6_getChars_ba4f3 0 = .ok (.iload_n 1, 1) := by decide +kernel
theorem dJ6_getChars_ba4f3_1 : decode cJ6_getChars_ba4f3 1 = .ok (.istore 5, 2) := by decide +kernel
theorem dJ6_getChars_ba4f3_3 : decode cJ6_getChars_ba4f3 3 = .ok (.iload_n 0, 1) := by decide +kernel
theorem dJ6_getChars_ba4f3_4 : decode cJ6_getChars_ba4f3 4 = .ok (.ifCond .ge 7, 3) := by decide +kernel
theorem dJ6_getChars_ba4f3_7 : decode cJ6_getChars_ba4f3 7 = .ok (.iconst 1, 1) := by decide +kernel
theorem dJ6_getChars_ba4f3_8 : decode cJ6_getChars_ba4f3 8 = .ok (.goto 4, 3) := by decide +kernel
theorem dJ6_getChars_ba4f3_11 : decode cJ6_getChars_ba4f3 11 = .ok (.iconst 0, 1) := by decide +kernel
theorem dJ6_getChars_ba4f3_12 : decode cJ6_getChars_ba4f3 12 = .ok (.istore 6, 2) := by decide +kernel
theorem dJ6_getChars_ba4f3_14 : decode cJ6_getChars_ba4f3 14 = .ok (.iload 6, 2) := by decide +kernel
theorem dJ6_getChars_ba4f3_16 : decode cJ6_getChars_ba4f3 16 = .ok (.ifCond .ne 6, 3) := by decide +kernel
theorem dJ6_getChars_ba4f3_19 : decode cJ6_getChars_ba4f3 19 = .ok (.iload_n 0, 1) := by decide +kernel
theorem dJ6_getChars_ba4f3_20 : decode cJ6_getChars_ba4f3 20 = .ok (.ineg, 1) := by decide +kernel
theorem dJ6_getChars_ba4f3_21 : decode cJ6_getChars_ba4f3 21 = .ok (.istore_n 0, 1) := by decide +kernel
theorem dJ6_getChars_ba4f3_22 : decode cJ6_getChars_ba4f3 22 = .ok (.iload_n 0, 1) := by decide +kernel
theorem dJ6_getChars_ba4f3_23 : decode cJ6_getChars_ba4f3 23 = .ok (.bipush (-100), 2) := by decide +kernel
theorem dJ6_getChars_ba4f3_25 : decode cJ6_getChars_ba4f3 25 = .ok (.if_icmp .gt 47, 3) := by decide +kernel
theorem dJ6_getChars_ba4f3_28 : decode cJ6_getChars_ba4f3 28 = .ok (.iload_n 0, 1) := by decide +kernel
theorem dJ6_getChars_ba4f3_29 : decode cJ6_getChars_ba4f3 29 = .ok (.bipush 100, 2) := by decide +kernel
theorem dJ6_getChars_ba4f3_31 : decode cJ6_getChars_ba4f3 31 = .ok (.idiv, 1) := by decide +kernel
theorem dJ6_getChars_ba4f3_32 : decode cJ6_getChars_ba4f3 32 = .ok (.istore_n 3, 1) := by decide +kernel
theorem dJ6_getChars_ba4f3_33 : decode cJ6_getChars_ba4f3 33 = .ok (.iload_n 3, 1) := by decide +kernel
theorem dJ6_getChars_ba4f3_34 : decode cJ6_getChars_ba4f3 34 = .ok (.bipush 100, 2) := by decide +kernel
theorem dJ6_getChars_ba4f3_36 : decode cJ6_getChars_ba4f3 36 = .ok (.imul, 1) := by decide +kernel
theorem dJ6_getChars_ba4f3_37 : decode cJ6_getChars_ba4f3 37 = .ok (.iload_n 0, 1) := by decide +kernel
theorem dJ6_getChars_ba4f3_38 : decode cJ6_getChars_ba4f3 38 = .ok (.isub, 1) := by decide +kernel
theorem dJ6_getChars_ba4f3_39 : decode cJ6_getChars_ba4f3 39 = .ok (.istore 4, 2) := by decide +kernel
theorem dJ6_getChars_ba4f3_41 : decode cJ6_getChars_ba4f3 41 = .ok (.iload_n 3, 1) := by decide +kernel
theorem dJ6_getChars_ba4f3_42 : decode cJ6_getChars_ba4f3 42 = .ok (.istore_n 0, 1) := by decide +kernel
theorem dJ6_getChars_ba4f3_43 : decode cJ6_getChars_ba4f3 43 = .ok (.aload_n 2, 1) := by decide +kernel
theorem dJ6_getChars_ba4f3_44 : decode cJ6_getChars_ba4f3 44 = .ok (.iinc 5 (-1), 3) := by decide +kernel
theorem dJ6_getChars_ba4f3_47 : decode cJ6_getChars_ba4f3 47 = .ok (.iload 5, 2) := by decide +kernel
theorem dJ6_getChars_ba4f3_49 : decode cJ6_getChars_ba4f3 49 = .ok (.getstatic 83, 3) := by decide +kernel
theorem dJ6_getChars_ba4f3_52 : decode cJ6_getChars_ba4f3 52 = .ok (.iload 4, 2) := by decide +kernel
theorem dJ6_getChars_ba4f3_54 : decode cJ6_getChars_ba4f3 54 = .ok (.baload, 1) := by decide +kernel
theorem dJ6_getChars_ba4f3_55 : decode cJ6_getChars_ba4f3 55 = .ok (.bastore, 1) := by decide +kernel
theorem dJ6_getChars_ba4f3_56 : decode cJ6_getChars_ba4f3 56 = .ok (.aload_n 2, 1) := by decide +kernel
theorem dJ6_getChars_ba4f3_57 : decode cJ6_getChars_ba4f3 57 = .ok (.iinc 5 (-1), 3) := by decide +kernel
theorem dJ6_getChars_ba4f3_60 : decode cJ6_getChars_ba4f3 60 = .ok (.iload 5, 2) := by decide +kernel
theorem dJ6_getChars_ba4f3_62 : decode cJ6_getChars_ba4f3 62 = .ok (.getstatic 87, 3) := by decide +kernel
theorem dJ6_getChars_ba4f3_65 : decode cJ6_getChars_ba4f3 65 = .ok (.iload 4, 2) := by decide +kernel
theorem dJ6_getChars_ba4f3_67 : decode cJ6_getChars_ba4f3 67 = .ok (.baload, 1) := by decide +kernel
theorem dJ6_getChars_ba4f3_68 : decode cJ6_getChars_ba4f3 68 = .ok (.bastore, 1) := by decide +kernel
theorem dJ6_getChars_ba4f3_69 : decode cJ6_getChars_ba4f3 69 = .ok (.goto (-47), 3) := by decide +kernel
theorem dJ6_getChars_ba4f3_72 : decode cJ6_getChars_ba4f3 72 = .ok (.aload_n 2, 1) := by decide +kernel
theorem dJ6_getChars_ba4f3_73 : decode cJ6_getChars_ba4f3 73 = .ok (.iinc 5 (-1), 3) := by decide +kernel
theorem dJ6_getChars_ba4f3_76 : decode cJ6_getChars_ba4f3 76 = .ok (.iload 5, 2) := by decide +kernel
theorem dJ6_getChars_ba4f3_78 : decode cJ6_getChars_ba4f3 78 = .ok (.getstatic 83, 3) := by decide +kernel
theorem dJ6_getChars_ba4f3_81 : decode cJ6_getChars_ba4f3 81 = .ok (.iload_n 0, 1) := by decide +kernel
theorem dJ6_getChars_ba4f3_82 : decode cJ6_getChars_ba4f3 82 = .ok (.ineg, 1) := by decide +kernel
theorem dJ6_getChars_ba4f3_83 : decode cJ6_getChars_ba4f3 83 = .ok (.baload, 1) := by decide +kernel
theorem dJ6_getChars_ba4f3_84 : decode cJ6_getChars_ba4f3 84 = .ok (.bastore, 1) := by decide +kernel
theorem dJ6_getChars_ba4f3_85 : decode cJ6_getChars_ba4f3 85 = .ok (.iload_n 0, 1) := by decide +kernel
theorem dJ6_getChars_ba4f3_86 : decode cJ6_getChars_ba4f3 86 = .ok (.bipush (-9), 2) := by decide +kernel
theorem dJ6_getChars_ba4f3_88 : decode cJ6_getChars_ba4f3 88 = .ok (.if_icmp .ge 16, 3) := by decide +kernel
theorem dJ6_getChars_ba4f3_91 : decode cJ6_getChars_ba4f3 91 = .ok (.aload_n 2, 1) := by decide +kernel
theorem dJ6_getChars_ba4f3_92 : decode cJ6_getChars_ba4f3 92 = .ok (.iinc 5 (-1), 3) := by decide +kernel
theorem dJ6_getChars_ba4f3_95 : decode cJ6_getChars_ba4f3 95 = .ok (.iload 5, 2) := by decide +kernel
theorem dJ6_getChars_ba4f3_97 : decode cJ6_getChars_ba4f3 97 = .ok (.getstatic 87, 3) := by decide +kernel
theorem dJ6_getChars_ba4f3_100 : decode cJ6_getChars_ba4f3 100 = .ok (.iload_n 0, 1) := by decide +kernel
theorem dJ6_getChars_ba4f3_101 : decode cJ6_getChars_ba4f3 101 = .ok (.ineg, 1) := by decide +kernel
theorem dJ6_getChars_ba4f3_102 : decode cJ6_getChars_ba4f3 102 = .ok (.baload, 1) := by decide +kernel
theorem dJ6_getChars_ba4f3_103 : decode cJ6_getChars_ba4f3 103 = .ok (.bastore, 1) := by decide +kernel
theorem dJ6_getChars_ba4f3_104 : decode cJ6_getChars_ba4f3 104 = .ok (.iload 6, 2) := by decide +kernel
theorem dJ6_getChars_ba4f3_106 : decode cJ6_getChars_ba4f3 106 = .ok (.ifCond .eq 12, 3) := by decide +kernel
theorem dJ6_getChars_ba4f3_109 : decode cJ6_getChars_ba4f3 109 = .ok (.aload_n 2, 1) := by decide +kernel
theorem dJ6_getChars_ba4f3_110 : decode cJ6_getChars_ba4f3 110 = .ok (.iinc 5 (-1), 3) := by decide +kernel
theorem dJ6_getChars_ba4f3_113 : decode cJ6_getChars_ba4f3 113 = .ok (.iload 5, 2) := by decide +kernel
theorem dJ6_getChars_ba4f3_115 : decode cJ6_getChars_ba4f3 115 = .ok (.bipush 45, 2) := by decide +kernel
theorem dJ6_getChars_ba4f3_117 : decode cJ6_getChars_ba4f3 117 = .ok (.bastore, 1) := by decide +kernel
theorem dJ6_getChars_ba4f3_118 : decode cJ6_getChars_ba4f3 118 = .ok (.iload 5, 2) := by decide +kernel
theorem dJ6_getChars_ba4f3_120 : decode cJ6_getChars_ba4f3 120 = .ok (.ireturn, 1) := by decide +kernel
theorem dJ5_append_c97b9_0 : decode cJ5_append_c97b9 0 = .ok (.aload_n 0, 1) := by decide +kernel
theorem dJ5_append_c97b9_1 : decode cJ5_append_c97b9 1 = .ok (.getfield 79, 3) := by decide +kernel
theorem dJ5_append_c97b9_4 : decode cJ5_append_c97b9 4 = .ok (.istore_n 2, 1) := by decide +kernel
theorem dJ5_append_c97b9_5 : decode cJ5_append_c97b9 5 = .ok (.iload_n 2, 1) := by decide +kernel
theorem dJ5_append_c97b9_6 : decode cJ5_append_c97b9 6 = .ok (.iload_n 1, 1) := by decide +kernel
theorem dJ5_append_c97b9_7 : decode cJ5_append_c97b9 7 = .ok (.invokestatic 245, 3) := by decide +kernel
theorem dJ5_append_c97b9_10 : decode cJ5_append_c97b9 10 = .ok (.iadd, 1) := by decide +kernel
theorem dJ5_append_c97b9_11 : decode cJ5_append_c97b9 11 = .ok (.istore_n 3, 1) := by decide +kernel
theorem dJ5_append_c97b9_12 : decode cJ5_append_c97b9 12 = .ok (.aload_n 0, 1) := by decide +kernel
theorem dJ5_append_c97b9_13 : decode cJ5_append_c97b9 13 = .ok (.iload_n 3, 1) := by decide +kernel
theorem dJ5_append_c97b9_14 : decode cJ5_append_c97b9 14 = .ok (.invokevirtual 100, 3) := by decide +kernel
theorem dJ5_append_c97b9_17 : decode cJ5_append_c97b9 17 = .ok (.aload_n 0, 1) := by decide +kernel
theorem dJ5_append_c97b9_18 : decode cJ5_append_c97b9 18 = .ok (.invokevirtual 83, 3) := by decide +kernel
theorem dJ5_append_c97b9_21 : decode cJ5_append_c97b9 21 = .ok (.ifCond .eq 16, 3) := by decide +kernel
theorem dJ5_append_c97b9_24 : decode cJ5_append_c97b9 24 = .ok (.iload_n 1, 1) := by decide +kernel
theorem dJ5_append_c97b9_25 : decode cJ5_append_c97b9 25 = .ok (.iload_n 3, 1) := by decide +kernel
theorem dJ5_append_c97b9_26 : decode cJ5_append_c97b9 26 = .ok (.aload_n 0, 1) := by decide +kernel
theorem dJ5_append_c97b9_27 : decode cJ5_append_c97b9 27 = .ok (.getfield 15, 3) := by decide +kernel
theorem dJ5_append_c97b9_30 : decode cJ5_append_c97b9 30 = .ok (.invokestatic 248, 3) := by decide +kernel
theorem dJ5_append_c97b9_33 : decode cJ5_append_c97b9 33 = .ok (.pop, 1) := by decide +kernel
theorem dJ5_append_c97b9_34 : decode cJ5_append_c97b9 34 = .ok (.goto 14, 3) := by decide +kernel
theorem dJ5_append_c97b9_37 : decode cJ5_append_c97b9 37 = .ok (.iload_n 1, 1) := by decide +kernel
theorem dJ5_append_c97b9_38 : decode cJ5_append_c97b9 38 = .ok (.iload_n 2, 1) := by decide +kernel
theorem dJ5_append_c97b9_39 : decode cJ5_append_c97b9 39 = .ok (.iload_n 3, 1) := by decide +kernel
theorem dJ5_append_c97b9_40 : decode cJ5_append_c97b9 40 = .ok (.aload_n 0, 1) := by decide +kernel
theorem dJ5_append_c97b9_41 : decode cJ5_append_c97b9 41 = .ok (.getfield 15, 3) := by decide +kernel
theorem dJ5_append_c97b9_44 : decode cJ5_append_c97b9 44 = .ok (.invokestatic 251, 3) := by decide +kernel
theorem dJ5_append_c97b9_47 : decode cJ5_append_c97b9 47 = .ok (.pop, 1) := by decide +kernel
theorem dJ5_append_c97b9_48 : decode cJ5_append_c97b9 48 = .ok (.aload_n 0, 1) := by decide +kernel
theorem dJ5_append_c97b9_49 : decode cJ5_append_c97b9 49 = .ok (.iload_n 3, 1) := by decide +kernel
theorem dJ5_append_c97b9_50 : decode cJ5_append_c97b9 50 = .ok (.putfield 79, 3) := by decide +kernel
theorem dJ5_append_c97b9_53 : decode cJ5_append_c97b9 53 = .ok (.aload_n 0, 1) := by decide +kernel
theorem dJ5_append_c97b9_54 : decode cJ5_append_c97b9 54 = .ok (.areturn, 1) := by decide +kernel
theorem dJ4_append_bf812_0 : decode cJ4_append_bf812 0 = .ok (.aload_n 0, 1) := by decide +kernel
theorem dJ4_append_bf812_1 : decode cJ4_append_bf812 1 = .ok (.iload_n 1, 1) := by decide +kernel
theorem dJ4_append_bf812_2 : decode cJ4_append_bf812 2 = .ok (.invokespecial 53, 3) := by decide +kernel
theorem dJ4_append_bf812_5 : decode cJ4_append_bf812 5 = .ok (.pop, 1) := by decide +kernel
theorem dJ4_append_bf812_6 : decode cJ4_append_bf812 6 = .ok (.aload_n 0, 1) := by decide +kernel
theorem dJ4_append_bf812_7 : decode cJ4_append_bf812 7 = .ok (.areturn, 1) := by decide +kernel
theorem dJ0_getBytes_840e7_0 : decode cJ0_getBytes_840e7 0 = .ok (.aload_n 0, 1) := by decide +kernel
theorem dJ0_getBytes_840e7_1 : decode cJ0_getBytes_840e7 1 = .ok (.invokevirtual 335, 3) := by decide +kernel
theorem dJ0_getBytes_840e7_4 : decode cJ0_getBytes_840e7 4 = .ok (.iload_n 3, 1) := by decide +kernel
theorem dJ0_getBytes_840e7_5 : decode cJ0_getBytes_840e7 5 = .ok (.if_icmp .ne 23, 3) := by decide +kernel
theorem dJ0_getBytes_840e7_8 : decode cJ0_getBytes_840e7 8 = .ok (.aload_n 0, 1) := by decide +kernel
theorem dJ0_getBytes_840e7_9 : decode cJ0_getBytes_840e7 9 = .ok (.getfield 9, 3) := by decide +kernel
theorem dJ0_getBytes_840e7_12 : decode cJ0_getBytes_840e7 12 = .ok (.iconst 0, 1) := by decide +kernel
theorem dJ0_getBytes_840e7_13 : decode cJ0_getBytes_840e7 13 = .ok (.aload_n 1, 1) := by decide +kernel
theorem dJ0_getBytes_840e7_14 : decode cJ0_getBytes_840e7 14 = .ok (.iload_n 2, 1) := by decide +kernel
theorem dJ0_getBytes_840e7_15 : decode cJ0_getBytes_840e7 15 = .ok (.iload_n 3, 1) := by decide +kernel
theorem dJ0_getBytes_840e7_16 : decode cJ0_getBytes_840e7 16 = .ok (.ishl, 1) := by decide +kernel
theorem dJ0_getBytes_840e7_17 : decode cJ0_getBytes_840e7 17 = .ok (.aload_n 0, 1) := by decide +kernel
theorem dJ0_getBytes_840e7_18 : decode cJ0_getBytes_840e7 18 = .ok (.getfield 9, 3) := by decide +kernel
theorem dJ0_getBytes_840e7_21 : decode cJ0_getBytes_840e7 21 = .ok (.arraylength, 1) := by decide +kernel
theorem dJ0_getBytes_840e7_22 : decode cJ0_getBytes_840e7 22 = .ok (.invokestatic 212, 3) := by decide +kernel
theorem dJ0_getBytes_840e7_25 : decode cJ0_getBytes_840e7 25 = .ok (.goto 18, 3) := by decide +kernel
theorem dJ0_getBytes_840e7_28 : decode cJ0_getBytes_840e7 28 = .ok (.aload_n 0, 1) := by decide +kernel
theorem dJ0_getBytes_840e7_29 : decode cJ0_getBytes_840e7 29 = .ok (.getfield 9, 3) := by decide +kernel
theorem dJ0_getBytes_840e7_32 : decode cJ0_getBytes_840e7 32 = .ok (.iconst 0, 1) := by decide +kernel
theorem dJ0_getBytes_840e7_33 : decode cJ0_getBytes_840e7 33 = .ok (.aload_n 1, 1) := by decide +kernel
theorem dJ0_getBytes_840e7_34 : decode cJ0_getBytes_840e7 34 = .ok (.iload_n 2, 1) := by decide +kernel
theorem dJ0_getBytes_840e7_35 : decode cJ0_getBytes_840e7 35 = .ok (.aload_n 0, 1) := by decide +kernel
theorem dJ0_getBytes_840e7_36 : decode cJ0_getBytes_840e7 36 = .ok (.getfield 9, 3) := by decide +kernel
theorem dJ0_getBytes_840e7_39 : decode cJ0_getBytes_840e7 39 = .ok (.arraylength, 1) := by decide +kernel
theorem dJ0_getBytes_840e7_40 : decode cJ0_getBytes_840e7 40 = .ok (.invokestatic 106, 3) := by decide +kernel
theorem dJ0_getBytes_840e7_43 : decode cJ0_getBytes_840e7 43 = .ok (.return_, 1) := by decide +kernel
theorem dJ5_inflateIfNeededFor_a7421_0 : decode cJ5_inflateIfNeededFor_a7421 0 = .ok (.getstatic 18, 3) := by decide +kernel
theorem dJ5_inflateIfNeededFor_a7421_3 : decode cJ5_inflateIfNeededFor_a7421 3 = .ok (.ifCond .eq 18, 3) := by decide +kernel
theorem dJ5_inflateIfNeededFor_a7421_6 : decode cJ5_inflateIfNeededFor_a7421 6 = .ok (.aload_n 0, 1) := by decide +kernel
theorem dJ5_inflateIfNeededFor_a7421_7 : decode cJ5_inflateIfNeededFor_a7421 7 = .ok (.getfield 22, 3) := by decide +kernel
theorem dJ5_inflateIfNeededFor_a7421_10 : decode cJ5_inflateIfNeededFor_a7421 10 = .ok (.aload_n 1, 1) := by decide +kernel
theorem dJ5_inflateIfNeededFor_a7421_11 : decode cJ5_inflateIfNeededFor_a7421 11 = .ok (.invokevirtual 40, 3) := by decide +kernel
theorem dJ5_inflateIfNeededFor_a7421_14 : decode cJ5_inflateIfNeededFor_a7421 14 = .ok (.if_icmp .eq 7, 3) := by decide +kernel
theorem dJ5_inflateIfNeededFor_a7421_17 : decode cJ5_inflateIfNeededFor_a7421 17 = .ok (.aload_n 0, 1) := by decide +kernel
theorem dJ5_inflateIfNeededFor_a7421_18 : decode cJ5_inflateIfNeededFor_a7421 18 = .ok (.invokevirtual 195, 3) := by decide +kernel
theorem dJ5_inflateIfNeededFor_a7421_21 : decode cJ5_inflateIfNeededFor_a7421 21 = .ok (.return_, 1) := by decide +kernel
theorem dJ5_putStringAt_47b60_0 : decode cJ5_putStringAt_47b60 0 = .ok (.aload_n 0, 1) := by decide +kernel
theorem dJ5_putStringAt_47b60_1 : decode cJ5_putStringAt_47b60 1 = .ok (.aload_n 2, 1) := by decide +kernel
theorem dJ5_putStringAt_47b60_2 : decode cJ5_putStringAt_47b60 2 = .ok (.invokevirtual 397, 3) := by decide +kernel
theorem dJ5_putStringAt_47b60_5 : decode cJ5_putStringAt_47b60 5 = .ok (.aload_n 2, 1) := by decide +kernel
theorem dJ5_putStringAt_47b60_6 : decode cJ5_putStringAt_47b60 6 = .ok (.aload_n 0, 1) := by decide +kernel
theorem dJ5_putStringAt_47b60_7 : decode cJ5_putStringAt_47b60 7 = .ok (.getfield 15, 3) := by decide +kernel
theorem dJ5_putStringAt_47b60_10 : decode cJ5_putStringAt_47b60 10 = .ok (.iload_n 1, 1) := by decide +kernel
theorem dJ5_putStringAt_47b60_11 : decode cJ5_putStringAt_47b60 11 = .ok (.aload_n 0, 1) := by decide +kernel
theorem dJ5_putStringAt_47b60_12 : decode cJ5_putStringAt_47b60 12 = .ok (.getfield 22, 3) := by decide +kernel
theorem dJ5_putStringAt_47b60_15 : decode cJ5_putStringAt_47b60 15 = .ok (.invokevirtual 399, 3) := by decide +kernel
theorem dJ5_putStringAt_47b60_18 : decode cJ5_putStringAt_47b60 18 = .ok (.return_, 1) := by decide +kernel
theorem dJ5_append_cf1ce_0 : decode cJ5_append_cf1ce 0 = .ok (.aload_n 1, 1) := by decide +kernel
theorem dJ5_append_cf1ce_1 : decode cJ5_append_cf1ce 1 = .ok (.ifnonnull 8, 3) := by decide +kernel
theorem dJ5_append_cf1ce_4 : decode cJ5_append_cf1ce 4 = .ok (.aload_n 0, 1) := by decide +kernel
theorem dJ5_append_cf1ce_5 : decode cJ5_append_cf1ce 5 = .ok (.invokevirtual 204, 3) := by decide +kernel
theorem dJ5_append_cf1ce_8 : decode cJ5_append_cf1ce 8 = .ok (.areturn, 1) := by decide +kernel
theorem dJ5_append_cf1ce_9 : decode cJ5_append_cf1ce 9 = .ok (.aload_n 1, 1) := by decide +kernel
theorem dJ5_append_cf1ce_10 : decode cJ5_append_cf1ce 10 = .ok (.invokevirtual 32, 3) := by decide +kernel
theorem dJ5_append_cf1ce_13 : decode cJ5_append_cf1ce 13 = .ok (.istore_n 2, 1) := by decide +kernel
theorem dJ5_append_cf1ce_14 : decode cJ5_append_cf1ce 14 = .ok (.aload_n 0, 1) := by decide +kernel
theorem dJ5_append_cf1ce_15 : decode cJ5_append_cf1ce 15 = .ok (.aload_n 0, 1) := by decide +kernel
theorem dJ5_append_cf1ce_16 : decode cJ5_append_cf1ce 16 = .ok (.getfield 79, 3) := by decide +kernel
theorem dJ5_append_cf1ce_19 : decode cJ5_append_cf1ce 19 = .ok (.iload_n 2, 1) := by decide +kernel
theorem dJ5_append_cf1ce_20 : decode cJ5_append_cf1ce 20 = .ok (.iadd, 1) := by decide +kernel
theorem dJ5_append_cf1ce_21 : decode cJ5_append_cf1ce 21 = .ok (.invokevirtual 100, 3) := by decide +kernel
theorem dJ5_append_cf1ce_24 : decode cJ5_append_cf1ce 24 = .ok (.aload_n 0, 1) := by decide +kernel
theorem dJ5_append_cf1ce_25 : decode cJ5_append_cf1ce 25 = .ok (.aload_n 0, 1) := by decide +kernel
theorem dJ5_append_cf1ce_26 : decode cJ5_append_cf1ce 26 = .ok (.getfield 79, 3) := by decide +kernel
theorem dJ5_append_cf1ce_29 : decode cJ5_append_cf1ce 29 = .ok (.aload_n 1, 1) := by decide +kernel
theorem dJ5_append_cf1ce_30 : decode cJ5_append_cf1ce 30 = .ok (.invokevirtual 208, 3) := by decide +kernel
theorem dJ5_append_cf1ce_33 : decode cJ5_append_cf1ce 33 = .ok (.aload_n 0, 1) := by decide +kernel
theorem dJ5_append_cf1ce_34 : decode cJ5_append_cf1ce 34 = .ok (.dup, 1) := by decide +kernel
theorem dJ5_append_cf1ce_35 : decode cJ5_append_cf1ce 35 = .ok (.getfield 79, 3) := by decide +kernel
theorem dJ5_append_cf1ce_38 : decode cJ5_append_cf1ce 38 = .ok (.iload_n 2, 1) := by decide +kernel
theorem dJ5_append_cf1ce_39 : decode cJ5_append_cf1ce 39 = .ok (.iadd, 1) := by decide +kernel
theorem dJ5_append_cf1ce_40 : decode cJ5_append_cf1ce 40 = .ok (.putfield 79, 3) := by decide +kernel
theorem dJ5_append_cf1ce_43 : decode cJ5_append_cf1ce 43 = .ok (.aload_n 0, 1) := by decide +kernel
theorem dJ5_append_cf1ce_44 : decode cJ5_append_cf1ce 44 = .ok (.areturn, 1) := by decide +kernel
theorem dJ4_append_15ec4_0 : decode cJ4_append_15ec4 0 = .ok (.aload_n 0, 1) := by decide +kernel
theorem dJ4_append_15ec4_1 : decode cJ4_append_15ec4 1 = .ok (.aload_n 1, 1) := by decide +kernel
theorem dJ4_append_15ec4_2 : decode cJ4_append_15ec4 2 = .ok (.invokespecial 29, 3) := by decide +kernel
theorem dJ4_append_15ec4_5 : decode cJ4_append_15ec4 5 = .ok (.pop, 1) := by decide +kernel
theorem dJ4_append_15ec4_6 : decode cJ4_append_15ec4 6 = .ok (.aload_n 0, 1) := by decide +kernel
theorem dJ4_append_15ec4_7 : decode cJ4_append_15ec4 7 = .ok (.areturn, 1) := by decide +kernel
theorem dJ5_getValue_6d5f1_0 : decode cJ5_getValue_6d5f1 0 = .ok (.aload_n 0, 1) := by decide +kernel
theorem dJ5_getValue_6d5f1_1 : decode cJ5_getValue_6d5f1 1 = .ok (.getfield 15, 3) := by decide +kernel
theorem dJ5_getValue_6d5f1_4 : decode cJ5_getValue_6d5f1 4 = .ok (.areturn, 1) := by decide +kernel
theorem dJ7_copyOfRange_39247_0 : decode cJ7_copyOfRange_39247 0 = .ok (.iload_n 1, 1) := by decide +kernel
theorem dJ7_copyOfRange_39247_1 : decode cJ7_copyOfRange_39247 1 = .ok (.ifCond .ne 9, 3) := by decide +kernel
theorem dJ7_copyOfRange_39247_4 : decode cJ7_copyOfRange_39247 4 = .ok (.iload_n 2, 1) := by decide +kernel
theorem dJ7_copyOfRange_39247_5 : decode cJ7_copyOfRange_39247 5 = .ok (.aload_n 0, 1) := by decide +kernel
theorem dJ7_copyOfRange_39247_6 : decode cJ7_copyOfRange_39247 6 = .ok (.arraylength, 1) := by decide +kernel
theorem dJ7_copyOfRange_39247_7 : decode cJ7_copyOfRange_39247 7 = .ok (.if_icmp .eq 10, 3) := by decide +kernel
theorem dJ7_copyOfRange_39247_10 : decode cJ7_copyOfRange_39247 10 = .ok (.aload_n 0, 1) := by decide +kernel
theorem dJ7_copyOfRange_39247_11 : decode cJ7_copyOfRange_39247 11 = .ok (.iload_n 1, 1) := by decide +kernel
theorem dJ7_copyOfRange_39247_12 : decode cJ7_copyOfRange_39247 12 = .ok (.iload_n 2, 1) := by decide +kernel
theorem dJ7_copyOfRange_39247_13 : decode cJ7_copyOfRange_39247 13 = .ok (.invokestatic 339, 3) := by decide +kernel
theorem dJ7_copyOfRange_39247_16 : decode cJ7_copyOfRange_39247 16 = .ok (.areturn, 1) := by decide +kernel
theorem dJ7_copyOfRange_39247_17 : decode cJ7_copyOfRange_39247 17 = .ok (.aload_n 0, 1) := by decide +kernel
theorem dJ7_copyOfRange_39247_18 : decode cJ7_copyOfRange_39247 18 = .ok (.invokevirtual 310, 3) := by decide +kernel
theorem dJ7_copyOfRange_39247_21 : decode cJ7_copyOfRange_39247 21 = .ok (.checkcast 311, 3) := by decide +kernel
theorem dJ7_copyOfRange_39247_24 : decode cJ7_copyOfRange_39247 24 = .ok (.areturn, 1) := by decide +kernel
theorem dJ0_init_db425_0 : decode cJ0_init_db425 0 = .ok (.aload_n 0, 1) := by decide +kernel
theorem dJ0_init_db425_1 : decode cJ0_init_db425 1 = .ok (.invokespecial 1, 3) := by decide +kernel
theorem dJ0_init_db425_4 : decode cJ0_init_db425 4 = .ok (.aload_n 1, 1) := by decide +kernel
theorem dJ0_init_db425_5 : decode cJ0_init_db425 5 = .ok (.invokevirtual 552, 3) := by decide +kernel
theorem dJ0_init_db425_8 : decode cJ0_init_db425 8 = .ok (.astore_n 3, 1) := by decide +kernel
theorem dJ0_init_db425_9 : decode cJ0_init_db425 9 = .ok (.aload_n 1, 1) := by decide +kernel
theorem dJ0_init_db425_10 : decode cJ0_init_db425 10 = .ok (.invokevirtual 549, 3) := by decide +kernel
theorem dJ0_init_db425_13 : decode cJ0_init_db425 13 = .ok (.istore 4, 2) := by decide +kernel
theorem dJ0_init_db425_15 : decode cJ0_init_db425 15 = .ok (.aload_n 1, 1) := by decide +kernel
theorem dJ0_init_db425_16 : decode cJ0_init_db425 16 = .ok (.invokevirtual 1047, 3) := by decide +kernel
theorem dJ0_init_db425_19 : decode cJ0_init_db425 19 = .ok (.ifCond .eq 22, 3) := by decide +kernel
theorem dJ0_init_db425_22 : decode cJ0_init_db425 22 = .ok (.aload_n 0, 1) := by decide +kernel
theorem dJ0_init_db425_23 : decode cJ0_init_db425 23 = .ok (.iconst 0, 1) := by decide +kernel
theorem dJ0_init_db425_24 : decode cJ0_init_db425 24 = .ok (.putfield 15, 3) := by decide +kernel
theorem dJ0_init_db425_27 : decode cJ0_init_db425 27 = .ok (.aload_n 0, 1) := by decide +kernel
theorem dJ0_init_db425_28 : decode cJ0_init_db425 28 = .ok (.aload_n 3, 1) := by decide +kernel
theorem dJ0_init_db425_29 : decode cJ0_init_db425 29 = .ok (.iconst 0, 1) := by decide +kernel
theorem dJ0_init_db425_30 : decode cJ0_init_db425 30 = .ok (.iload 4, 2) := by decide +kernel
theorem dJ0_init_db425_32 : decode cJ0_init_db425 32 = .ok (.invokestatic 54, 3) := by decide +kernel
theorem dJ0_init_db425_35 : decode cJ0_init_db425 35 = .ok (.putfield 9, 3) := by decide +kernel
theorem dJ0_init_db425_38 : decode cJ0_init_db425 38 = .ok (.goto 59, 3) := by decide +kernel
theorem dJ0_init_db425_41 : decode cJ0_init_db425 41 = .ok (.getstatic 38, 3) := by decide +kernel
theorem dJ0_init_db425_44 : decode cJ0_init_db425 44 = .ok (.ifCond .eq 35, 3) := by decide +kernel
theorem dJ0_init_db425_47 : decode cJ0_init_db425 47 = .ok (.aload_n 1, 1) := by decide +kernel
theorem dJ0_init_db425_48 : decode cJ0_init_db425 48 = .ok (.getfield 1048, 3) := by decide +kernel
theorem dJ0_init_db425_51 : decode cJ0_init_db425 51 = .ok (.ifCond .eq 28, 3) := by decide +kernel
theorem dJ0_init_db425_54 : decode cJ0_init_db425 54 = .ok (.aload_n 0, 1) := by decide +kernel
theorem dJ0_init_db425_55 : decode cJ0_init_db425 55 = .ok (.aload_n 3, 1) := by decide +kernel
theorem dJ0_init_db425_56 : decode cJ0_init_db425 56 = .ok (.iconst 0, 1) := by decide +kernel
theorem dJ0_init_db425_57 : decode cJ0_init_db425 57 = .ok (.iload 4, 2) := by decide +kernel
theorem dJ0_init_db425_59 : decode cJ0_init_db425 59 = .ok (.invokestatic 1051, 3) := by decide +kernel
theorem dJ0_init_db425_62 : decode cJ0_init_db425 62 = .ok (.putfield 9, 3) := by decide +kernel
theorem dJ0_init_db425_65 : decode cJ0_init_db425 65 = .ok (.aload_n 0, 1) := by decide +kernel
theorem dJ0_init_db425_66 : decode cJ0_init_db425 66 = .ok (.aload_n 0, 1) := by decide +kernel
theorem dJ0_init_db425_67 : decode cJ0_init_db425 67 = .ok (.getfield 9, 3) := by decide +kernel
theorem dJ0_init_db425_70 : decode cJ0_init_db425 70 = .ok (.iload 4, 2) := by decide +kernel
theorem dJ0_init_db425_72 : decode cJ0_init_db425 72 = .ok (.invokestatic 47, 3) := by decide +kernel
theorem dJ0_init_db425_75 : decode cJ0_init_db425 75 = .ok (.putfield 15, 3) := by decide +kernel
theorem dJ0_init_db425_78 : decode cJ0_init_db425 78 = .ok (.return_, 1) := by decide +kernel
theorem dJ0_init_db425_79 : decode cJ0_init_db425 79 = .ok (.aload_n 0, 1) := by decide +kernel
theorem dJ0_init_db425_80 : decode cJ0_init_db425 80 = .ok (.iconst 1, 1) := by decide +kernel
theorem dJ0_init_db425_81 : decode cJ0_init_db425 81 = .ok (.putfield 15, 3) := by decide +kernel
theorem dJ0_init_db425_84 : decode cJ0_init_db425 84 = .ok (.aload_n 0, 1) := by decide +kernel
theorem dJ0_init_db425_85 : decode cJ0_init_db425 85 = .ok (.aload_n 3, 1) := by decide +kernel
theorem dJ0_init_db425_86 : decode cJ0_init_db425 86 = .ok (.iconst 0, 1) := by decide +kernel
theorem dJ0_init_db425_87 : decode cJ0_init_db425 87 = .ok (.iload 4, 2) := by decide +kernel
theorem dJ0_init_db425_89 : decode cJ0_init_db425 89 = .ok (.iconst 1, 1) := by decide +kernel
theorem dJ0_init_db425_90 : decode cJ0_init_db425 90 = .ok (.ishl, 1) := by decide +kernel
theorem dJ0_init_db425_91 : decode cJ0_init_db425 91 = .ok (.invokestatic 54, 3) := by decide +kernel
theorem dJ0_init_db425_94 : decode cJ0_init_db425 94 = .ok (.putfield 9, 3) := by decide +kernel
theorem dJ0_init_db425_97 : decode cJ0_init_db425 97 = .ok (.return_, 1) := by decide +kernel
theorem dJ0_init_81219_0 : decode cJ0_init_81219 0 = .ok (.aload_n 0, 1) := by decide +kernel
theorem dJ0_init_81219_1 : decode cJ0_init_81219 1 = .ok (.aload_n 1, 1) := by decide +kernel
theorem dJ0_init_81219_2 : decode cJ0_init_81219 2 = .ok (.aconst_null, 1) := by decide +kernel
theorem dJ0_init_81219_3 : decode cJ0_init_81219 3 = .ok (.invokespecial 489, 3) := by decide +kernel
theorem dJ0_init_81219_6 : decode cJ0_init_81219 6 = .ok (.return_, 1) := by decide +kernel
theorem dJ4_toString_0e30d_0 : decode cJ4_toString_0e30d 0 = .ok (.new 18, 3) := by decide +kernel
theorem dJ4_toString_0e30d_3 : decode cJ4_toString_0e30d 3 = .ok (.dup, 1) := by decide +kernel
theorem dJ4_toString_0e30d_4 : decode cJ4_toString_0e30d 4 = .ok (.aload_n 0, 1) := by decide +kernel
theorem dJ4_toString_0e30d_5 : decode cJ4_toString_0e30d 5 = .ok (.invokespecial 137, 3) := by decide +kernel
theorem dJ4_toString_0e30d_8 : decode cJ4_toString_0e30d 8 = .ok (.areturn, 1) := by decide +kernel
theorem dJ5_init_d00df_0 : decode cJ5_init_d00df 0 = .ok (.aload_n 0, 1) := by decide +kernel
theorem dJ5_init_d00df_1 : decode cJ5_init_d00df 1 = .ok (.invokespecial 3, 3) := by decide +kernel
theorem dJ5_init_d00df_4 : decode cJ5_init_d00df 4 = .ok (.getstatic 18, 3) := by decide +kernel
theorem dJ5_init_d00df_7 : decode cJ5_init_d00df 7 = .ok (.ifCond .eq 18, 3) := by decide +kernel
theorem dJ5_init_d00df_10 : decode cJ5_init_d00df 10 = .ok (.aload_n 0, 1) := by decide +kernel
theorem dJ5_init_d00df_11 : decode cJ5_init_d00df 11 = .ok (.iload_n 1, 1) := by decide +kernel
theorem dJ5_init_d00df_12 : decode cJ5_init_d00df 12 = .ok (.newarray .byte, 2) := by decide +kernel
theorem dJ5_init_d00df_14 : decode cJ5_init_d00df 14 = .ok (.putfield 15, 3) := by decide +kernel
theorem dJ5_init_d00df_17 : decode cJ5_init_d00df 17 = .ok (.aload_n 0, 1) := by decide +kernel
theorem dJ5_init_d00df_18 : decode cJ5_init_d00df 18 = .ok (.iconst 0, 1) := by decide +kernel
theorem dJ5_init_d00df_19 : decode cJ5_init_d00df 19 = .ok (.putfield 22, 3) := by decide +kernel
theorem dJ5_init_d00df_22 : decode cJ5_init_d00df 22 = .ok (.goto 16, 3) := by decide +kernel
theorem dJ5_init_d00df_25 : decode cJ5_init_d00df 25 = .ok (.aload_n 0, 1) := by decide +kernel
theorem dJ5_init_d00df_26 : decode cJ5_init_d00df 26 = .ok (.iload_n 1, 1) := by decide +kernel
theorem dJ5_init_d00df_27 : decode cJ5_init_d00df 27 = .ok (.invokestatic 26, 3) := by decide +kernel
theorem dJ5_init_d00df_30 : decode cJ5_init_d00df 30 = .ok (.putfield 15, 3) := by decide +kernel
theorem dJ5_init_d00df_33 : decode cJ5_init_d00df 33 = .ok (.aload_n 0, 1) := by decide +kernel
theorem dJ5_init_d00df_34 : decode cJ5_init_d00df 34 = .ok (.iconst 1, 1) := by decide +kernel
theorem dJ5_init_d00df_35 : decode cJ5_init_d00df 35 = .ok (.putfield 22, 3) := by decide +kernel
theorem dJ5_init_d00df_38 : decode cJ5_init_d00df 38 = .ok (.return_, 1) := by decide +kernel
theorem dJ4_init_da8c8_0 : decode cJ4_init_da8c8 0 = .ok (.aload_n 0, 1) := by decide +kernel
theorem dJ4_init_da8c8_1 : decode cJ4_init_da8c8 1 = .ok (.bipush 16, 2) := by decide +kernel
theorem dJ4_init_da8c8_3 : decode cJ4_init_da8c8 3 = .ok (.invokespecial 1, 3) := by decide +kernel
theorem dJ4_init_da8c8_6 : decode cJ4_init_da8c8 6 = .ok (.return_, 1) := by decide +kernel
/-- the builder's four private methods -/
def STQ (ST : gST) : Prop := ∀ (A : Nat → Prop) (U : State), ST A U → ∀ args : Array Value, ∀ y ∈ [yJ5_newCapacity_0f7a4, yJ5_ensureCapacityInternal_d00df, yJ5_putStringAt_47b60, yJ5_inflateIfNeededFor_a7421], (Cond.selects RJ4 y y).before args U = true
/-- bytes are arrays that can be cloned -/
def STB2 (cA : Nat → ClassId) (ST : gST) : Prop := ∀ (A : Nat → Prop) (U : State), ST A U → va_Nw (.castable "[B" "java/lang/Cloneable") U
section S64
variable {p : Program} {l : Launch} {e : Env} {R : Room} {s : State} {m : MethodId} {args : Array Value} {below : List Frame} {meth : Method} {c : Code} {H : Heap} {locs : List Loc} {cells slots : Nat} {Q : State → Prop}
variable {cc : ByteArray} {maxL : Nat} {ret : Option FieldType} {pc : Nat} {ls : Array Slot} {rest : List Value} {D : va_G} {A : Nat → Prop} {cA : Nat → ClassId} {F B : va_W} {ST : gST} {own : String}
theorem c_callKi {β : Type} {ok : Int32 → β → Prop} {Wb : β → va_W} {y : MethodName} {bytes : ByteArray} {n nA d1 mc ms index : Nat} {ret' : Option FieldType} {As st0 : List Value} (W0 wc : va_W) {w : va_W} {C : String} {q : Nat} (hM : gMetG l y bytes n ret' d1 mc ms D (TYS cA) ST wc (.ref q :: As) (gGi D (TYS cA) ok Wb)) (G : GC p s m args meth c cc maxL own ret A D (TYS cA) ST) (hP : va_P D vwCl w H) (hD : va_D A w) (hS : va_S A s.heap H locs) (hW : w.Perm (W0 ++ wc))
    (hrecv : ∃ cell : Cell, H[q]? = some cell ∧ cell.vm.isStatics = false ∧ s.vm.findClass C = some cell.cls) (hg : GoodIn BIG (wsV own index C y (.code y bytes n ret' :: BIG))) (hd : y.cls = C ∧ y.cls ≠ "java/lang/invoke/MethodHandle" ∧ y.cls ≠ "java/lang/invoke/VarHandle" ∧ (parseMethodDescriptor y.desc).map (fun d => d.parameters.length) = some nA) (hR : d1 + 1 ≤ R.frames ∧ 19 + n + 40 * d1 ≤ R.locals ∧ cells + mc ≤ R.cells ∧ slots + ms ≤ R.slots) (hn : As.length = nA) (hls : ls.size = maxL) (rest : List Value) (hst : st0 = As.reverse ++ .ref q :: rest) (hcat : (rest.map fun v => v.category).sum ≤ 8) (hdg : decode cc pc = .ok (.invokevirtual index, 3))
    (kk : ∀ (r : Int32) (b : β) (H1 : Heap) (locs1 : List Loc), ok r b → va_P D vwCl (W0 ++ Wb b) H1 → va_D A (W0 ++ Wb b) → va_S A s.heap H1 locs1 → W p l e R s m args below meth c H1 locs1 (cells + mc) (slots + ms) Q (F0 m (pc + 3) ls (.int r :: rest))) : W p l e R s m args below meth c H locs cells slots Q (F0 m pc ls st0) := by
  obtain ⟨hx, hb, hml, hown, hts, -, hlocks, hA, hK, hN, hX, hT⟩ := G
  have hP := hP.perm hW
  have hD := hD.perm hW
  have hF := fb_free hD hS hA
  have hPc : va_P D vwCl wc H := va_P_mem.mpr fun z hz => va_P_mem.mp hP z (List.mem_append_right _ hz)
  have hDc : va_D (fun _ => True) wc := va_D_nd.mpr ⟨by have h9 := (va_D_nd.mp hD).1; rw [List.map_append, List.nodup_append] at h9; exact h9.2.1, fun _ _ => trivial⟩
  refine va_calli (va_runV (As := As) (rest := rest) ⟨hx, hb, hml, hown, hts⟩ (hM H.size) (cwV nA hts hg rfl rfl rfl hd ⟨by show d1 + 1 ≤ R.frames; exact hR.1, by show 8 + (n + 11) + 40 * d1 ≤ R.locals; omega⟩) ⟨gPre_blind hT, hrecv, fun U hU hW => ⟨rfl, by rw [hU], by rw [hU]; exact hPc, va_K.moved hW.alike hK, hDc, hN.warm hW, hT.2 _ _ _ _ _ _ hX hS hU hW hF⟩⟩ rfl hn hls hst (lv_room hcat) hdg ⟨hR.2.2.1, hR.2.2.2⟩) hS (fun q _ h => hF q h) hF (fun r b t H1 locs1 ht hvm hw hB hz1 hk1 hS1 => ?_)
  obtain ⟨hP1, hK1, hD1⟩ := hB
  rw [ht] at hP1
  obtain ⟨hP2, hD2⟩ := fb_join hP hD hk1 hF hP1 hD1
  exact kk r b H1 locs1 hw hP2 hD2 hS1
theorem c_callKv {β : Type} {ok : β → Prop} {Wb : β → va_W} {y : MethodName} {bytes : ByteArray} {n nA d1 mc ms index : Nat} {ret' : Option FieldType} {As st0 : List Value} (W0 wc : va_W) {w : va_W} {C : String} {q : Nat} (hM : gMetG l y bytes n ret' d1 mc ms D (TYS cA) ST wc (.ref q :: As) (gGv D (TYS cA) ok Wb)) (G : GC p s m args meth c cc maxL own ret A D (TYS cA) ST) (hP : va_P D vwCl w H) (hD : va_D A w) (hS : va_S A s.heap H locs) (hW : w.Perm (W0 ++ wc))
    (hrecv : ∃ cell : Cell, H[q]? = some cell ∧ cell.vm.isStatics = false ∧ s.vm.findClass C = some cell.cls) (hg : GoodIn BIG (wsV own index C y (.code y bytes n ret' :: BIG))) (hd : y.cls = C ∧ y.cls ≠ "java/lang/invoke/MethodHandle" ∧ y.cls ≠ "java/lang/invoke/VarHandle" ∧ (parseMethodDescriptor y.desc).map (fun d => d.parameters.length) = some nA) (hR : d1 + 1 ≤ R.frames ∧ 19 + n + 40 * d1 ≤ R.locals ∧ cells + mc ≤ R.cells ∧ slots + ms ≤ R.slots) (hn : As.length = nA) (hls : ls.size = maxL) (rest : List Value) (hst : st0 = As.reverse ++ .ref q :: rest) (hcat : (rest.map fun v => v.category).sum ≤ 8) (hdg : decode cc pc = .ok (.invokevirtual index, 3))
    (kk : ∀ (b : β) (H1 : Heap) (locs1 : List Loc), ok b → va_P D vwCl (W0 ++ Wb b) H1 → va_D A (W0 ++ Wb b) → va_S A s.heap H1 locs1 → W p l e R s m args below meth c H1 locs1 (cells + mc) (slots + ms) Q (F0 m (pc + 3) ls rest)) : W p l e R s m args below meth c H locs cells slots Q (F0 m pc ls st0) := by
  obtain ⟨hx, hb, hml, hown, hts, -, hlocks, hA, hK, hN, hX, hT⟩ := G
  have hP := hP.perm hW
  have hD := hD.perm hW
  have hF := fb_free hD hS hA
  have hPc : va_P D vwCl wc H := va_P_mem.mpr fun z hz => va_P_mem.mp hP z (List.mem_append_right _ hz)
  have hDc : va_D (fun _ => True) wc := va_D_nd.mpr ⟨by have h9 := (va_D_nd.mp hD).1; rw [List.map_append, List.nodup_append] at h9; exact h9.2.1, fun _ _ => trivial⟩
  refine va_callv (va_runV (As := As) (rest := rest) ⟨hx, hb, hml, hown, hts⟩ (hM H.size) (cwV nA hts hg rfl rfl rfl hd ⟨by show d1 + 1 ≤ R.frames; exact hR.1, by show 8 + (n + 11) + 40 * d1 ≤ R.locals; omega⟩) ⟨gPre_blind hT, hrecv, fun U hU hW => ⟨rfl, by rw [hU], by rw [hU]; exact hPc, va_K.moved hW.alike hK, hDc, hN.warm hW, hT.2 _ _ _ _ _ _ hX hS hU hW hF⟩⟩ rfl hn hls hst (lv_room hcat) hdg ⟨hR.2.2.1, hR.2.2.2⟩) hS (fun q _ h => hF q h) hF (fun b t H1 locs1 ht hvm hw hB hz1 hk1 hS1 => ?_)
  obtain ⟨hP1, hK1, hD1⟩ := hB
  rw [ht] at hP1
  obtain ⟨hP2, hD2⟩ := fb_join hP hD hk1 hF hP1 hD1
  exact kk b H1 locs1 hw hP2 hD2 hS1
end S64
set_option maxHeartbeats 4000000 in
set_option maxRecDepth 100000 in
theorem mJ6_stringSize_0f7a4 (l : Launch) (D : va_G) (cA : Nat → ClassId) (ad adF adW tt : Nat → Nat) (ST : gST) (hT : STE ad adF adW tt ST) (hW : STW adW tt ST) (hSQ : STQ ST) (v : Nat) (hv : v < 2 ^ 31) : gMetG l yJ6_stringSize_0f7a4 cJ6_stringSize_0f7a4 4 (some .int) 0 0 0 D (TYS cA) ST ([]) [.int (nI v)] (gGi D (TYS cA) (fun r (_ : Unit) => r = nI (sb_dg v)) (fun _ => [])) := by
  refine g_ofWG hT.1 (by decide +kernel) (Nat.le_of_ble_eq_true rfl) ?_
  intro p e s m args below meth c ls A G hP hD hl
  have G : GC p s m args meth c cJ6_stringSize_0f7a4 4 RJ6 (some .int) A D (TYS cA) ST := G
  have hx := G.1
  have hb := G.2.1
  have hS : va_S A s.heap s.heap [] := va_S.rf
  have hP : va_P D vwCl ([]) s.heap := hP
  have hD : va_D A ([]) := hD
  have hl : lv_has ls 4 [(0, .int (nI v))] := hl
  refine lv_iconst (v := 1) hx hb dJ6_stringSize_0f7a4_0 (by decide) ?_
  refine lv_istore_n (lv' := [(1, .int 1), (0, .int (nI v))]) hx hb dJ6_stringSize_0f7a4_1 rfl hl (by decide) rfl (fun ls hl => ?_)
  refine lv_iload_n hx hb dJ6_stringSize_0f7a4_2 rfl (lv_at hl 1 rfl) ?_
  refine lv_if_lt (tgt := 11) hx hb dJ6_stringSize_0f7a4_3 (by decide) (fun c9 => absurd c9 (nI_pos hv)) (fun c9 => ?_)
  refine lv_iconst (v := 0) hx hb dJ6_stringSize_0f7a4_6 (by decide) ?_
  refine lv_istore_n (lv' := [(1, .int 0), (0, .int (nI v))]) hx hb dJ6_stringSize_0f7a4_7 rfl hl (by decide) rfl (fun ls hl => ?_)
  refine lv_iload_n hx hb dJ6_stringSize_0f7a4_8 rfl (lv_at hl 1 rfl) ?_
  refine lv_ineg hx hb dJ6_stringSize_0f7a4_9 ?_
  rw [show -(nI v) = (-nI v) from rfl]
  refine lv_istore_n (lv' := [(0, .int (-nI v)), (1, .int 0)]) hx hb dJ6_stringSize_0f7a4_10 rfl hl (by decide) rfl (fun ls hl => ?_)
  refine lv_bipush (v := (-10)) hx hb dJ6_stringSize_0f7a4_11 (by decide) ?_
  refine lv_istore_n (lv' := [(2, .int (-10)), (0, .int (-nI v)), (1, .int 0)]) hx hb dJ6_stringSize_0f7a4_13 rfl hl (by decide) rfl (fun ls hl => ?_)
  refine lv_iconst (v := 1) hx hb dJ6_stringSize_0f7a4_14 (by decide) ?_
  refine lv_istore_n (lv' := [(3, .int 1), (2, .int (-10)), (0, .int (-nI v)), (1, .int 0)]) hx hb dJ6_stringSize_0f7a4_15 rfl hl (by decide) rfl (fun ls hl => ?_)
  refine lv_iload_n hx hb dJ6_stringSize_0f7a4_16 rfl (lv_at hl 0 rfl) ?_
  refine lv_bipush (v := 10) hx hb dJ6_stringSize_0f7a4_17 (by decide) ?_
  refine lv_icmp_ge (tgt := 42) hx hb dJ6_stringSize_0f7a4_19 (by decide) (fun c9 => absurd c9 (by decide)) (fun c9 => ?_)
  refine lv_iload_n hx hb dJ6_stringSize_0f7a4_22 rfl (lv_at hl 2 rfl) ?_
  refine lv_iload_n hx hb dJ6_stringSize_0f7a4_23 rfl (lv_at hl 1 rfl) ?_
  by_cases h1 : v < 10
  · skip
    refine lv_icmp_le (tgt := 31) hx hb dJ6_stringSize_0f7a4_24 (by decide) (fun c9 => absurd c9 (fun z => by have := (sb_nle hv (by decide)).mp (show -nI v ≤ -nI 10 from z); omega)) (fun c9 => ?_)
    refine lv_iload_n hx hb dJ6_stringSize_0f7a4_27 rfl (lv_at hl 0 rfl) ?_
    refine lv_iload_n hx hb dJ6_stringSize_0f7a4_28 rfl (lv_at hl 3 rfl) ?_
    refine lv_iadd hx hb dJ6_stringSize_0f7a4_29 ?_
    rw [show (1 : Int32) + 0 = (nI 1) from by decide]
    exact c_reti (()) (congrArg nI (show 1 = sb_dg v by unfold sb_dg; (repeat' split) <;> omega)) (rfl) G hP hD hS (by decide) dJ6_stringSize_0f7a4_30
  refine lv_icmp_le (tgt := 31) hx hb dJ6_stringSize_0f7a4_24 (by decide) (fun c9 => ?_) (fun c9 => absurd (show -nI v ≤ -nI 10 from (sb_nle hv (by decide)).mpr (by omega)) c9)
  refine lv_bipush (v := 10) hx hb dJ6_stringSize_0f7a4_31 (by decide) ?_
  refine lv_iload_n hx hb dJ6_stringSize_0f7a4_33 rfl (lv_at hl 1 rfl) ?_
  refine lv_imul hx hb dJ6_stringSize_0f7a4_34 ?_
  rw [show (10 : Int32) * (-10) = (-100) from by decide]
  refine lv_istore_n (lv' := [(2, .int (-100)), (3, .int 1), (0, .int (-nI v)), (1, .int 0)]) hx hb dJ6_stringSize_0f7a4_35 rfl hl (by decide) rfl (fun ls hl => ?_)
  refine lv_iinc (v := 2) (lv' := [(3, .int 2), (2, .int (-100)), (0, .int (-nI v)), (1, .int 0)]) hx hb dJ6_stringSize_0f7a4_36 hl (k := 1) rfl (by decide) (by decide) rfl (fun ls hl => ?_)
  refine lv_goto (tgt := 16) hx hb dJ6_stringSize_0f7a4_39 (by decide) ?_
  refine lv_iload_n hx hb dJ6_stringSize_0f7a4_16 rfl (lv_at hl 0 rfl) ?_
  refine lv_bipush (v := 10) hx hb dJ6_stringSize_0f7a4_17 (by decide) ?_
  refine lv_icmp_ge (tgt := 42) hx hb dJ6_stringSize_0f7a4_19 (by decide) (fun c9 => absurd c9 (by decide)) (fun c9 => ?_)
  refine lv_iload_n hx hb dJ6_stringSize_0f7a4_22 rfl (lv_at hl 2 rfl) ?_
  refine lv_iload_n hx hb dJ6_stringSize_0f7a4_23 rfl (lv_at hl 1 rfl) ?_
  by_cases h2 : v < 100
  · skip
    refine lv_icmp_le (tgt := 31) hx hb dJ6_stringSize_0f7a4_24 (by decide) (fun c9 => absurd c9 (fun z => by have := (sb_nle hv (by decide)).mp (show -nI v ≤ -nI 100 from z); omega)) (fun c9 => ?_)
    refine lv_iload_n hx hb dJ6_stringSize_0f7a4_27 rfl (lv_at hl 0 rfl) ?_
    refine lv_iload_n hx hb dJ6_stringSize_0f7a4_28 rfl (lv_at hl 3 rfl) ?_
    refine lv_iadd hx hb dJ6_stringSize_0f7a4_29 ?_
    rw [show (2 : Int32) + 0 = (nI 2) from by decide]
    exact c_reti (()) (congrArg nI (show 2 = sb_dg v by unfold sb_dg; (repeat' split) <;> omega)) (rfl) G hP hD hS (by decide) dJ6_stringSize_0f7a4_30
  refine lv_icmp_le (tgt := 31) hx hb dJ6_stringSize_0f7a4_24 (by decide) (fun c9 => ?_) (fun c9 => absurd (show -nI v ≤ -nI 100 from (sb_nle hv (by decide)).mpr (by omega)) c9)
  refine lv_bipush (v := 10) hx hb dJ6_stringSize_0f7a4_31 (by decide) ?_
  refine lv_iload_n hx hb dJ6_stringSize_0f7a4_33 rfl (lv_at hl 1 rfl) ?_
  refine lv_imul hx hb dJ6_stringSize_0f7a4_34 ?_
  rw [show (10 : Int32) * (-100) = (-1000) from by decide]
  refine lv_istore_n (lv' := [(2, .int (-1000)), (3, .int 2), (0, .int (-nI v)), (1, .int 0)]) hx hb dJ6_stringSize_0f7a4_35 rfl hl (by decide) rfl (fun ls hl => ?_)
  refine lv_iinc (v := 3) (lv' := [(3, .int 3), (2, .int (-1000)), (0, .int (-nI v)), (1, .int 0)]) hx hb dJ6_stringSize_0f7a4_36 hl (k := 1) rfl (by decide) (by decide) rfl (fun ls hl => ?_)
  refine lv_goto (tgt := 16) hx hb dJ6_stringSize_0f7a4_39 (by decide) ?_
  refine lv_iload_n hx hb dJ6_stringSize_0f7a4_16 rfl (lv_at hl 0 rfl) ?_
  refine lv_bipush (v := 10) hx hb dJ6_stringSize_0f7a4_17 (by decide) ?_
  refine lv_icmp_ge (tgt := 42) hx hb dJ6_stringSize_0f7a4_19 (by decide) (fun c9 => absurd c9 (by decide)) (fun c9 => ?_)
  refine lv_iload_n hx hb dJ6_stringSize_0f7a4_22 rfl (lv_at hl 2 rfl) ?_
  refine lv_iload_n hx hb dJ6_stringSize_0f7a4_23 rfl (lv_at hl 1 rfl) ?_
  by_cases h3 : v < 1000
  · skip
    refine lv_icmp_le (tgt := 31) hx hb dJ6_stringSize_0f7a4_24 (by decide) (fun c9 => absurd c9 (fun z => by have := (sb_nle hv (by decide)).mp (show -nI v ≤ -nI 1000 from z); omega)) (fun c9 => ?_)
    refine lv_iload_n hx hb dJ6_stringSize_0f7a4_27 rfl (lv_at hl 0 rfl) ?_
    refine lv_iload_n hx hb dJ6_stringSize_0f7a4_28 rfl (lv_at hl 3 rfl) ?_
    refine lv_iadd hx hb dJ6_stringSize_0f7a4_29 ?_
    rw [show (3 : Int32) + 0 = (nI 3) from by decide]
    exact c_reti (()) (congrArg nI (show 3 = sb_dg v by unfold sb_dg; (repeat' split) <;> omega)) (rfl) G hP hD hS (by decide) dJ6_stringSize_0f7a4_30
  refine lv_icmp_le (tgt := 31) hx hb dJ6_stringSize_0f7a4_24 (by decide) (fun c9 => ?_) (fun c9 => absurd (show -nI v ≤ -nI 1000 from (sb_nle hv (by decide)).mpr (by omega)) c9)
  refine lv_bipush (v := 10) hx hb dJ6_stringSize_0f7a4_31 (by decide) ?_
  refine lv_iload_n hx hb dJ6_stringSize_0f7a4_33 rfl (lv_at hl 1 rfl) ?_
  refine lv_imul hx hb dJ6_stringSize_0f7a4_34 ?_
  rw [show (10 : Int32) * (-1000) = (-10000) from by decide]
  refine lv_istore_n (lv' := [(2, .int (-10000)), (3, .int 3), (0, .int (-nI v)), (1, .int 0)]) hx hb dJ6_stringSize_0f7a4_35 rfl hl (by decide) rfl (fun ls hl => ?_)
  refine lv_iinc (v := 4) (lv' := [(3, .int 4), (2, .int (-10000)), (0, .int (-nI v)), (1, .int 0)]) hx hb dJ6_stringSize_0f7a4_36 hl (k := 1) rfl (by decide) (by decide) rfl (fun ls hl => ?_)
  refine lv_goto (tgt := 16) hx hb dJ6_stringSize_0f7a4_39 (by decide) ?_
  refine lv_iload_n hx hb dJ6_stringSize_0f7a4_16 rfl (lv_at hl 0 rfl) ?_
  refine lv_bipush (v := 10) hx hb dJ6_stringSize_0f7a4_17 (by decide) ?_
  refine lv_icmp_ge (tgt := 42) hx hb dJ6_stringSize_0f7a4_19 (by decide) (fun c9 => absurd c9 (by decide)) (fun c9 => ?_)
  refine lv_iload_n hx hb dJ6_stringSize_0f7a4_22 rfl (lv_at hl 2 rfl) ?_
  refine lv_iload_n hx hb dJ6_stringSize_0f7a4_23 rfl (lv_at hl 1 rfl) ?_
  by_cases h4 : v < 10000
  · skip
    refine lv_icmp_le (tgt := 31) hx hb dJ6_stringSize_0f7a4_24 (by decide) (fun c9 => absurd c9 (fun z => by have := (sb_nle hv (by decide)).mp (show -nI v ≤ -nI 10000 from z); omega)) (fun c9 => ?_)
    refine lv_iload_n hx hb dJ6_stringSize_0f7a4_27 rfl (lv_at hl 0 rfl) ?_
    refine lv_iload_n hx hb dJ6_stringSize_0f7a4_28 rfl (lv_at hl 3 rfl) ?_
    refine lv_iadd hx hb dJ6_stringSize_0f7a4_29 ?_
    rw [show (4 : Int32) + 0 = (nI 4) from by decide]
    exact c_reti (()) (congrArg nI (show 4 = sb_dg v by unfold sb_dg; (repeat' split) <;> omega)) (rfl) G hP hD hS (by decide) dJ6_stringSize_0f7a4_30
  refine lv_icmp_le (tgt := 31) hx hb dJ6_stringSize_0f7a4_24 (by decide) (fun c9 => ?_) (fun c9 => absurd (show -nI v ≤ -nI 10000 from (sb_nle hv (by decide)).mpr (by omega)) c9)
  refine lv_bipush (v := 10) hx hb dJ6_stringSize_0f7a4_31 (by decide) ?_
  refine lv_iload_n hx hb dJ6_stringSize_0f7a4_33 rfl (lv_at hl 1 rfl) ?_
  refine lv_imul hx hb dJ6_stringSize_0f7a4_34 ?_
  rw [show (10 : Int32) * (-10000) = (-100000) from by decide]
  refine lv_istore_n (lv' := [(2, .int (-100000)), (3, .int 4), (0, .int (-nI v)), (1, .int 0)]) hx hb dJ6_stringSize_0f7a4_35 rfl hl (by decide) rfl (fun ls hl => ?_)
  refine lv_iinc (v := 5) (lv' := [(3, .int 5), (2, .int (-100000)), (0, .int (-nI v)), (1, .int 0)]) hx hb dJ6_stringSize_0f7a4_36 hl (k := 1) rfl (by decide) (by decide) rfl (fun ls hl => ?_)
  refine lv_goto (tgt := 16) hx hb dJ6_stringSize_0f7a4_39 (by decide) ?_
  refine lv_iload_n hx hb dJ6_stringSize_0f7a4_16 rfl (lv_at hl 0 rfl) ?_
  refine lv_bipush (v := 10) hx hb dJ6_stringSize_0f7a4_17 (by decide) ?_
  refine lv_icmp_ge (tgt := 42) hx hb dJ6_stringSize_0f7a4_19 (by decide) (fun c9 => absurd c9 (by decide)) (fun c9 => ?_)
  refine lv_iload_n hx hb dJ6_stringSize_0f7a4_22 rfl (lv_at hl 2 rfl) ?_
  refine lv_iload_n hx hb dJ6_stringSize_0f7a4_23 rfl (lv_at hl 1 rfl) ?_
  by_cases h5 : v < 100000
  · skip
    refine lv_icmp_le (tgt := 31) hx hb dJ6_stringSize_0f7a4_24 (by decide) (fun c9 => absurd c9 (fun z => by have := (sb_nle hv (by decide)).mp (show -nI v ≤ -nI 100000 from z); omega)) (fun c9 => ?_)
    refine lv_iload_n hx hb dJ6_stringSize_0f7a4_27 rfl (lv_at hl 0 rfl) ?_
    refine lv_iload_n hx hb dJ6_stringSize_0f7a4_28 rfl (lv_at hl 3 rfl) ?_
    refine lv_iadd hx hb dJ6_stringSize_0f7a4_29 ?_
    rw [show (5 : Int32) + 0 = (nI 5) from by decide]
    exact c_reti (()) (congrArg nI (show 5 = sb_dg v by unfold sb_dg; (repeat' split) <;> omega)) (rfl) G hP hD hS (by decide) dJ6_stringSize_0f7a4_30
  refine lv_icmp_le (tgt := 31) hx hb dJ6_stringSize_0f7a4_24 (by decide) (fun c9 => ?_) (fun c9 => absurd (show -nI v ≤ -nI 100000 from (sb_nle hv (by decide)).mpr (by omega)) c9)
  refine lv_bipush (v := 10) hx hb dJ6_stringSize_0f7a4_31 (by decide) ?_
  refine lv_iload_n hx hb dJ6_stringSize_0f7a4_33 rfl (lv_at hl 1 rfl) ?_
  refine lv_imul hx hb dJ6_stringSize_0f7a4_34 ?_
  rw [show (10 : Int32) * (-100000) = (-1000000) from by decide]
  refine lv_istore_n (lv' := [(2, .int (-1000000)), (3, .int 5), (0, .int (-nI v)), (1, .int 0)]) hx hb dJ6_stringSize_0f7a4_35 rfl hl (by decide) rfl (fun ls hl => ?_)
  refine lv_iinc (v := 6) (lv' := [(3, .int 6), (2, .int (-1000000)), (0, .int (-nI v)), (1, .int 0)]) hx hb dJ6_stringSize_0f7a4_36 hl (k := 1) rfl (by decide) (by decide) rfl (fun ls hl => ?_)
  refine lv_goto (tgt := 16) hx hb dJ6_stringSize_0f7a4_39 (by decide) ?_
  refine lv_iload_n hx hb dJ6_stringSize_0f7a4_16 rfl (lv_at hl 0 rfl) ?_
  refine lv_bipush (v := 10) hx hb dJ6_stringSize_0f7a4_17 (by decide) ?_
  refine lv_icmp_ge (tgt := 42) hx hb dJ6_stringSize_0f7a4_19 (by decide) (fun c9 => absurd c9 (by decide)) (fun c9 => ?_)
  refine lv_iload_n hx hb dJ6_stringSize_0f7a4_22 rfl (lv_at hl 2 rfl) ?_
  refine lv_iload_n hx hb dJ6_stringSize_0f7a4_23 rfl (lv_at hl 1 rfl) ?_
  by_cases h6 : v < 1000000
  · skip
    refine lv_icmp_le (tgt := 31) hx hb dJ6_stringSize_0f7a4_24 (by decide) (fun c9 => absurd c9 (fun z => by have := (sb_nle hv (by decide)).mp (show -nI v ≤ -nI 1000000 from z); omega)) (fun c9 => ?_)
    refine lv_iload_n hx hb dJ6_stringSize_0f7a4_27 rfl (lv_at hl 0 rfl) ?_
    refine lv_iload_n hx hb dJ6_stringSize_0f7a4_28 rfl (lv_at hl 3 rfl) ?_
    refine lv_iadd hx hb dJ6_stringSize_0f7a4_29 ?_
    rw [show (6 : Int32) + 0 = (nI 6) from by decide]
    exact c_reti (()) (congrArg nI (show 6 = sb_dg v by unfold sb_dg; (repeat' split) <;> omega)) (rfl) G hP hD hS (by decide) dJ6_stringSize_0f7a4_30
  refine lv_icmp_le (tgt := 31) hx hb dJ6_stringSize_0f7a4_24 (by decide) (fun c9 => ?_) (fun c9 => absurd (show -nI v ≤ -nI 1000000 from (sb_nle hv (by decide)).mpr (by omega)) c9)
  refine lv_bipush (v := 10) hx hb dJ6_stringSize_0f7a4_31 (by decide) ?_
  refine lv_iload_n hx hb dJ6_stringSize_0f7a4_33 rfl (lv_at hl 1 rfl) ?_
  refine lv_imul hx hb dJ6_stringSize_0f7a4_34 ?_
  rw [show (10 : Int32) * (-1000000) = (-10000000) from by decide]
  refine lv_istore_n (lv' := [(2, .int (-10000000)), (3, .int 6), (0, .int (-nI v)), (1, .int 0)]) hx hb dJ6_stringSize_0f7a4_35 rfl hl (by decide) rfl (fun ls hl => ?_)
  refine lv_iinc (v := 7) (lv' := [(3, .int 7), (2, .int (-10000000)), (0, .int (-nI v)), (1, .int 0)]) hx hb dJ6_stringSize_0f7a4_36 hl (k := 1) rfl (by decide) (by decide) rfl (fun ls hl => ?_)
  refine lv_goto (tgt := 16) hx hb dJ6_stringSize_0f7a4_39 (by decide) ?_
  refine lv_iload_n hx hb dJ6_stringSize_0f7a4_16 rfl (lv_at hl 0 rfl) ?_
  refine lv_bipush (v := 10) hx hb dJ6_stringSize_0f7a4_17 (by decide) ?_
  refine lv_icmp_ge (tgt := 42) hx hb dJ6_stringSize_0f7a4_19 (by decide) (fun c9 => absurd c9 (by decide)) (fun c9 => ?_)
  refine lv_iload_n hx hb dJ6_stringSize_0f7a4_22 rfl (lv_at hl 2 rfl) ?_
  refine lv_iload_n hx hb dJ6_stringSize_0f7a4_23 rfl (lv_at hl 1 rfl) ?_
  by_cases h7 : v < 10000000
  · skip
    refine lv_icmp_le (tgt := 31) hx hb dJ6_stringSize_0f7a4_24 (by decide) (fun c9 => absurd c9 (fun z => by have := (sb_nle hv (by decide)).mp (show -nI v ≤ -nI 10000000 from z); omega)) (fun c9 => ?_)
    refine lv_iload_n hx hb dJ6_stringSize_0f7a4_27 rfl (lv_at hl 0 rfl) ?_
    refine lv_iload_n hx hb dJ6_stringSize_0f7a4_28 rfl (lv_at hl 3 rfl) ?_
    refine lv_iadd hx hb dJ6_stringSize_0f7a4_29 ?_
    rw [show (7 : Int32) + 0 = (nI 7) from by decide]
    exact c_reti (()) (congrArg nI (show 7 = sb_dg v by unfold sb_dg; (repeat' split) <;> omega)) (rfl) G hP hD hS (by decide) dJ6_stringSize_0f7a4_30
  refine lv_icmp_le (tgt := 31) hx hb dJ6_stringSize_0f7a4_24 (by decide) (fun c9 => ?_) (fun c9 => absurd (show -nI v ≤ -nI 10000000 from (sb_nle hv (by decide)).mpr (by omega)) c9)
  refine lv_bipush (v := 10) hx hb dJ6_stringSize_0f7a4_31 (by decide) ?_
  refine lv_iload_n hx hb dJ6_stringSize_0f7a4_33 rfl (lv_at hl 1 rfl) ?_
  refine lv_imul hx hb dJ6_stringSize_0f7a4_34 ?_
  rw [show (10 : Int32) * (-10000000) = (-100000000) from by decide]
  refine lv_istore_n (lv' := [(2, .int (-100000000)), (3, .int 7), (0, .int (-nI v)), (1, .int 0)]) hx hb dJ6_stringSize_0f7a4_35 rfl hl (by decide) rfl (fun ls hl => ?_)
  refine lv_iinc (v := 8) (lv' := [(3, .int 8), (2, .int (-100000000)), (0, .int (-nI v)), (1, .int 0)]) hx hb dJ6_stringSize_0f7a4_36 hl (k := 1) rfl (by decide) (by decide) rfl (fun ls hl => ?_)
  refine lv_goto (tgt := 16) hx hb dJ6_stringSize_0f7a4_39 (by decide) ?_
  refine lv_iload_n hx hb dJ6_stringSize_0f7a4_16 rfl (lv_at hl 0 rfl) ?_
  refine lv_bipush (v := 10) hx hb dJ6_stringSize_0f7a4_17 (by decide) ?_
  refine lv_icmp_ge (tgt := 42) hx hb dJ6_stringSize_0f7a4_19 (by decide) (fun c9 => absurd c9 (by decide)) (fun c9 => ?_)
  refine lv_iload_n hx hb dJ6_stringSize_0f7a4_22 rfl (lv_at hl 2 rfl) ?_
  refine lv_iload_n hx hb dJ6_stringSize_0f7a4_23 rfl (lv_at hl 1 rfl) ?_
  by_cases h8 : v < 100000000
  · skip
    refine lv_icmp_le (tgt := 31) hx hb dJ6_stringSize_0f7a4_24 (by decide) (fun c9 => absurd c9 (fun z => by have := (sb_nle hv (by decide)).mp (show -nI v ≤ -nI 100000000 from z); omega)) (fun c9 => ?_)
    refine lv_iload_n hx hb dJ6_stringSize_0f7a4_27 rfl (lv_at hl 0 rfl) ?_
    refine lv_iload_n hx hb dJ6_stringSize_0f7a4_28 rfl (lv_at hl 3 rfl) ?_
    refine lv_iadd hx hb dJ6_stringSize_0f7a4_29 ?_
    rw [show (8 : Int32) + 0 = (nI 8) from by decide]
    exact c_reti (()) (congrArg nI (show 8 = sb_dg v by unfold sb_dg; (repeat' split) <;> omega)) (rfl) G hP hD hS (by decide) dJ6_stringSize_0f7a4_30
  refine lv_icmp_le (tgt := 31) hx hb dJ6_stringSize_0f7a4_24 (by decide) (fun c9 => ?_) (fun c9 => absurd (show -nI v ≤ -nI 100000000 from (sb_nle hv (by decide)).mpr (by omega)) c9)
  refine lv_bipush (v := 10) hx hb dJ6_stringSize_0f7a4_31 (by decide) ?_
  refine lv_iload_n hx hb dJ6_stringSize_0f7a4_33 rfl (lv_at hl 1 rfl) ?_
  refine lv_imul hx hb dJ6_stringSize_0f7a4_34 ?_
  rw [show (10 : Int32) * (-100000000) = (-1000000000) from by decide]
  refine lv_istore_n (lv' := [(2, .int (-1000000000)), (3, .int 8), (0, .int (-nI v)), (1, .int 0)]) hx hb dJ6_stringSize_0f7a4_35 rfl hl (by decide) rfl (fun ls hl => ?_)
  refine lv_iinc (v := 9) (lv' := [(3, .int 9), (2, .int (-1000000000)), (0, .int (-nI v)), (1, .int 0)]) hx hb dJ6_stringSize_0f7a4_36 hl (k := 1) rfl (by decide) (by decide) rfl (fun ls hl => ?_)
  refine lv_goto (tgt := 16) hx hb dJ6_stringSize_0f7a4_39 (by decide) ?_
  refine lv_iload_n hx hb dJ6_stringSize_0f7a4_16 rfl (lv_at hl 0 rfl) ?_
  refine lv_bipush (v := 10) hx hb dJ6_stringSize_0f7a4_17 (by decide) ?_
  refine lv_icmp_ge (tgt := 42) hx hb dJ6_stringSize_0f7a4_19 (by decide) (fun c9 => absurd c9 (by decide)) (fun c9 => ?_)
  refine lv_iload_n hx hb dJ6_stringSize_0f7a4_22 rfl (lv_at hl 2 rfl) ?_
  refine lv_iload_n hx hb dJ6_stringSize_0f7a4_23 rfl (lv_at hl 1 rfl) ?_
  by_cases h9 : v < 1000000000
  · skip
    refine lv_icmp_le (tgt := 31) hx hb dJ6_stringSize_0f7a4_24 (by decide) (fun c9 => absurd c9 (fun z => by have := (sb_nle hv (by decide)).mp (show -nI v ≤ -nI 1000000000 from z); omega)) (fun c9 => ?_)
    refine lv_iload_n hx hb dJ6_stringSize_0f7a4_27 rfl (lv_at hl 0 rfl) ?_
    refine lv_iload_n hx hb dJ6_stringSize_0f7a4_28 rfl (lv_at hl 3 rfl) ?_
    refine lv_iadd hx hb dJ6_stringSize_0f7a4_29 ?_
    rw [show (9 : Int32) + 0 = (nI 9) from by decide]
    exact c_reti (()) (congrArg nI (show 9 = sb_dg v by unfold sb_dg; (repeat' split) <;> omega)) (rfl) G hP hD hS (by decide) dJ6_stringSize_0f7a4_30
  refine lv_icmp_le (tgt := 31) hx hb dJ6_stringSize_0f7a4_24 (by decide) (fun c9 => ?_) (fun c9 => absurd (show -nI v ≤ -nI 1000000000 from (sb_nle hv (by decide)).mpr (by omega)) c9)
  refine lv_bipush (v := 10) hx hb dJ6_stringSize_0f7a4_31 (by decide) ?_
  refine lv_iload_n hx hb dJ6_stringSize_0f7a4_33 rfl (lv_at hl 1 rfl) ?_
  refine lv_imul hx hb dJ6_stringSize_0f7a4_34 ?_
  rw [show (10 : Int32) * (-1000000000) = (-1410065408) from by decide]
  refine lv_istore_n (lv' := [(2, .int (-1410065408)), (3, .int 9), (0, .int (-nI v)), (1, .int 0)]) hx hb dJ6_stringSize_0f7a4_35 rfl hl (by decide) rfl (fun ls hl => ?_)
  refine lv_iinc (v := 10) (lv' := [(3, .int 10), (2, .int (-1410065408)), (0, .int (-nI v)), (1, .int 0)]) hx hb dJ6_stringSize_0f7a4_36 hl (k := 1) rfl (by decide) (by decide) rfl (fun ls hl => ?_)
  refine lv_goto (tgt := 16) hx hb dJ6_stringSize_0f7a4_39 (by decide) ?_
  refine lv_iload_n hx hb dJ6_stringSize_0f7a4_16 rfl (lv_at hl 0 rfl) ?_
  refine lv_bipush (v := 10) hx hb dJ6_stringSize_0f7a4_17 (by decide) ?_
  refine lv_icmp_ge (tgt := 42) hx hb dJ6_stringSize_0f7a4_19 (by decide) (fun c9 => ?_) (fun c9 => absurd (by decide) c9)
  refine lv_bipush (v := 10) hx hb dJ6_stringSize_0f7a4_42 (by decide) ?_
  refine lv_iload_n hx hb dJ6_stringSize_0f7a4_44 rfl (lv_at hl 3 rfl) ?_
  refine lv_iadd hx hb dJ6_stringSize_0f7a4_45 ?_
  rw [show (10 : Int32) + 0 = (nI 10) from by decide]
  exact c_reti (()) (congrArg nI (show 10 = sb_dg v by unfold sb_dg; (repeat' split) <;> omega)) (rfl) G hP hD hS (by decide) dJ6_stringSize_0f7a4_46
set_option maxHeartbeats 4000000 in
set_option maxRecDepth 100000 in
theorem mJ6_getChars_ba4f3 (l : Launch) (D : va_G) (cA : Nat → ClassId) (ad adF adW tt : Nat → Nat) (ST : gST) (hT : STE ad adF adW tt ST) (hW : STW adW tt ST) (hSQ : STQ ST) (hSD : STD tt ST) (q L n v : Nat) (f : Nat → Int32) (hv : v < 2 ^ 31) (hpL : n + sb_dg v ≤ L) (hL9 : L ≤ 34) : gMetG l yJ6_getChars_ba4f3 cJ6_getChars_ba4f3 7 (some .int) 0 0 0 D (TYS cA) ST ([(q, .inl (cA 5, L, .inl f))]) [.int (nI v), .int (nI (n + sb_dg v)), .ref q] (gGi D (TYS cA) (fun _ (a9 : Nat → Int32) => (∀ j, j < n ∨ n + sb_dg v ≤ j → a9 j = f j) ∧ (∀ i, i < sb_dg v → a9 (n + sb_dg v - 1 - i) = sb_b (48 + v / 10 ^ i % 10)) ∧ (sb_Fit f → sb_Fit a9)) (fun a9 => [(q, .inl (cA 5, L, .inl a9))])) := by
  refine g_ofWG hT.1 (by decide +kernel) (Nat.le_of_ble_eq_true rfl) ?_
  intro p e s m args below meth c ls A G hP hD hl
  have G : GC p s m args meth c cJ6_getChars_ba4f3 7 RJ6 (some .int) A D (TYS cA) ST := G
  have hx := G.1
  have hb := G.2.1
  have hS : va_S A s.heap s.heap [] := va_S.rf
  have hP : va_P D vwCl ([(q, .inl (cA 5, L, .inl f))]) s.heap := hP
  have hD : va_D A ([(q, .inl (cA 5, L, .inl f))]) := hD
  have hl : lv_has ls 7 [(0, .int (nI v)), (1, .int (nI (n + sb_dg v))), (2, .ref q)] := hl
  have hL : ∀ (k w p0 : Nat) (f0 : Nat → Int32) (H : Heap) (locs : List Loc) (ls : Array Slot), w < k → w < 2 ^ 31 → p0 = n + sb_dg w → p0 ≤ L → (∀ a9 : Nat → Int32, (∀ j, j < n ∨ p0 ≤ j → a9 j = f0 j) → (∀ i, i < sb_dg w → a9 (p0 - 1 - i) = sb_b (48 + w / 10 ^ i % 10)) → (sb_Fit f0 → sb_Fit a9) → (∀ j, j < n ∨ n + sb_dg v ≤ j → a9 j = f j) ∧ (∀ i, i < sb_dg v → a9 (n + sb_dg v - 1 - i) = sb_b (48 + v / 10 ^ i % 10)) ∧ (sb_Fit f → sb_Fit a9)) → va_P D vwCl [(q, .inl (cA 5, L, .inl f0))] H → va_D A [(q, .inl (cA 5, L, .inl f0))] → va_S A s.heap H locs → lv_has ls 7 [(0, .int (-nI w)), (2, .ref q), (5, .int (nI p0)), (6, .int 0)] → W p l e (RMC 0 0 0) s m args below meth c H locs 0 0 (MQ below (gGi D (TYS cA) (fun _ (a9 : Nat → Int32) => (∀ j, j < n ∨ n + sb_dg v ≤ j → a9 j = f j) ∧ (∀ i, i < sb_dg v → a9 (n + sb_dg v - 1 - i) = sb_b (48 + v / 10 ^ i % 10)) ∧ (sb_Fit f → sb_Fit a9)) (fun a9 => [(q, .inl (cA 5, L, .inl a9))]) A) args s 0 0 A) (F0 m 22 ls []) := by
    intro k
    induction k with
    | zero => intro w p0 f0 H locs ls h; omega
    | succ k ih =>
      intro w p0 f0 H locs ls hwk hw hp hpm hQ hP hD hS hl
      have hd1 := (sb_dg_in w).1
      have ew : (nI w).toNatClampNeg = w := nI_clamp hw
      have hSD := hSD _ _ G.2.2.2.2.2.2.2.2.2.2.1
      by_cases h100 : w < 100
      · skip
        refine lv_iload_n hx hb dJ6_getChars_ba4f3_22 rfl (lv_at hl 0 rfl) ?_
        refine lv_bipush (v := (-100)) hx hb dJ6_getChars_ba4f3_23 (by decide) ?_
        refine lv_icmp_gt (tgt := 72) hx hb dJ6_getChars_ba4f3_25 (by decide) (fun c9 => ?_) (fun c9 => absurd (show -nI 100 < -nI w from (sb_nlt (by decide) hw).mpr h100) c9)
        refine lv_aload_n hx hb dJ6_getChars_ba4f3_72 rfl (lv_at hl 1 rfl) ?_
        refine lv_iinc (v := (nI (p0 - 1))) (lv' := [(5, .int (nI (p0 - 1))), (0, .int (-nI w)), (2, .ref q), (6, .int 0)]) hx hb dJ6_getChars_ba4f3_73 hl (k := 2) rfl (by rw [show Int32.ofInt (-1) = -1 from by decide]; exact sb_m1 (by omega)) (by decide) rfl (fun ls hl => ?_)
        refine lv_iload hx hb dJ6_getChars_ba4f3_76 (lv_at hl 0 rfl) ?_
        refine va_gets hx hb hSD.1.1 hS G.2.2.2.1 (G.2.2.2.2.1 _ q7_8) (fun _ h9 => h9) dJ6_getChars_ba4f3_78 ?_
        refine lv_iload_n hx hb dJ6_getChars_ba4f3_81 rfl (lv_at hl 1 rfl) ?_
        refine lv_ineg hx hb dJ6_getChars_ba4f3_82 ?_
        rw [show -(-nI w) = (nI w) from Int32.neg_neg]
        refine va_tb (v := .int (sb_ones w)) hx hb hSD.1.2 hS (vp_in_nI h100 (by decide)) (by rw [ew]) dJ6_getChars_ba4f3_83 ?_
        refine va_bast hx hb G.2.2.2.2.2.2.2.2.1 hP hD hS 0 5 rfl rfl (vp_in_nI (by omega) (by omega)) dJ6_getChars_ba4f3_84 (fun H locs hP hD hS => ?_)
        rw [show upd f0 (nI (p0 - 1)).toNatClampNeg (vp_nar .byte (sb_ones w)) = (upd f0 (p0 - 1) (sb_b (48 + w % 10))) from by rw [nI_clamp (by omega), (sb_tb w h100).1]] at hP hD
        have hP : va_P D vwCl ([(q, .inl (cA 5, L, .inl (upd f0 (p0 - 1) (sb_b (48 + w % 10)))))]) H := hP
        have hD : va_D A ([(q, .inl (cA 5, L, .inl (upd f0 (p0 - 1) (sb_b (48 + w % 10)))))]) := hD
        refine lv_iload_n hx hb dJ6_getChars_ba4f3_85 rfl (lv_at hl 1 rfl) ?_
        refine lv_bipush (v := (-9)) hx hb dJ6_getChars_ba4f3_86 (by decide) ?_
        by_cases h9 : w < 10
        · skip
          have hd : sb_dg w = 1 := if_pos h9
          refine lv_icmp_ge (tgt := 104) hx hb dJ6_getChars_ba4f3_88 (by decide) (fun c9 => ?_) (fun c9 => absurd (show -nI 9 ≤ -nI w from (sb_nle (by decide) hw).mpr (by omega)) c9)
          refine lv_iload hx hb dJ6_getChars_ba4f3_104 (lv_at hl 3 rfl) ?_
          refine lv_if_eq (tgt := 118) hx hb dJ6_getChars_ba4f3_106 (by decide) (fun c9 => ?_) (fun c9 => absurd (rfl) c9)
          refine lv_iload hx hb dJ6_getChars_ba4f3_118 (lv_at hl 0 rfl) ?_
          refine c_reti (upd f0 (p0 - 1) (sb_b (48 + w % 10))) (hQ _ (fun j hj => pk_un (by omega)) (fun i hi => ?_) (fun hf => sb_fitU hf (sb_fitB _))) rfl G hP hD hS (by decide) dJ6_getChars_ba4f3_120
          obtain rfl : i = 0 := by omega
          rw [Nat.sub_zero, pk_us, Nat.pow_zero, Nat.div_one]
        have hd : sb_dg w = 2 := by rw [sb_dg, if_neg h9, if_pos h100]
        have d2 : w / 10 % 10 = w / 10 := by omega
        refine lv_icmp_ge (tgt := 104) hx hb dJ6_getChars_ba4f3_88 (by decide) (fun c9 => absurd c9 (fun z9 => by have := (sb_nle (by decide) hw).mp (show -nI 9 ≤ -nI w from z9); omega)) (fun c9 => ?_)
        refine lv_aload_n hx hb dJ6_getChars_ba4f3_91 rfl (lv_at hl 2 rfl) ?_
        refine lv_iinc (v := (nI (p0 - 1 - 1))) (lv' := [(5, .int (nI (p0 - 1 - 1))), (0, .int (-nI w)), (2, .ref q), (6, .int 0)]) hx hb dJ6_getChars_ba4f3_92 hl (k := 0) rfl (by rw [show Int32.ofInt (-1) = -1 from by decide]; exact sb_m1 (by omega)) (by decide) rfl (fun ls hl => ?_)
        refine lv_iload hx hb dJ6_getChars_ba4f3_95 (lv_at hl 0 rfl) ?_
        refine va_gets hx hb hSD.2.1 hS G.2.2.2.1 (G.2.2.2.2.1 _ q7_10) (fun _ h9 => h9) dJ6_getChars_ba4f3_97 ?_
        refine lv_iload_n hx hb dJ6_getChars_ba4f3_100 rfl (lv_at hl 1 rfl) ?_
        refine lv_ineg hx hb dJ6_getChars_ba4f3_101 ?_
        rw [show -(-nI w) = (nI w) from Int32.neg_neg]
        refine va_tb (v := .int (sb_tens w)) hx hb hSD.2.2 hS (vp_in_nI h100 (by decide)) (by rw [ew]) dJ6_getChars_ba4f3_102 ?_
        refine va_bast hx hb G.2.2.2.2.2.2.2.2.1 hP hD hS 0 5 rfl rfl (vp_in_nI (by omega) (by omega)) dJ6_getChars_ba4f3_103 (fun H locs hP hD hS => ?_)
        rw [show upd (upd f0 (p0 - 1) (sb_b (48 + w % 10))) (nI (p0 - 1 - 1)).toNatClampNeg (vp_nar .byte (sb_tens w)) = (upd (upd f0 (p0 - 1) (sb_b (48 + w % 10))) (p0 - 1 - 1) (sb_b (48 + w / 10))) from by rw [nI_clamp (by omega), (sb_tb w h100).2]] at hP hD
        have hP : va_P D vwCl ([(q, .inl (cA 5, L, .inl (upd (upd f0 (p0 - 1) (sb_b (48 + w % 10))) (p0 - 1 - 1) (sb_b (48 + w / 10)))))]) H := hP
        have hD : va_D A ([(q, .inl (cA 5, L, .inl (upd (upd f0 (p0 - 1) (sb_b (48 + w % 10))) (p0 - 1 - 1) (sb_b (48 + w / 10)))))]) := hD
        refine lv_iload hx hb dJ6_getChars_ba4f3_104 (lv_at hl 3 rfl) ?_
        refine lv_if_eq (tgt := 118) hx hb dJ6_getChars_ba4f3_106 (by decide) (fun c9 => ?_) (fun c9 => absurd (rfl) c9)
        refine lv_iload hx hb dJ6_getChars_ba4f3_118 (lv_at hl 0 rfl) ?_
        refine c_reti (upd (upd f0 (p0 - 1) (sb_b (48 + w % 10))) (p0 - 1 - 1) (sb_b (48 + w / 10))) (hQ _ (fun j hj => by rw [pk_un (by omega), pk_un (by omega)]) (fun i hi => ?_) (fun hf => sb_fitU (sb_fitU hf (sb_fitB _)) (sb_fitB _))) rfl G hP hD hS (by decide) dJ6_getChars_ba4f3_120
        obtain rfl | rfl : i = 0 ∨ i = 1 := by omega
        · rw [Nat.sub_zero, pk_un (by omega), pk_us, Nat.pow_zero, Nat.div_one]
        · rw [pk_us, Nat.pow_one, d2]
      obtain ⟨t1, t2⟩ := sb_tb (w % 100) (Nat.mod_lt _ (by decide))
      have hd := sb_dg100 (w := w) (by omega) hw
      have hd2 := (sb_dg_in (w / 100)).1
      have er : (nI (w % 100)).toNatClampNeg = w % 100 := nI_clamp (by omega)
      rw [show w % 100 % 10 = w % 10 by omega] at t1
      rw [show w % 100 / 10 = w / 10 % 10 by omega] at t2
      refine lv_iload_n hx hb dJ6_getChars_ba4f3_22 rfl (lv_at hl 0 rfl) ?_
      refine lv_bipush (v := (-100)) hx hb dJ6_getChars_ba4f3_23 (by decide) ?_
      refine lv_icmp_gt (tgt := 72) hx hb dJ6_getChars_ba4f3_25 (by decide) (fun c9 => absurd c9 (fun z9 => h100 ((sb_nlt (by decide) hw).mp (show -nI 100 < -nI w from z9)))) (fun c9 => ?_)
      refine lv_iload_n hx hb dJ6_getChars_ba4f3_28 rfl (lv_at hl 0 rfl) ?_
      refine lv_bipush (v := 100) hx hb dJ6_getChars_ba4f3_29 (by decide) ?_
      refine lv_idiv hx hb dJ6_getChars_ba4f3_31 (by decide) ?_
      rw [show (-nI w) / 100 = (-nI (w / 100)) from sb_ndiv hw]
      refine lv_istore_n (lv' := [(3, .int (-nI (w / 100))), (0, .int (-nI w)), (2, .ref q), (5, .int (nI p0)), (6, .int 0)]) hx hb dJ6_getChars_ba4f3_32 rfl hl (by decide) rfl (fun ls hl => ?_)
      refine lv_iload_n hx hb dJ6_getChars_ba4f3_33 rfl (lv_at hl 0 rfl) ?_
      refine lv_bipush (v := 100) hx hb dJ6_getChars_ba4f3_34 (by decide) ?_
      refine lv_imul hx hb dJ6_getChars_ba4f3_36 ?_
      refine lv_iload_n hx hb dJ6_getChars_ba4f3_37 rfl (lv_at hl 1 rfl) ?_
      refine lv_isub hx hb dJ6_getChars_ba4f3_38 ?_
      rw [show ((-nI (w / 100)) * 100) - (-nI w) = (nI (w % 100)) from sb_nrem hw]
      refine lv_istore (lv' := [(4, .int (nI (w % 100))), (3, .int (-nI (w / 100))), (0, .int (-nI w)), (2, .ref q), (5, .int (nI p0)), (6, .int 0)]) hx hb dJ6_getChars_ba4f3_39 hl (by decide) rfl (fun ls hl => ?_)
      refine lv_iload_n hx hb dJ6_getChars_ba4f3_41 rfl (lv_at hl 1 rfl) ?_
      refine lv_istore_n (lv' := [(0, .int (-nI (w / 100))), (4, .int (nI (w % 100))), (3, .int (-nI (w / 100))), (2, .ref q), (5, .int (nI p0)), (6, .int 0)]) hx hb dJ6_getChars_ba4f3_42 rfl hl (by decide) rfl (fun ls hl => ?_)
      refine lv_aload_n hx hb dJ6_getChars_ba4f3_43 rfl (lv_at hl 3 rfl) ?_
      refine lv_iinc (v := (nI (p0 - 1))) (lv' := [(5, .int (nI (p0 - 1))), (0, .int (-nI (w / 100))), (4, .int (nI (w % 100))), (3, .int (-nI (w / 100))), (2, .ref q), (6, .int 0)]) hx hb dJ6_getChars_ba4f3_44 hl (k := 4) rfl (by rw [show Int32.ofInt (-1) = -1 from by decide]; exact sb_m1 (by omega)) (by decide) rfl (fun ls hl => ?_)
      refine lv_iload hx hb dJ6_getChars_ba4f3_47 (lv_at hl 0 rfl) ?_
      refine va_gets hx hb hSD.1.1 hS G.2.2.2.1 (G.2.2.2.2.1 _ q7_8) (fun _ h9 => h9) dJ6_getChars_ba4f3_49 ?_
      refine lv_iload hx hb dJ6_getChars_ba4f3_52 (lv_at hl 2 rfl) ?_
      refine va_tb (v := .int (sb_ones (w % 100))) hx hb hSD.1.2 hS (vp_in_nI (by omega) (by decide)) (by rw [er]) dJ6_getChars_ba4f3_54 ?_
      refine va_bast hx hb G.2.2.2.2.2.2.2.2.1 hP hD hS 0 5 rfl rfl (vp_in_nI (by omega) (by omega)) dJ6_getChars_ba4f3_55 (fun H locs hP hD hS => ?_)
      rw [show upd f0 (nI (p0 - 1)).toNatClampNeg (vp_nar .byte (sb_ones (w % 100))) = (upd f0 (p0 - 1) (sb_b (48 + w % 10))) from by rw [nI_clamp (by omega), t1]] at hP hD
      have hP : va_P D vwCl ([(q, .inl (cA 5, L, .inl (upd f0 (p0 - 1) (sb_b (48 + w % 10)))))]) H := hP
      have hD : va_D A ([(q, .inl (cA 5, L, .inl (upd f0 (p0 - 1) (sb_b (48 + w % 10)))))]) := hD
      refine lv_aload_n hx hb dJ6_getChars_ba4f3_56 rfl (lv_at hl 4 rfl) ?_
      refine lv_iinc (v := (nI (p0 - 1 - 1))) (lv' := [(5, .int (nI (p0 - 1 - 1))), (0, .int (-nI (w / 100))), (4, .int (nI (w % 100))), (3, .int (-nI (w / 100))), (2, .ref q), (6, .int 0)]) hx hb dJ6_getChars_ba4f3_57 hl (k := 0) rfl (by rw [show Int32.ofInt (-1) = -1 from by decide]; exact sb_m1 (by omega)) (by decide) rfl (fun ls hl => ?_)
      refine lv_iload hx hb dJ6_getChars_ba4f3_60 (lv_at hl 0 rfl) ?_
      refine va_gets hx hb hSD.2.1 hS G.2.2.2.1 (G.2.2.2.2.1 _ q7_10) (fun _ h9 => h9) dJ6_getChars_ba4f3_62 ?_
      refine lv_iload hx hb dJ6_getChars_ba4f3_65 (lv_at hl 2 rfl) ?_
      refine va_tb (v := .int (sb_tens (w % 100))) hx hb hSD.2.2 hS (vp_in_nI (by omega) (by decide)) (by rw [er]) dJ6_getChars_ba4f3_67 ?_
      refine va_bast hx hb G.2.2.2.2.2.2.2.2.1 hP hD hS 0 5 rfl rfl (vp_in_nI (by omega) (by omega)) dJ6_getChars_ba4f3_68 (fun H locs hP hD hS => ?_)
      rw [show upd (upd f0 (p0 - 1) (sb_b (48 + w % 10))) (nI (p0 - 1 - 1)).toNatClampNeg (vp_nar .byte (sb_tens (w % 100))) = (upd (upd f0 (p0 - 1) (sb_b (48 + w % 10))) (p0 - 1 - 1) (sb_b (48 + w / 10 % 10))) from by rw [nI_clamp (by omega), t2]] at hP hD
      have hP : va_P D vwCl ([(q, .inl (cA 5, L, .inl (upd (upd f0 (p0 - 1) (sb_b (48 + w % 10))) (p0 - 1 - 1) (sb_b (48 + w / 10 % 10)))))]) H := hP
      have hD : va_D A ([(q, .inl (cA 5, L, .inl (upd (upd f0 (p0 - 1) (sb_b (48 + w % 10))) (p0 - 1 - 1) (sb_b (48 + w / 10 % 10)))))]) := hD
      refine lv_goto (tgt := 22) hx hb dJ6_getChars_ba4f3_69 (by decide) ?_
      refine ih (w / 100) (p0 - 1 - 1) _ _ _ _ (by omega) (by omega) (by omega) (by omega) (fun a9 h1 h2 h3 => ?_) hP hD hS (lv_sub hl [1, 4, 0, 5] rfl)
      refine hQ a9 (fun j hj => by rw [h1 j (by omega), pk_un (by omega), pk_un (by omega)]) (fun i hi => ?_) (fun hf => h3 (sb_fitU (sb_fitU hf (sb_fitB _)) (sb_fitB _)))
      match i, hi with
      | 0, _ => rw [Nat.sub_zero, h1 _ (by omega), pk_un (by omega), pk_us, Nat.pow_zero, Nat.div_one]
      | 1, _ => rw [h1 _ (by omega), pk_us, Nat.pow_one]
      | k9 + 2, hi =>
        rw [show p0 - 1 - (k9 + 2) = p0 - 1 - 1 - 1 - k9 by omega, h2 k9 (by omega), Nat.div_div_eq_div_mul, show 100 * 10 ^ k9 = 10 ^ (k9 + 2) by rw [show k9 + 2 = k9 + 1 + 1 from rfl, Nat.pow_succ, Nat.pow_succ]; omega]
  refine lv_iload_n hx hb dJ6_getChars_ba4f3_0 rfl (lv_at hl 1 rfl) ?_
  refine lv_istore (lv' := [(5, .int (nI (n + sb_dg v))), (0, .int (nI v)), (1, .int (nI (n + sb_dg v))), (2, .ref q)]) hx hb dJ6_getChars_ba4f3_1 hl (by decide) rfl (fun ls hl => ?_)
  refine lv_iload_n hx hb dJ6_getChars_ba4f3_3 rfl (lv_at hl 1 rfl) ?_
  refine lv_if_ge (tgt := 11) hx hb dJ6_getChars_ba4f3_4 (by decide) (fun c9 => ?_) (fun c9 => absurd (nI_pos' hv) c9)
  refine lv_iconst (v := 0) hx hb dJ6_getChars_ba4f3_11 (by decide) ?_
  refine lv_istore (lv' := [(6, .int 0), (5, .int (nI (n + sb_dg v))), (0, .int (nI v)), (1, .int (nI (n + sb_dg v))), (2, .ref q)]) hx hb dJ6_getChars_ba4f3_12 hl (by decide) rfl (fun ls hl => ?_)
  refine lv_iload hx hb dJ6_getChars_ba4f3_14 (lv_at hl 0 rfl) ?_
  refine lv_if_ne (tgt := 22) hx hb dJ6_getChars_ba4f3_16 (by decide) (fun c9 => absurd (rfl) c9) (fun c9 => ?_)
  refine lv_iload_n hx hb dJ6_getChars_ba4f3_19 rfl (lv_at hl 2 rfl) ?_
  refine lv_ineg hx hb dJ6_getChars_ba4f3_20 ?_
  rw [show -(nI v) = (-nI v) from rfl]
  refine lv_istore_n (lv' := [(0, .int (-nI v)), (6, .int 0), (5, .int (nI (n + sb_dg v))), (1, .int (nI (n + sb_dg v))), (2, .ref q)]) hx hb dJ6_getChars_ba4f3_21 rfl hl (by decide) rfl (fun ls hl => ?_)
  exact hL (v + 1) v _ f _ _ _ (by omega) hv rfl hpL (fun a9 h1 h2 h3 => ⟨h1, h2, h3⟩) hP hD hS (lv_sub hl [0, 4, 2, 1] rfl)
set_option maxHeartbeats 4000000 in
set_option maxRecDepth 100000 in
theorem mJ5_isLatin1_aae02 (l : Launch) (D : va_G) (cA : Nat → ClassId) (ad adF adW tt : Nat → Nat) (ST : gST) (hT : STE ad adF adW tt ST) (hW : STW adW tt ST) (hSQ : STQ ST) (z q n L : Nat) (ml : Int32) (f : Nat → Int32) : gMetG l yJ5_isLatin1_aae02 cJ5_isLatin1_aae02 1 (some .boolean) 0 0 0 D (TYS cA) ST ([(z, .inr (1, [.ref q, .int 0, .int ml, .int (nI n)])), (q, .inl (cA 5, L, .inl f))]) [.ref z] (gGi D (TYS cA) (fun r (_ : Unit) => r = 1) (fun _ => [(z, .inr (1, [.ref q, .int 0, .int ml, .int (nI n)])), (q, .inl (cA 5, L, .inl f))])) := by
  refine g_ofWG hT.1 (by decide +kernel) (Nat.le_of_ble_eq_true rfl) ?_
  intro p e s m args below meth c ls A G hP hD hl
  have G : GC p s m args meth c cJ5_isLatin1_aae02 1 RJ5 (some .boolean) A D (TYS cA) ST := G
  have hx := G.1
  have hb := G.2.1
  have hS : va_S A s.heap s.heap [] := va_S.rf
  have hP : va_P D vwCl ([(z, .inr (1, [.ref q, .int 0, .int ml, .int (nI n)])), (q, .inl (cA 5, L, .inl f))]) s.heap := hP
  have hD : va_D A ([(z, .inr (1, [.ref q, .int 0, .int ml, .int (nI n)])), (q, .inl (cA 5, L, .inl f))]) := hD
  have hl : lv_has ls 1 [(0, .ref z)] := hl
  refine va_gets hx hb (hW _ _ G.2.2.2.2.2.2.2.2.2.2.1).1 hS G.2.2.2.1 (G.2.2.2.2.1 _ q2_27) (fun _ h9 => h9) dJ5_isLatin1_aae02_0 ?_
  refine lv_if_eq (tgt := 17) hx hb dJ5_isLatin1_aae02_3 (by decide) (fun c9 => absurd c9 (by decide)) (fun c9 => ?_)
  refine lv_aload_n hx hb dJ5_isLatin1_aae02_6 rfl (lv_at hl 0 rfl) ?_
  refine c_get (F := [(z, .inr (1, [.ref q, .int 0, .int ml, .int (nI n)])), (q, .inl (cA 5, L, .inl f))]) (B := []) (C := RJ4) (T := TJ4) (M := 4) (ci := 1) G hP 0 1 i_J4 rfl rfl (by decide) q2_37 rfl dJ5_isLatin1_aae02_7 ?_
  refine lv_if_ne (tgt := 17) hx hb dJ5_isLatin1_aae02_10 (by decide) (fun c9 => absurd (rfl) c9) (fun c9 => ?_)
  refine lv_iconst (v := 1) hx hb dJ5_isLatin1_aae02_13 (by decide) ?_
  refine lv_goto (tgt := 18) hx hb dJ5_isLatin1_aae02_14 (by decide) ?_
  exact c_reti (()) (rfl) (rfl) G hP hD hS (by decide) dJ5_isLatin1_aae02_18
set_option maxHeartbeats 4000000 in
set_option maxRecDepth 100000 in
theorem mJ5_length_8abf5 (l : Launch) (D : va_G) (cA : Nat → ClassId) (ad adF adW tt : Nat → Nat) (ST : gST) (hT : STE ad adF adW tt ST) (hW : STW adW tt ST) (hSQ : STQ ST) (z q n L : Nat) (ml : Int32) (f : Nat → Int32) : gMetG l yJ5_length_8abf5 cJ5_length_8abf5 1 (some .int) 0 0 0 D (TYS cA) ST ([(z, .inr (1, [.ref q, .int 0, .int ml, .int (nI n)])), (q, .inl (cA 5, L, .inl f))]) [.ref z] (gGi D (TYS cA) (fun r (_ : Unit) => r = nI n) (fun _ => [(z, .inr (1, [.ref q, .int 0, .int ml, .int (nI n)])), (q, .inl (cA 5, L, .inl f))])) := by
  refine g_ofWG hT.1 (by decide +kernel) (Nat.le_of_ble_eq_true rfl) ?_
  intro p e s m args below meth c ls A G hP hD hl
  have G : GC p s m args meth c cJ5_length_8abf5 1 RJ5 (some .int) A D (TYS cA) ST := G
  have hx := G.1
  have hb := G.2.1
  have hS : va_S A s.heap s.heap [] := va_S.rf
  have hP : va_P D vwCl ([(z, .inr (1, [.ref q, .int 0, .int ml, .int (nI n)])), (q, .inl (cA 5, L, .inl f))]) s.heap := hP
  have hD : va_D A ([(z, .inr (1, [.ref q, .int 0, .int ml, .int (nI n)])), (q, .inl (cA 5, L, .inl f))]) := hD
  have hl : lv_has ls 1 [(0, .ref z)] := hl
  refine lv_aload_n hx hb dJ5_length_8abf5_0 rfl (lv_at hl 0 rfl) ?_
  refine c_get (F := [(z, .inr (1, [.ref q, .int 0, .int ml, .int (nI n)])), (q, .inl (cA 5, L, .inl f))]) (B := []) (C := RJ4) (T := TJ4) (M := 4) (ci := 1) G hP 0 3 i_J4 rfl rfl (by decide) q2_39 rfl dJ5_length_8abf5_1 ?_
  exact c_reti (()) (rfl) (rfl) G hP hD hS (by decide) dJ5_length_8abf5_4
set_option maxHeartbeats 4000000 in
set_option maxRecDepth 100000 in
theorem mJ4_length_8abf5 (l : Launch) (D : va_G) (cA : Nat → ClassId) (ad adF adW tt : Nat → Nat) (ST : gST) (hT : STE ad adF adW tt ST) (hW : STW adW tt ST) (hSQ : STQ ST) (z q n L : Nat) (ml : Int32) (f : Nat → Int32) : gMetG l yJ4_length_8abf5 cJ4_length_8abf5 1 (some .int) 1 0 0 D (TYS cA) ST ([(z, .inr (1, [.ref q, .int 0, .int ml, .int (nI n)])), (q, .inl (cA 5, L, .inl f))]) [.ref z] (gGi D (TYS cA) (fun r (_ : Unit) => r = nI n) (fun _ => [(z, .inr (1, [.ref q, .int 0, .int ml, .int (nI n)])), (q, .inl (cA 5, L, .inl f))])) := by
  refine g_ofWG hT.1 (by decide +kernel) (Nat.le_of_ble_eq_true rfl) ?_
  intro p e s m args below meth c ls A G hP hD hl
  have G : GC p s m args meth c cJ4_length_8abf5 1 RJ4 (some .int) A D (TYS cA) ST := G
  have hx := G.1
  have hb := G.2.1
  have hS : va_S A s.heap s.heap [] := va_S.rf
  have hP : va_P D vwCl ([(z, .inr (1, [.ref q, .int 0, .int ml, .int (nI n)])), (q, .inl (cA 5, L, .inl f))]) s.heap := hP
  have hD : va_D A ([(z, .inr (1, [.ref q, .int 0, .int ml, .int (nI n)])), (q, .inl (cA 5, L, .inl f))]) := hD
  have hl : lv_has ls 1 [(0, .ref z)] := hl
  refine lv_aload_n hx hb dJ4_length_8abf5_0 rfl (lv_at hl 0 rfl) ?_
  refine c_callSUi (nA := 0) (C := RJ4) (T := TJ4) (M := 4) (ci := 1) ([]) ([(z, .inr (1, [.ref q, .int 0, .int ml, .int (nI n)])), (q, .inl (cA 5, L, .inl f))]) 0 rfl rfl (mJ5_length_8abf5 l D cA ad adF adW tt ST hT hW hSQ z q n L ml f) G hP hD hS (List.Perm.of_eq rfl) (g_goodSU q7_43 q7_39 q2_48 q7_38 q1_12 q7_44) (by decide +kernel) ⟨Nat.le_of_ble_eq_true rfl, Nat.le_of_ble_eq_true rfl, Nat.le_of_ble_eq_true rfl, Nat.le_of_ble_eq_true rfl⟩ rfl hl.1 [] rfl (Nat.le_of_ble_eq_true rfl) dJ4_length_8abf5_1 (fun r b9 H locs hok hP hD hS => ?_)
  have hP : va_P D vwCl ([(z, .inr (1, [.ref q, .int 0, .int ml, .int (nI n)])), (q, .inl (cA 5, L, .inl f))]) H := hP
  have hD : va_D A ([(z, .inr (1, [.ref q, .int 0, .int ml, .int (nI n)])), (q, .inl (cA 5, L, .inl f))]) := hD
  subst hok
  exact c_reti (()) (rfl) (rfl) G hP hD hS (by decide) dJ4_length_8abf5_4
set_option maxHeartbeats 4000000 in
set_option maxRecDepth 100000 in
theorem mJ5_getValue_6d5f1 (l : Launch) (D : va_G) (cA : Nat → ClassId) (ad adF adW tt : Nat → Nat) (ST : gST) (hT : STE ad adF adW tt ST) (hW : STW adW tt ST) (hSQ : STQ ST) (z q n L : Nat) (ml : Int32) (f : Nat → Int32) : gMetG l yJ5_getValue_6d5f1 cJ5_getValue_6d5f1 1 (some (.array .byte)) 0 0 0 D (TYS cA) ST ([(z, .inr (1, [.ref q, .int 0, .int ml, .int (nI n)])), (q, .inl (cA 5, L, .inl f))]) [.ref z] (gGr D (TYS cA) (fun _ : Unit => True) (fun _ => q) (fun _ => [(z, .inr (1, [.ref q, .int 0, .int ml, .int (nI n)])), (q, .inl (cA 5, L, .inl f))])) := by
  refine g_ofWG hT.1 (by decide +kernel) (Nat.le_of_ble_eq_true rfl) ?_
  intro p e s m args below meth c ls A G hP hD hl
  have G : GC p s m args meth c cJ5_getValue_6d5f1 1 RJ5 (some (.array .byte)) A D (TYS cA) ST := G
  have hx := G.1
  have hb := G.2.1
  have hS : va_S A s.heap s.heap [] := va_S.rf
  have hP : va_P D vwCl ([(z, .inr (1, [.ref q, .int 0, .int ml, .int (nI n)])), (q, .inl (cA 5, L, .inl f))]) s.heap := hP
  have hD : va_D A ([(z, .inr (1, [.ref q, .int 0, .int ml, .int (nI n)])), (q, .inl (cA 5, L, .inl f))]) := hD
  have hl : lv_has ls 1 [(0, .ref z)] := hl
  refine lv_aload_n hx hb dJ5_getValue_6d5f1_0 rfl (lv_at hl 0 rfl) ?_
  refine c_get (F := [(z, .inr (1, [.ref q, .int 0, .int ml, .int (nI n)])), (q, .inl (cA 5, L, .inl f))]) (B := []) (C := RJ4) (T := TJ4) (M := 4) (ci := 1) G hP 0 0 i_J4 rfl rfl (by decide) q2_36 rfl dJ5_getValue_6d5f1_1 ?_
  exact c_reta () trivial rfl (Or.inr ⟨_, rfl⟩) G hP hD hS (by decide) dJ5_getValue_6d5f1_4
set_option maxHeartbeats 4000000 in
set_option maxRecDepth 100000 in
theorem mEC0 (l : Launch) (D : va_G) (cA : Nat → ClassId) (ad adF adW tt : Nat → Nat) (ST : gST) (hT : STE ad adF adW tt ST) (hW : STW adW tt ST) (hSQ : STQ ST) (z q n L : Nat) (ml : Int32) (f : Nat → Int32) (k : Nat) (hk : k ≤ L) (hL : L < 2 ^ 30) : gMetG l yJ5_ensureCapacityInternal_d00df cJ5_ensureCapacityInternal_d00df 3 none 2 0 0 D (TYS cA) ST ([(z, .inr (1, [.ref q, .int 0, .int ml, .int (nI n)])), (q, .inl (cA 5, L, .inl f))]) [.ref z, .int (nI k)] (gGv D (TYS cA) (fun _ : Unit => True) (fun _ => [(z, .inr (1, [.ref q, .int 0, .int ml, .int (nI n)])), (q, .inl (cA 5, L, .inl f))])) := by
  refine g_ofWG hT.1 (by decide +kernel) (Nat.le_of_ble_eq_true rfl) ?_
  intro p e s m args below meth c ls A G hP hD hl
  have G : GC p s m args meth c cJ5_ensureCapacityInternal_d00df 3 RJ5 none A D (TYS cA) ST := G
  have hx := G.1
  have hb := G.2.1
  have hS : va_S A s.heap s.heap [] := va_S.rf
  have hP : va_P D vwCl ([(z, .inr (1, [.ref q, .int 0, .int ml, .int (nI n)])), (q, .inl (cA 5, L, .inl f))]) s.heap := hP
  have hD : va_D A ([(z, .inr (1, [.ref q, .int 0, .int ml, .int (nI n)])), (q, .inl (cA 5, L, .inl f))]) := hD
  have hl : lv_has ls 3 [(0, .ref z), (1, .int (nI k))] := hl
  refine lv_aload_n hx hb dJ5_ensureCapacityInternal_d00df_0 rfl (lv_at hl 0 rfl) ?_
  refine c_get (F := [(z, .inr (1, [.ref q, .int 0, .int ml, .int (nI n)])), (q, .inl (cA 5, L, .inl f))]) (B := []) (C := RJ4) (T := TJ4) (M := 4) (ci := 1) G hP 0 0 i_J4 rfl rfl (by decide) q2_36 rfl dJ5_ensureCapacityInternal_d00df_1 ?_
  refine va_alen (v := (nI L)) hx hb G.2.2.2.2.2.2.2.2.1 hP 1 5 rfl rfl rfl dJ5_ensureCapacityInternal_d00df_4 ?_
  refine lv_aload_n hx hb dJ5_ensureCapacityInternal_d00df_5 rfl (lv_at hl 0 rfl) ?_
  refine c_get (F := [(z, .inr (1, [.ref q, .int 0, .int ml, .int (nI n)])), (q, .inl (cA 5, L, .inl f))]) (B := []) (C := RJ4) (T := TJ4) (M := 4) (ci := 1) G hP 0 1 i_J4 rfl rfl (by decide) q2_37 rfl dJ5_ensureCapacityInternal_d00df_6 ?_
  refine lv_ishr hx hb dJ5_ensureCapacityInternal_d00df_9 ?_
  rw [show (nI L) >>> (0 &&& 31) = (nI L) from sb_shr0 _]
  refine lv_istore_n (lv' := [(2, .int (nI L)), (0, .ref z), (1, .int (nI k))]) hx hb dJ5_ensureCapacityInternal_d00df_10 rfl hl (by decide) rfl (fun ls hl => ?_)
  refine lv_iload_n hx hb dJ5_ensureCapacityInternal_d00df_11 rfl (lv_at hl 2 rfl) ?_
  refine lv_iload_n hx hb dJ5_ensureCapacityInternal_d00df_12 rfl (lv_at hl 0 rfl) ?_
  refine lv_isub hx hb dJ5_ensureCapacityInternal_d00df_13 ?_
  have e1 : (nI k - nI L).toInt = (k : Int) - L := pk_sub_toInt (by omega) (by omega)
  refine lv_if_le (tgt := 38) hx hb dJ5_ensureCapacityInternal_d00df_14 (by decide) (fun c9 => ?_) (fun c9 => absurd (by rw [Int32.le_iff_toInt_le, e1, Int32.toInt_zero]; omega) c9)
  exact c_retv () trivial G hP hD hS (by decide) dJ5_ensureCapacityInternal_d00df_38
set_option maxHeartbeats 4000000 in
set_option maxRecDepth 100000 in
theorem mNL55 (l : Launch) (D : va_G) (cA : Nat → ClassId) (ad adF adW tt : Nat → Nat) (ST : gST) (hT : STE ad adF adW tt ST) (hW : STW adW tt ST) (hSQ : STQ ST) : gMetG l yJ8_newLength_cabcc cJ8_newLength_cabcc 4 (some .int) 1 0 0 D (TYS cA) ST ([]) [.int (nI 16), .int (nI 39), .int (nI 18)] (gGi D (TYS cA) (fun r (_ : Unit) => r = nI 55) (fun _ => [])) := by
  refine g_ofWG hT.1 (by decide +kernel) (Nat.le_of_ble_eq_true rfl) ?_
  intro p e s m args below meth c ls A G hP hD hl
  have G : GC p s m args meth c cJ8_newLength_cabcc 4 RJ8 (some .int) A D (TYS cA) ST := G
  have hx := G.1
  have hb := G.2.1
  have hS : va_S A s.heap s.heap [] := va_S.rf
  have hP : va_P D vwCl ([]) s.heap := hP
  have hD : va_D A ([]) := hD
  have hl : lv_has ls 4 [(0, .int (nI 16)), (1, .int (nI 39)), (2, .int (nI 18))] := hl
  refine lv_iload_n hx hb dJ8_newLength_cabcc_0 rfl (lv_at hl 0 rfl) ?_
  refine lv_iload_n hx hb dJ8_newLength_cabcc_1 rfl (lv_at hl 1 rfl) ?_
  refine lv_iload_n hx hb dJ8_newLength_cabcc_2 rfl (lv_at hl 2 rfl) ?_
  refine c_callSi (nA := 2) ([]) ([]) (mM_max l D cA ST hT.1 39 18 (by decide) (by decide)) G hP hD hS (List.Perm.of_eq rfl) (g_goodSX q6_18 q5_6 q1_28 q5_7) (by decide +kernel) ⟨Nat.le_of_ble_eq_true rfl, Nat.le_of_ble_eq_true rfl, Nat.le_of_ble_eq_true rfl, Nat.le_of_ble_eq_true rfl⟩ rfl hl.1 [.int (nI 16)] rfl (Nat.le_of_ble_eq_true rfl) dJ8_newLength_cabcc_3 (fun r b9 H locs hok hP hD hS => ?_)
  have hP : va_P D vwCl ([]) H := hP
  have hD : va_D A ([]) := hD
  have hok : r = nI 39 := hok
  subst hok
  refine lv_iadd hx hb dJ8_newLength_cabcc_6 ?_
  rw [show (nI 16) + (nI 39) = (nI 55) from by decide]
  refine lv_istore_n (lv' := [(3, .int (nI 55)), (0, .int (nI 16)), (1, .int (nI 39)), (2, .int (nI 18))]) hx hb dJ8_newLength_cabcc_7 rfl hl (by decide) rfl (fun ls hl => ?_)
  refine lv_iconst (v := 0) hx hb dJ8_newLength_cabcc_8 (by decide) ?_
  refine lv_iload_n hx hb dJ8_newLength_cabcc_9 rfl (lv_at hl 0 rfl) ?_
  refine lv_icmp_ge (tgt := 21) hx hb dJ8_newLength_cabcc_10 (by decide) (fun c9 => absurd c9 (by decide)) (fun c9 => ?_)
  refine lv_iload_n hx hb dJ8_newLength_cabcc_13 rfl (lv_at hl 0 rfl) ?_
  refine lv_ldc (v := 2147483639) hx hb G.2.2.2.1 (G.2.2.2.2.1 _ q6_19) dJ8_newLength_cabcc_14 ?_
  refine lv_icmp_gt (tgt := 21) hx hb dJ8_newLength_cabcc_16 (by decide) (fun c9 => absurd c9 (by decide)) (fun c9 => ?_)
  refine lv_iload_n hx hb dJ8_newLength_cabcc_19 rfl (lv_at hl 0 rfl) ?_
  exact c_reti (()) (rfl) (rfl) G hP hD hS (by decide) dJ8_newLength_cabcc_20
set_option maxHeartbeats 4000000 in
set_option maxRecDepth 100000 in
theorem mNC55 (l : Launch) (D : va_G) (cA : Nat → ClassId) (ad adF adW tt : Nat → Nat) (ST : gST) (hT : STE ad adF adW tt ST) (hW : STW adW tt ST) (hSQ : STQ ST) (z q n : Nat) (ml : Int32) (f : Nat → Int32) : gMetG l yJ5_newCapacity_0f7a4 cJ5_newCapacity_0f7a4 6 (some .int) 2 0 0 D (TYS cA) ST ([(z, .inr (1, [.ref q, .int 0, .int ml, .int (nI n)])), (q, .inl (cA 5, 16, .inl f))]) [.ref z, .int (nI 55)] (gGi D (TYS cA) (fun r (_ : Unit) => r = nI 55) (fun _ => [(z, .inr (1, [.ref q, .int 0, .int ml, .int (nI n)])), (q, .inl (cA 5, 16, .inl f))])) := by
  refine g_ofWG hT.1 (by decide +kernel) (Nat.le_of_ble_eq_true rfl) ?_
  intro p e s m args below meth c ls A G hP hD hl
  have G : GC p s m args meth c cJ5_newCapacity_0f7a4 6 RJ5 (some .int) A D (TYS cA) ST := G
  have hx := G.1
  have hb := G.2.1
  have hS : va_S A s.heap s.heap [] := va_S.rf
  have hP : va_P D vwCl ([(z, .inr (1, [.ref q, .int 0, .int ml, .int (nI n)])), (q, .inl (cA 5, 16, .inl f))]) s.heap := hP
  have hD : va_D A ([(z, .inr (1, [.ref q, .int 0, .int ml, .int (nI n)])), (q, .inl (cA 5, 16, .inl f))]) := hD
  have hl : lv_has ls 6 [(0, .ref z), (1, .int (nI 55))] := hl
  refine lv_aload_n hx hb dJ5_newCapacity_0f7a4_0 rfl (lv_at hl 0 rfl) ?_
  refine c_get (F := [(z, .inr (1, [.ref q, .int 0, .int ml, .int (nI n)])), (q, .inl (cA 5, 16, .inl f))]) (B := []) (C := RJ4) (T := TJ4) (M := 4) (ci := 1) G hP 0 0 i_J4 rfl rfl (by decide) q2_36 rfl dJ5_newCapacity_0f7a4_1 ?_
  refine va_alen (v := (nI 16)) hx hb G.2.2.2.2.2.2.2.2.1 hP 1 5 rfl rfl rfl dJ5_newCapacity_0f7a4_4 ?_
  refine lv_istore_n (lv' := [(2, .int (nI 16)), (0, .ref z), (1, .int (nI 55))]) hx hb dJ5_newCapacity_0f7a4_5 rfl hl (by decide) rfl (fun ls hl => ?_)
  refine lv_iload_n hx hb dJ5_newCapacity_0f7a4_6 rfl (lv_at hl 2 rfl) ?_
  refine lv_aload_n hx hb dJ5_newCapacity_0f7a4_7 rfl (lv_at hl 1 rfl) ?_
  refine c_get (F := [(z, .inr (1, [.ref q, .int 0, .int ml, .int (nI n)])), (q, .inl (cA 5, 16, .inl f))]) (B := []) (C := RJ4) (T := TJ4) (M := 4) (ci := 1) G hP 0 1 i_J4 rfl rfl (by decide) q2_37 rfl dJ5_newCapacity_0f7a4_8 ?_
  refine lv_ishl hx hb dJ5_newCapacity_0f7a4_11 ?_
  rw [show (nI 55) <<< (0 &&& 31) = (nI 55) from sb_shl0 _]
  refine lv_istore_n (lv' := [(3, .int (nI 55)), (2, .int (nI 16)), (0, .ref z), (1, .int (nI 55))]) hx hb dJ5_newCapacity_0f7a4_12 rfl hl (by decide) rfl (fun ls hl => ?_)
  refine lv_iload_n hx hb dJ5_newCapacity_0f7a4_13 rfl (lv_at hl 0 rfl) ?_
  refine lv_iload_n hx hb dJ5_newCapacity_0f7a4_14 rfl (lv_at hl 1 rfl) ?_
  refine lv_isub hx hb dJ5_newCapacity_0f7a4_15 ?_
  rw [show (nI 55) - (nI 16) = (nI 39) from by decide]
  refine lv_istore (lv' := [(4, .int (nI 39)), (3, .int (nI 55)), (2, .int (nI 16)), (0, .ref z), (1, .int (nI 55))]) hx hb dJ5_newCapacity_0f7a4_16 hl (by decide) rfl (fun ls hl => ?_)
  refine lv_iload_n hx hb dJ5_newCapacity_0f7a4_18 rfl (lv_at hl 2 rfl) ?_
  refine lv_iload hx hb dJ5_newCapacity_0f7a4_19 (lv_at hl 0 rfl) ?_
  refine lv_iload_n hx hb dJ5_newCapacity_0f7a4_21 rfl (lv_at hl 2 rfl) ?_
  refine lv_iconst (v := 2) hx hb dJ5_newCapacity_0f7a4_22 (by decide) ?_
  refine lv_aload_n hx hb dJ5_newCapacity_0f7a4_23 rfl (lv_at hl 3 rfl) ?_
  refine c_get (F := [(z, .inr (1, [.ref q, .int 0, .int ml, .int (nI n)])), (q, .inl (cA 5, 16, .inl f))]) (B := []) (C := RJ4) (T := TJ4) (M := 4) (ci := 1) G hP 0 1 i_J4 rfl rfl (by decide) q2_37 rfl dJ5_newCapacity_0f7a4_24 ?_
  refine lv_ishl hx hb dJ5_newCapacity_0f7a4_27 ?_
  rw [show (2 : Int32) <<< (0 &&& 31) = 2 from sb_shl0 _]
  refine lv_iadd hx hb dJ5_newCapacity_0f7a4_28 ?_
  rw [show (nI 16) + 2 = (nI 18) from by decide]
  refine c_callSi (nA := 3) ([(z, .inr (1, [.ref q, .int 0, .int ml, .int (nI n)])), (q, .inl (cA 5, 16, .inl f))]) ([]) (mNL55 l D cA ad adF adW tt ST hT hW hSQ) G hP hD hS (List.Perm.of_eq (List.append_nil _).symm) (g_goodSX q6_168 q6_16 q1_32 q6_17) (by decide +kernel) ⟨Nat.le_of_ble_eq_true rfl, Nat.le_of_ble_eq_true rfl, Nat.le_of_ble_eq_true rfl, Nat.le_of_ble_eq_true rfl⟩ rfl hl.1 [] rfl (Nat.le_of_ble_eq_true rfl) dJ5_newCapacity_0f7a4_29 (fun r b9 H locs hok hP hD hS => ?_)
  have hP : va_P D vwCl ([(z, .inr (1, [.ref q, .int 0, .int ml, .int (nI n)])), (q, .inl (cA 5, 16, .inl f))]) H := hP
  have hD : va_D A ([(z, .inr (1, [.ref q, .int 0, .int ml, .int (nI n)])), (q, .inl (cA 5, 16, .inl f))]) := hD
  have hok : r = nI 55 := hok
  subst hok
  refine lv_istore (lv' := [(5, .int (nI 55)), (4, .int (nI 39)), (3, .int (nI 55)), (2, .int (nI 16)), (0, .ref z), (1, .int (nI 55))]) hx hb dJ5_newCapacity_0f7a4_32 hl (by decide) rfl (fun ls hl => ?_)
  refine lv_iload hx hb dJ5_newCapacity_0f7a4_34 (lv_at hl 0 rfl) ?_
  refine lv_ldc (v := 2147483647) hx hb G.2.2.2.1 (G.2.2.2.2.1 _ q6_169) dJ5_newCapacity_0f7a4_36 ?_
  refine lv_icmp_ne (tgt := 51) hx hb dJ5_newCapacity_0f7a4_38 (by decide) (fun c9 => ?_) (fun c9 => absurd c9 (by decide))
  refine lv_iload hx hb dJ5_newCapacity_0f7a4_51 (lv_at hl 0 rfl) ?_
  refine lv_aload_n hx hb dJ5_newCapacity_0f7a4_53 rfl (lv_at hl 4 rfl) ?_
  refine c_get (F := [(z, .inr (1, [.ref q, .int 0, .int ml, .int (nI n)])), (q, .inl (cA 5, 16, .inl f))]) (B := []) (C := RJ4) (T := TJ4) (M := 4) (ci := 1) G hP 0 1 i_J4 rfl rfl (by decide) q2_37 rfl dJ5_newCapacity_0f7a4_54 ?_
  refine lv_ishr hx hb dJ5_newCapacity_0f7a4_57 ?_
  rw [show (nI 55) >>> (0 &&& 31) = (nI 55) from sb_shr0 _]
  exact c_reti (()) (rfl) (rfl) G hP hD hS (by decide) dJ5_newCapacity_0f7a4_58
set_option maxHeartbeats 4000000 in
set_option maxRecDepth 100000 in
theorem mCO55 (l : Launch) (D : va_G) (cA : Nat → ClassId) (ad adF adW tt : Nat → Nat) (ST : gST) (hT : STE ad adF adW tt ST) (hW : STW adW tt ST) (hSQ : STQ ST) (q : Nat) (f : Nat → Int32) (hf : sb_Fit f) : gMetG l yJ7_copyOf_9075b cJ7_copyOf_9075b 3 (some (.array .byte)) 3 1 55 D (TYS cA) ST ([(q, .inl (cA 5, 16, .inl f))]) [.ref q, .int (nI 55)] (gGr D (TYS cA) (fun _ : Nat => True) (fun q9 => q9) (fun q9 => [(q, .inl (cA 5, 16, .inl f)), (q9, .inl (cA 5, 55, .inl (va_cpy f (fun _ => 0) 0 0 16)))])) := by
  refine g_ofWG hT.1 (by decide +kernel) (Nat.le_of_ble_eq_true rfl) ?_
  intro p e s m args below meth c ls A G hP hD hl
  have G : GC p s m args meth c cJ7_copyOf_9075b 3 RJ7 (some (.array .byte)) A D (TYS cA) ST := G
  have hx := G.1
  have hb := G.2.1
  have hS : va_S A s.heap s.heap [] := va_S.rf
  have hP : va_P D vwCl ([(q, .inl (cA 5, 16, .inl f))]) s.heap := hP
  have hD : va_D A ([(q, .inl (cA 5, 16, .inl f))]) := hD
  have hl : lv_has ls 3 [(0, .ref q), (1, .int (nI 55))] := hl
  refine lv_iload_n hx hb dJ7_copyOf_9075b_0 rfl (lv_at hl 1 rfl) ?_
  refine lv_aload_n hx hb dJ7_copyOf_9075b_1 rfl (lv_at hl 0 rfl) ?_
  refine va_alen (v := (nI 16)) hx hb G.2.2.2.2.2.2.2.2.1 hP 0 5 rfl rfl rfl dJ7_copyOf_9075b_2 ?_
  refine lv_icmp_ne (tgt := 14) hx hb dJ7_copyOf_9075b_3 (by decide) (fun c9 => ?_) (fun c9 => absurd c9 (by decide))
  refine lv_iload_n hx hb dJ7_copyOf_9075b_14 rfl (lv_at hl 1 rfl) ?_
  refine c_newa (atype := .byte) (ty := .byte) (F := [(q, .inl (cA 5, 16, .inl f))]) (B := []) (N' := 55) 5 rfl (fun _ h => by cases h) G hP hD hS q2_49 rfl (55, .inl (fun _ => 0)) (fun _ => rfl) (by decide) rfl (by decide) (Nat.le_of_ble_eq_true rfl) (Nat.le_of_ble_eq_true rfl) dJ7_copyOf_9075b_15 (fun q9 H hP hD hS => ?_)
  have hP : va_P D vwCl ([(q, .inl (cA 5, 16, .inl f)), (q9, .inl (cA 5, 55, .inl (fun _ => 0)))]) H := hP
  have hD : va_D A ([(q, .inl (cA 5, 16, .inl f)), (q9, .inl (cA 5, 55, .inl (fun _ => 0)))]) := hD
  refine lv_astore_n (lv' := [(2, .ref q9), (0, .ref q), (1, .int (nI 55))]) hx hb dJ7_copyOf_9075b_17 rfl hl (by decide) rfl (fun ls hl => ?_)
  refine lv_aload_n hx hb dJ7_copyOf_9075b_18 rfl (lv_at hl 1 rfl) ?_
  refine lv_iconst (v := 0) hx hb dJ7_copyOf_9075b_19 (by decide) ?_
  refine lv_aload_n hx hb dJ7_copyOf_9075b_20 rfl (lv_at hl 0 rfl) ?_
  refine lv_iconst (v := 0) hx hb dJ7_copyOf_9075b_21 (by decide) ?_
  refine lv_aload_n hx hb dJ7_copyOf_9075b_22 rfl (lv_at hl 1 rfl) ?_
  refine va_alen (v := (nI 16)) hx hb G.2.2.2.2.2.2.2.2.1 hP 0 5 rfl rfl rfl dJ7_copyOf_9075b_23 ?_
  refine lv_iload_n hx hb dJ7_copyOf_9075b_24 rfl (lv_at hl 2 rfl) ?_
  refine c_callSi (nA := 2) ([(q, .inl (cA 5, 16, .inl f)), (q9, .inl (cA 5, 55, .inl (fun _ => 0)))]) ([]) (mM_min l D cA ST hT.1 16 55 (by decide) (by decide)) G hP hD hS (List.Perm.of_eq (List.append_nil _).symm) (g_goodSX q6_58 q3_36 q1_28 q3_37) (by decide +kernel) ⟨Nat.le_of_ble_eq_true rfl, Nat.le_of_ble_eq_true rfl, Nat.le_of_ble_eq_true rfl, Nat.le_of_ble_eq_true rfl⟩ rfl hl.1 [.int 0, .ref q9, .int 0, .ref q] rfl (Nat.le_of_ble_eq_true rfl) dJ7_copyOf_9075b_25 (fun r b9 H locs hok hP hD hS => ?_)
  have hP : va_P D vwCl ([(q, .inl (cA 5, 16, .inl f)), (q9, .inl (cA 5, 55, .inl (fun _ => 0)))]) H := hP
  have hD : va_D A ([(q, .inl (cA 5, 16, .inl f)), (q9, .inl (cA 5, 55, .inl (fun _ => 0)))]) := hD
  have hok : r = nI 16 := hok
  subst hok
  have hw9 : nativeFrameWords "java/lang/System" "arraycopy" 5 ≤ 60 := by decide +kernel
  refine va_copyi hx hb (G.2.2.1.trans hl.1.symm) G.2.2.2.1 (G.2.2.2.2.1 _ q6_59) (G.2.2.2.2.1 _ q3_20) (G.2.2.2.2.1 _ q3_19) (G.2.2.2.2.1 _ q1_27) G.2.2.2.2.2.2.2.2.1 hP hD hS 0 1 5 5 rfl rfl rfl rfl rfl (by decide) (by decide) (by decide) (by decide) (by decide) (fun i _ => hf _) (by decide) (by show _ ≤ 40 * 3; simp only [List.map_nil, List.sum_nil]; omega) dJ7_copyOf_9075b_28 (fun H locs hP hD hS => ?_)
  have hP : va_P D vwCl ([(q, .inl (cA 5, 16, .inl f)), (q9, .inl (cA 5, 55, .inl (va_cpy f (fun _ => 0) 0 0 16)))]) H := hP
  have hD : va_D A ([(q, .inl (cA 5, 16, .inl f)), (q9, .inl (cA 5, 55, .inl (va_cpy f (fun _ => 0) 0 0 16)))]) := hD
  refine lv_aload_n hx hb dJ7_copyOf_9075b_31 rfl (lv_at hl 0 rfl) ?_
  exact c_reta q9 trivial rfl (Or.inr ⟨_, rfl⟩) G hP hD hS (by decide) dJ7_copyOf_9075b_32
set_option maxHeartbeats 4000000 in
set_option maxRecDepth 100000 in
theorem mEC1 (l : Launch) (D : va_G) (cA : Nat → ClassId) (ad adF adW tt : Nat → Nat) (ST : gST) (hT : STE ad adF adW tt ST) (hW : STW adW tt ST) (hSQ : STQ ST) (z q n : Nat) (ml : Int32) (f : Nat → Int32) (hf : sb_Fit f) : gMetG l yJ5_ensureCapacityInternal_d00df cJ5_ensureCapacityInternal_d00df 3 none 4 1 55 D (TYS cA) ST ([(z, .inr (1, [.ref q, .int 0, .int ml, .int (nI n)])), (q, .inl (cA 5, 16, .inl f))]) [.ref z, .int (nI 55)] (gGv D (TYS cA) (fun _ : Nat => True) (fun q9 => [(z, .inr (1, [.ref q9, .int 0, .int ml, .int (nI n)])), (q9, .inl (cA 5, 55, .inl (va_cpy f (fun _ => 0) 0 0 16)))])) := by
  refine g_ofWG hT.1 (by decide +kernel) (Nat.le_of_ble_eq_true rfl) ?_
  intro p e s m args below meth c ls A G hP hD hl
  have G : GC p s m args meth c cJ5_ensureCapacityInternal_d00df 3 RJ5 none A D (TYS cA) ST := G
  have hx := G.1
  have hb := G.2.1
  have hS : va_S A s.heap s.heap [] := va_S.rf
  have hP : va_P D vwCl ([(z, .inr (1, [.ref q, .int 0, .int ml, .int (nI n)])), (q, .inl (cA 5, 16, .inl f))]) s.heap := hP
  have hD : va_D A ([(z, .inr (1, [.ref q, .int 0, .int ml, .int (nI n)])), (q, .inl (cA 5, 16, .inl f))]) := hD
  have hl : lv_has ls 3 [(0, .ref z), (1, .int (nI 55))] := hl
  refine lv_aload_n hx hb dJ5_ensureCapacityInternal_d00df_0 rfl (lv_at hl 0 rfl) ?_
  refine c_get (F := [(z, .inr (1, [.ref q, .int 0, .int ml, .int (nI n)])), (q, .inl (cA 5, 16, .inl f))]) (B := []) (C := RJ4) (T := TJ4) (M := 4) (ci := 1) G hP 0 0 i_J4 rfl rfl (by decide) q2_36 rfl dJ5_ensureCapacityInternal_d00df_1 ?_
  refine va_alen (v := (nI 16)) hx hb G.2.2.2.2.2.2.2.2.1 hP 1 5 rfl rfl rfl dJ5_ensureCapacityInternal_d00df_4 ?_
  refine lv_aload_n hx hb dJ5_ensureCapacityInternal_d00df_5 rfl (lv_at hl 0 rfl) ?_
  refine c_get (F := [(z, .inr (1, [.ref q, .int 0, .int ml, .int (nI n)])), (q, .inl (cA 5, 16, .inl f))]) (B := []) (C := RJ4) (T := TJ4) (M := 4) (ci := 1) G hP 0 1 i_J4 rfl rfl (by decide) q2_37 rfl dJ5_ensureCapacityInternal_d00df_6 ?_
  refine lv_ishr hx hb dJ5_ensureCapacityInternal_d00df_9 ?_
  rw [show (nI 16) >>> (0 &&& 31) = (nI 16) from sb_shr0 _]
  refine lv_istore_n (lv' := [(2, .int (nI 16)), (0, .ref z), (1, .int (nI 55))]) hx hb dJ5_ensureCapacityInternal_d00df_10 rfl hl (by decide) rfl (fun ls hl => ?_)
  refine lv_iload_n hx hb dJ5_ensureCapacityInternal_d00df_11 rfl (lv_at hl 2 rfl) ?_
  refine lv_iload_n hx hb dJ5_ensureCapacityInternal_d00df_12 rfl (lv_at hl 0 rfl) ?_
  refine lv_isub hx hb dJ5_ensureCapacityInternal_d00df_13 ?_
  refine lv_if_le (tgt := 38) hx hb dJ5_ensureCapacityInternal_d00df_14 (by decide) (fun c9 => absurd c9 (by decide)) (fun c9 => ?_)
  refine lv_aload_n hx hb dJ5_ensureCapacityInternal_d00df_17 rfl (lv_at hl 1 rfl) ?_
  refine lv_aload_n hx hb dJ5_ensureCapacityInternal_d00df_18 rfl (lv_at hl 1 rfl) ?_
  refine c_get (F := [(z, .inr (1, [.ref q, .int 0, .int ml, .int (nI n)])), (q, .inl (cA 5, 16, .inl f))]) (B := []) (C := RJ4) (T := TJ4) (M := 4) (ci := 1) G hP 0 0 i_J4 rfl rfl (by decide) q2_36 rfl dJ5_ensureCapacityInternal_d00df_19 ?_
  refine lv_aload_n hx hb dJ5_ensureCapacityInternal_d00df_22 rfl (lv_at hl 1 rfl) ?_
  refine lv_iload_n hx hb dJ5_ensureCapacityInternal_d00df_23 rfl (lv_at hl 2 rfl) ?_
  refine c_callPi (nA := 1) (x := ⟨RJ5, "newCapacity", "(I)I"⟩) (owner := RJ5) (C := RJ4) (T := TJ4) (M := 4) (ci := 1) ([]) ([(z, .inr (1, [.ref q, .int 0, .int ml, .int (nI n)])), (q, .inl (cA 5, 16, .inl f))]) 0 rfl rfl (mNC55 l D cA ad adF adW tt ST hT hW hSQ z q n ml f) G hP hD hS (List.Perm.of_eq rfl) (g_goodP q6_164 q7_101 rfl q6_166 q1_12 q6_167) rfl (hSQ _ _ G.2.2.2.2.2.2.2.2.2.2.1 args yJ5_newCapacity_0f7a4 (List.mem_of_getElem? (i := 0) rfl)) (by decide +kernel) ⟨Nat.le_of_ble_eq_true rfl, Nat.le_of_ble_eq_true rfl, Nat.le_of_ble_eq_true rfl, Nat.le_of_ble_eq_true rfl⟩ rfl hl.1 [.ref q, .ref z] rfl (Nat.le_of_ble_eq_true rfl) dJ5_ensureCapacityInternal_d00df_24 (fun r b9 H locs hok hP hD hS => ?_)
  have hP : va_P D vwCl ([(z, .inr (1, [.ref q, .int 0, .int ml, .int (nI n)])), (q, .inl (cA 5, 16, .inl f))]) H := hP
  have hD : va_D A ([(z, .inr (1, [.ref q, .int 0, .int ml, .int (nI n)])), (q, .inl (cA 5, 16, .inl f))]) := hD
  have hok : r = nI 55 := hok
  subst hok
  refine lv_aload_n hx hb dJ5_ensureCapacityInternal_d00df_27 rfl (lv_at hl 1 rfl) ?_
  refine c_get (F := [(z, .inr (1, [.ref q, .int 0, .int ml, .int (nI n)])), (q, .inl (cA 5, 16, .inl f))]) (B := []) (C := RJ4) (T := TJ4) (M := 4) (ci := 1) G hP 0 1 i_J4 rfl rfl (by decide) q2_37 rfl dJ5_ensureCapacityInternal_d00df_28 ?_
  refine lv_ishl hx hb dJ5_ensureCapacityInternal_d00df_31 ?_
  rw [show (nI 55) <<< (0 &&& 31) = (nI 55) from sb_shl0 _]
  refine c_callSr (nA := 2) ([(z, .inr (1, [.ref q, .int 0, .int ml, .int (nI n)]))]) ([(q, .inl (cA 5, 16, .inl f))]) (mCO55 l D cA ad adF adW tt ST hT hW hSQ q f hf) G hP hD hS (List.Perm.of_eq rfl) (g_goodSX q6_170 q6_171 q1_33 q6_172) (by decide +kernel) ⟨Nat.le_of_ble_eq_true rfl, Nat.le_of_ble_eq_true rfl, Nat.le_of_ble_eq_true rfl, Nat.le_of_ble_eq_true rfl⟩ rfl hl.1 [.ref z] rfl (Nat.le_of_ble_eq_true rfl) dJ5_ensureCapacityInternal_d00df_32 (fun q9 H locs hok hP hD hS => ?_)
  have hP : va_P D vwCl ([(z, .inr (1, [.ref q, .int 0, .int ml, .int (nI n)])), (q, .inl (cA 5, 16, .inl f)), (q9, .inl (cA 5, 55, .inl (va_cpy f (fun _ => 0) 0 0 16)))]) H := hP
  have hD : va_D A ([(z, .inr (1, [.ref q, .int 0, .int ml, .int (nI n)])), (q, .inl (cA 5, 16, .inl f)), (q9, .inl (cA 5, 55, .inl (va_cpy f (fun _ => 0) 0 0 16)))]) := hD
  refine c_putJ (F := [(z, .inr (1, [.ref q, .int 0, .int ml, .int (nI n)])), (q, .inl (cA 5, 16, .inl f)), (q9, .inl (cA 5, 55, .inl (va_cpy f (fun _ => 0) 0 0 16)))]) (B := []) (C := RJ4) (T := TJ4) (M := 4) (ci := 1) (v := .ref q9) G hP hD hS 0 0 i_J4 rfl tyJ4 tyJ4_ok nmJ4 rfl (by decide) q2_36 rfl rfl rfl (Nat.le_of_ble_eq_true rfl) dJ5_ensureCapacityInternal_d00df_35 (fun H locs hP hD hS => ?_)
  have hP : va_P D vwCl ([(z, .inr (1, [.ref q9, .int 0, .int ml, .int (nI n)])), (q, .inl (cA 5, 16, .inl f)), (q9, .inl (cA 5, 55, .inl (va_cpy f (fun _ => 0) 0 0 16)))]) H := hP
  have hD : va_D A ([(z, .inr (1, [.ref q9, .int 0, .int ml, .int (nI n)])), (q, .inl (cA 5, 16, .inl f)), (q9, .inl (cA 5, 55, .inl (va_cpy f (fun _ => 0) 0 0 16)))]) := hD
  refine c_retv q9 trivial G (va_P_sl ?_ hP) (va_D_sl ?_ hD) hS (by decide) dJ5_ensureCapacityInternal_d00df_38
  · exact List.Sublist.cons₂ _ (List.Sublist.cons _ (List.Sublist.refl _))
  · exact List.Sublist.cons₂ _ (List.Sublist.cons _ (List.Sublist.refl _))
set_option maxHeartbeats 4000000 in
set_option maxRecDepth 100000 in
theorem mJ5_appI (l : Launch) (D : va_G) (cA : Nat → ClassId) (ad adF adW tt : Nat → Nat) (ST : gST) (hT : STE ad adF adW tt ST) (hW : STW adW tt ST) (hSQ : STQ ST) (hSD : STD tt ST) (z q n L : Nat) (ml : Int32) (f : Nat → Int32) (v : Nat) (hv : v < 2 ^ 31) (hn1 : n + sb_dg v ≤ L) (hL : L ≤ 34) : gMetG l yJ5_append_c97b9 cJ5_append_c97b9 4 (some (.object "java/lang/AbstractStringBuilder")) 5 0 0 D (TYS cA) ST ([(z, .inr (1, [.ref q, .int 0, .int ml, .int (nI n)])), (q, .inl (cA 5, L, .inl f))]) [.ref z, .int (nI v)] (gGr D (TYS cA) (fun a9 : Nat → Int32 => (∀ j, j < n ∨ n + sb_dg v ≤ j → a9 j = f j) ∧ (∀ i, i < sb_dg v → a9 (n + sb_dg v - 1 - i) = sb_b (48 + v / 10 ^ i % 10)) ∧ (sb_Fit f → sb_Fit a9)) (fun _ => z) (fun a9 => [(z, .inr (1, [.ref q, .int 0, .int ml, .int (nI (n + sb_dg v))])), (q, .inl (cA 5, L, .inl a9))])) := by
  refine g_ofWG hT.1 (by decide +kernel) (Nat.le_of_ble_eq_true rfl) ?_
  intro p e s m args below meth c ls A G hP hD hl
  have G : GC p s m args meth c cJ5_append_c97b9 4 RJ5 (some (.object "java/lang/AbstractStringBuilder")) A D (TYS cA) ST := G
  have hx := G.1
  have hb := G.2.1
  have hS : va_S A s.heap s.heap [] := va_S.rf
  have hP : va_P D vwCl ([(z, .inr (1, [.ref q, .int 0, .int ml, .int (nI n)])), (q, .inl (cA 5, L, .inl f))]) s.heap := hP
  have hD : va_D A ([(z, .inr (1, [.ref q, .int 0, .int ml, .int (nI n)])), (q, .inl (cA 5, L, .inl f))]) := hD
  have hl : lv_has ls 4 [(0, .ref z), (1, .int (nI v))] := hl
  have hdg := sb_dg_in v
  refine lv_aload_n hx hb dJ5_append_c97b9_0 rfl (lv_at hl 0 rfl) ?_
  refine c_get (F := [(z, .inr (1, [.ref q, .int 0, .int ml, .int (nI n)])), (q, .inl (cA 5, L, .inl f))]) (B := []) (C := RJ4) (T := TJ4) (M := 4) (ci := 1) G hP 0 3 i_J4 rfl rfl (by decide) q2_39 rfl dJ5_append_c97b9_1 ?_
  refine lv_istore_n (lv' := [(2, .int (nI n)), (0, .ref z), (1, .int (nI v))]) hx hb dJ5_append_c97b9_4 rfl hl (by decide) rfl (fun ls hl => ?_)
  refine lv_iload_n hx hb dJ5_append_c97b9_5 rfl (lv_at hl 0 rfl) ?_
  refine lv_iload_n hx hb dJ5_append_c97b9_6 rfl (lv_at hl 2 rfl) ?_
  refine c_callSi (nA := 1) ([(z, .inr (1, [.ref q, .int 0, .int ml, .int (nI n)])), (q, .inl (cA 5, L, .inl f))]) ([]) (mJ6_stringSize_0f7a4 l D cA ad adF adW tt ST hT hW hSQ v hv) G hP hD hS (List.Perm.of_eq (List.append_nil _).symm) (g_goodSX q7_2 q7_3 q1_38 q7_4) (by decide +kernel) ⟨Nat.le_of_ble_eq_true rfl, Nat.le_of_ble_eq_true rfl, Nat.le_of_ble_eq_true rfl, Nat.le_of_ble_eq_true rfl⟩ rfl hl.1 [.int (nI n)] rfl (Nat.le_of_ble_eq_true rfl) dJ5_append_c97b9_7 (fun r b9 H locs hok hP hD hS => ?_)
  have hP : va_P D vwCl ([(z, .inr (1, [.ref q, .int 0, .int ml, .int (nI n)])), (q, .inl (cA 5, L, .inl f))]) H := hP
  have hD : va_D A ([(z, .inr (1, [.ref q, .int 0, .int ml, .int (nI n)])), (q, .inl (cA 5, L, .inl f))]) := hD
  subst hok
  refine lv_iadd hx hb dJ5_append_c97b9_10 ?_
  rw [show (nI n) + (nI (sb_dg v)) = (nI (n + sb_dg v)) from nI_add n _]
  refine lv_istore_n (lv' := [(3, .int (nI (n + sb_dg v))), (2, .int (nI n)), (0, .ref z), (1, .int (nI v))]) hx hb dJ5_append_c97b9_11 rfl hl (by decide) rfl (fun ls hl => ?_)
  refine lv_aload_n hx hb dJ5_append_c97b9_12 rfl (lv_at hl 2 rfl) ?_
  refine lv_iload_n hx hb dJ5_append_c97b9_13 rfl (lv_at hl 0 rfl) ?_
  refine c_callPv (nA := 1) (x := ⟨RJ5, "ensureCapacityInternal", "(I)V"⟩) (owner := RJ5) (C := RJ4) (T := TJ4) (M := 4) (ci := 1) ([]) ([(z, .inr (1, [.ref q, .int 0, .int ml, .int (nI n)])), (q, .inl (cA 5, L, .inl f))]) 0 rfl rfl (mEC0 l D cA ad adF adW tt ST hT hW hSQ z q n L ml f (n + sb_dg v) hn1 (by omega)) G hP hD hS (List.Perm.of_eq rfl) (g_goodP q6_160 q7_100 rfl q6_162 q1_12 q6_163) rfl (hSQ _ _ G.2.2.2.2.2.2.2.2.2.2.1 args yJ5_ensureCapacityInternal_d00df (List.mem_of_getElem? (i := 1) rfl)) (by decide +kernel) ⟨Nat.le_of_ble_eq_true rfl, Nat.le_of_ble_eq_true rfl, Nat.le_of_ble_eq_true rfl, Nat.le_of_ble_eq_true rfl⟩ rfl hl.1 [] rfl (Nat.le_of_ble_eq_true rfl) dJ5_append_c97b9_14 (fun b1 H locs hok hP hD hS => ?_)
  have hP : va_P D vwCl ([(z, .inr (1, [.ref q, .int 0, .int ml, .int (nI n)])), (q, .inl (cA 5, L, .inl f))]) H := hP
  have hD : va_D A ([(z, .inr (1, [.ref q, .int 0, .int ml, .int (nI n)])), (q, .inl (cA 5, L, .inl f))]) := hD
  refine lv_aload_n hx hb dJ5_append_c97b9_17 rfl (lv_at hl 2 rfl) ?_
  refine c_callUi (nA := 0) (x := ⟨RJ5, "isLatin1", "()Z"⟩) (owner := RJ5) (C := RJ4) (T := TJ4) (M := 4) (ci := 1) ([]) ([(z, .inr (1, [.ref q, .int 0, .int ml, .int (nI n)])), (q, .inl (cA 5, L, .inl f))]) 0 rfl rfl (mJ5_isLatin1_aae02 l D cA ad adF adW tt ST hT hW hSQ z q n L ml f) G hP hD hS (List.Perm.of_eq rfl) (g_goodU q6_180 q6_182 q6_183 q6_181 q1_12 q6_184) rfl (by decide +kernel) ⟨Nat.le_of_ble_eq_true rfl, Nat.le_of_ble_eq_true rfl, Nat.le_of_ble_eq_true rfl, Nat.le_of_ble_eq_true rfl⟩ rfl hl.1 [] rfl (Nat.le_of_ble_eq_true rfl) dJ5_append_c97b9_18 (fun r b9 H locs hok hP hD hS => ?_)
  have hP : va_P D vwCl ([(z, .inr (1, [.ref q, .int 0, .int ml, .int (nI n)])), (q, .inl (cA 5, L, .inl f))]) H := hP
  have hD : va_D A ([(z, .inr (1, [.ref q, .int 0, .int ml, .int (nI n)])), (q, .inl (cA 5, L, .inl f))]) := hD
  subst hok
  refine lv_if_eq (tgt := 37) hx hb dJ5_append_c97b9_21 (by decide) (fun c9 => absurd c9 (by decide)) (fun c9 => ?_)
  refine lv_iload_n hx hb dJ5_append_c97b9_24 rfl (lv_at hl 3 rfl) ?_
  refine lv_iload_n hx hb dJ5_append_c97b9_25 rfl (lv_at hl 0 rfl) ?_
  refine lv_aload_n hx hb dJ5_append_c97b9_26 rfl (lv_at hl 2 rfl) ?_
  refine c_get (F := [(z, .inr (1, [.ref q, .int 0, .int ml, .int (nI n)])), (q, .inl (cA 5, L, .inl f))]) (B := []) (C := RJ4) (T := TJ4) (M := 4) (ci := 1) G hP 0 0 i_J4 rfl rfl (by decide) q2_36 rfl dJ5_append_c97b9_27 ?_
  refine c_callSi (nA := 3) ([(z, .inr (1, [.ref q, .int 0, .int ml, .int (nI n)]))]) ([(q, .inl (cA 5, L, .inl f))]) (mJ6_getChars_ba4f3 l D cA ad adF adW tt ST hT hW hSQ hSD q L n v f hv hn1 hL) G hP hD hS (List.Perm.of_eq rfl) (g_goodSX q7_5 q7_6 q1_38 q7_7) (by decide +kernel) ⟨Nat.le_of_ble_eq_true rfl, Nat.le_of_ble_eq_true rfl, Nat.le_of_ble_eq_true rfl, Nat.le_of_ble_eq_true rfl⟩ rfl hl.1 [] rfl (Nat.le_of_ble_eq_true rfl) dJ5_append_c97b9_30 (fun r a9 H locs hok hP hD hS => ?_)
  have hP : va_P D vwCl ([(z, .inr (1, [.ref q, .int 0, .int ml, .int (nI n)])), (q, .inl (cA 5, L, .inl a9))]) H := hP
  have hD : va_D A ([(z, .inr (1, [.ref q, .int 0, .int ml, .int (nI n)])), (q, .inl (cA 5, L, .inl a9))]) := hD
  refine lv_pop hx hb dJ5_append_c97b9_33 rfl ?_
  refine lv_goto (tgt := 48) hx hb dJ5_append_c97b9_34 (by decide) ?_
  refine lv_aload_n hx hb dJ5_append_c97b9_48 rfl (lv_at hl 2 rfl) ?_
  refine lv_iload_n hx hb dJ5_append_c97b9_49 rfl (lv_at hl 0 rfl) ?_
  refine c_putJ (F := [(z, .inr (1, [.ref q, .int 0, .int ml, .int (nI n)])), (q, .inl (cA 5, L, .inl a9))]) (B := []) (C := RJ4) (T := TJ4) (M := 4) (ci := 1) (v := .int (nI (n + sb_dg v))) G hP hD hS 0 3 i_J4 rfl tyJ4 tyJ4_ok nmJ4 rfl (by decide) q2_39 rfl rfl rfl (Nat.le_of_ble_eq_true rfl) dJ5_append_c97b9_50 (fun H locs hP hD hS => ?_)
  have hP : va_P D vwCl ([(z, .inr (1, [.ref q, .int 0, .int ml, .int (nI (n + sb_dg v))])), (q, .inl (cA 5, L, .inl a9))]) H := hP
  have hD : va_D A ([(z, .inr (1, [.ref q, .int 0, .int ml, .int (nI (n + sb_dg v))])), (q, .inl (cA 5, L, .inl a9))]) := hD
  refine lv_aload_n hx hb dJ5_append_c97b9_53 rfl (lv_at hl 2 rfl) ?_
  exact c_reta a9 hok rfl (Or.inl ⟨_, rfl⟩) G hP hD hS (by decide) dJ5_append_c97b9_54
set_option maxHeartbeats 4000000 in
set_option maxRecDepth 100000 in
theorem mJ4_appI (l : Launch) (D : va_G) (cA : Nat → ClassId) (ad adF adW tt : Nat → Nat) (ST : gST) (hT : STE ad adF adW tt ST) (hW : STW adW tt ST) (hSQ : STQ ST) (hSD : STD tt ST) (z q n L : Nat) (ml : Int32) (f : Nat → Int32) (v : Nat) (hv : v < 2 ^ 31) (hn1 : n + sb_dg v ≤ L) (hL : L ≤ 34) : gMetG l yJ4_append_bf812 cJ4_append_bf812 2 (some (.object "java/lang/StringBuilder")) 6 0 0 D (TYS cA) ST ([(z, .inr (1, [.ref q, .int 0, .int ml, .int (nI n)])), (q, .inl (cA 5, L, .inl f))]) [.ref z, .int (nI v)] (gGr D (TYS cA) (fun a9 : Nat → Int32 => (∀ j, j < n ∨ n + sb_dg v ≤ j → a9 j = f j) ∧ (∀ i, i < sb_dg v → a9 (n + sb_dg v - 1 - i) = sb_b (48 + v / 10 ^ i % 10)) ∧ (sb_Fit f → sb_Fit a9)) (fun _ => z) (fun a9 => [(z, .inr (1, [.ref q, .int 0, .int ml, .int (nI (n + sb_dg v))])), (q, .inl (cA 5, L, .inl a9))])) := by
  refine g_ofWG hT.1 (by decide +kernel) (Nat.le_of_ble_eq_true rfl) ?_
  intro p e s m args below meth c ls A G hP hD hl
  have G : GC p s m args meth c cJ4_append_bf812 2 RJ4 (some (.object "java/lang/StringBuilder")) A D (TYS cA) ST := G
  have hx := G.1
  have hb := G.2.1
  have hS : va_S A s.heap s.heap [] := va_S.rf
  have hP : va_P D vwCl ([(z, .inr (1, [.ref q, .int 0, .int ml, .int (nI n)])), (q, .inl (cA 5, L, .inl f))]) s.heap := hP
  have hD : va_D A ([(z, .inr (1, [.ref q, .int 0, .int ml, .int (nI n)])), (q, .inl (cA 5, L, .inl f))]) := hD
  have hl : lv_has ls 2 [(0, .ref z), (1, .int (nI v))] := hl
  refine lv_aload_n hx hb dJ4_append_bf812_0 rfl (lv_at hl 0 rfl) ?_
  refine lv_iload_n hx hb dJ4_append_bf812_1 rfl (lv_at hl 1 rfl) ?_
  refine c_callSUr (nA := 1) (C := RJ4) (T := TJ4) (M := 4) (ci := 1) ([]) ([(z, .inr (1, [.ref q, .int 0, .int ml, .int (nI n)])), (q, .inl (cA 5, L, .inl f))]) 0 rfl rfl (mJ5_appI l D cA ad adF adW tt ST hT hW hSQ hSD z q n L ml f v hv hn1 hL) G hP hD hS (List.Perm.of_eq rfl) (g_goodSU q6_239 q7_105 q2_48 q7_0 q1_12 q7_1) (by decide +kernel) ⟨Nat.le_of_ble_eq_true rfl, Nat.le_of_ble_eq_true rfl, Nat.le_of_ble_eq_true rfl, Nat.le_of_ble_eq_true rfl⟩ rfl hl.1 [] rfl (Nat.le_of_ble_eq_true rfl) dJ4_append_bf812_2 (fun a9 H locs hok hP hD hS => ?_)
  have hP : va_P D vwCl ([(z, .inr (1, [.ref q, .int 0, .int ml, .int (nI (n + sb_dg v))])), (q, .inl (cA 5, L, .inl a9))]) H := hP
  have hD : va_D A ([(z, .inr (1, [.ref q, .int 0, .int ml, .int (nI (n + sb_dg v))])), (q, .inl (cA 5, L, .inl a9))]) := hD
  refine lv_pop hx hb dJ4_append_bf812_5 rfl ?_
  refine lv_aload_n hx hb dJ4_append_bf812_6 rfl (lv_at hl 0 rfl) ?_
  exact c_reta a9 hok rfl (Or.inl ⟨_, rfl⟩) G hP hD hS (by decide) dJ4_append_bf812_7
set_option maxHeartbeats 4000000 in
set_option maxRecDepth 100000 in
theorem mK_coder (l : Launch) (D : va_G) (cA : Nat → ClassId) (ad adF adW tt : Nat → Nat) (ST : gST) (hT : STE ad adF adW tt ST) (hW : STW adW tt ST) (hSQ : STQ ST) (adV tv : Nat → Nat) (hV : STV adV tv ST) (k : Nat) (hk : k < 16) : gMetG l yJ0_coder_7d493 cJ0_coder_7d493 1 (some .byte) 0 0 0 D (TYS cA) ST ([]) [.ref (adV k)] (gGi D (TYS cA) (fun r (_ : Unit) => r = 0) (fun _ => [])) := by
  refine g_ofWG hT.1 (by decide +kernel) (Nat.le_of_ble_eq_true rfl) ?_
  intro p e s m args below meth c ls A G hP hD hl
  have G : GC p s m args meth c cJ0_coder_7d493 1 RJ0 (some .byte) A D (TYS cA) ST := G
  have hx := G.1
  have hb := G.2.1
  have hS : va_S A s.heap s.heap [] := va_S.rf
  have hP : va_P D vwCl ([]) s.heap := hP
  have hD : va_D A ([]) := hD
  have hl : lv_has ls 1 [(0, .ref (adV k))] := hl
  refine va_gets hx hb (hW _ _ G.2.2.2.2.2.2.2.2.2.2.1).1 hS G.2.2.2.1 (G.2.2.2.2.1 _ q4_206) (fun _ h9 => h9) dJ0_coder_7d493_0 ?_
  refine lv_if_eq (tgt := 13) hx hb dJ0_coder_7d493_3 (by decide) (fun c9 => absurd c9 (by decide)) (fun c9 => ?_)
  refine lv_aload_n hx hb dJ0_coder_7d493_6 rfl (lv_at hl 0 rfl) ?_
  refine vk_getf hx hb ((hV _ _ G.2.2.2.2.2.2.2.2.2.2.1).1 k hk).2.1 hS G.2.2.2.1 (G.2.2.2.2.1 _ q7_74) (fun _ h9 => h9) dJ0_coder_7d493_7 ?_
  refine lv_goto (tgt := 14) hx hb dJ0_coder_7d493_10 (by decide) ?_
  exact c_reti (()) (rfl) (rfl) G hP hD hS (by decide) dJ0_coder_7d493_14
set_option maxHeartbeats 4000000 in
set_option maxRecDepth 100000 in
theorem mK_length (l : Launch) (D : va_G) (cA : Nat → ClassId) (ad adF adW tt : Nat → Nat) (ST : gST) (hT : STE ad adF adW tt ST) (hW : STW adW tt ST) (hSQ : STQ ST) (adV tv : Nat → Nat) (hV : STV adV tv ST) (k : Nat) (hk : k < 16) : gMetG l yJ0_length_8abf5 cJ0_length_8abf5 1 (some .int) 1 0 0 D (TYS cA) ST ([]) [.ref (adV k)] (gGi D (TYS cA) (fun r (_ : Unit) => r = nI (vLen.getD k 0)) (fun _ => [])) := by
  refine g_ofWG hT.1 (by decide +kernel) (Nat.le_of_ble_eq_true rfl) ?_
  intro p e s m args below meth c ls A G hP hD hl
  have G : GC p s m args meth c cJ0_length_8abf5 1 RJ0 (some .int) A D (TYS cA) ST := G
  have hx := G.1
  have hb := G.2.1
  have hS : va_S A s.heap s.heap [] := va_S.rf
  have hP : va_P D vwCl ([]) s.heap := hP
  have hD : va_D A ([]) := hD
  have hl : lv_has ls 1 [(0, .ref (adV k))] := hl
  refine lv_aload_n hx hb dJ0_length_8abf5_0 rfl (lv_at hl 0 rfl) ?_
  refine vk_getf hx hb ((hV _ _ G.2.2.2.2.2.2.2.2.2.2.1).1 k hk).2.2.1 hS G.2.2.2.1 (G.2.2.2.2.1 _ q7_73) (fun _ h9 => h9) dJ0_length_8abf5_1 ?_
  refine va_tlen (v := nI (vLen.getD k 0)) hx hb ((hV _ _ G.2.2.2.2.2.2.2.2.2.2.1).1 k hk).2.2.2 hS rfl dJ0_length_8abf5_4 ?_
  refine lv_aload_n hx hb dJ0_length_8abf5_5 rfl (lv_at hl 0 rfl) ?_
  refine c_callKi (nA := 0) ([]) (([] : va_W)) (mK_coder l D cA ad adF adW tt ST hT hW hSQ adV tv hV k hk) G hP hD hS (List.Perm.of_eq (List.append_nil _).symm) (vk_recv (hV _ _ G.2.2.2.2.2.2.2.2.2.2.1) hk hS) (g_good q4_202 q4_203 q4_204 q1_14 q4_205) (by decide +kernel) ⟨Nat.le_of_ble_eq_true rfl, Nat.le_of_ble_eq_true rfl, Nat.le_of_ble_eq_true rfl, Nat.le_of_ble_eq_true rfl⟩ rfl hl.1 [.int (nI (vLen.getD k 0))] rfl (Nat.le_of_ble_eq_true rfl) dJ0_length_8abf5_6 (fun r b9 H locs hok hP hD hS => ?_)
  have hP : va_P D vwCl ([]) H := hP
  have hD : va_D A ([]) := hD
  have hok : r = 0 := hok
  subst hok
  refine lv_ishr hx hb dJ0_length_8abf5_9 ?_
  rw [show (nI (vLen.getD k 0)) >>> (0 &&& 31) = (nI (vLen.getD k 0)) from sb_shr0 _]
  exact c_reti (()) (rfl) (rfl) G hP hD hS (by decide) dJ0_length_8abf5_10
theorem v_fit (k j : Nat) : fits .byte (.int ((vByt.getD k []).getD j 0)) = true := by
  have h : vByt.all (fun l => l.all fun x => fits .byte (.int x)) = true := by decide
  rw [List.getD_eq_getElem?_getD, List.getD_eq_getElem?_getD]
  cases h1 : vByt[k]? with
  | none => rw [Option.getD_none, List.getElem?_nil]; decide
  | some l =>
    rw [Option.getD_some]
    cases h2 : l[j]? with
    | none => decide
    | some x => exact List.all_eq_true.mp (List.all_eq_true.mp h l (List.mem_of_getElem? h1)) x (List.mem_of_getElem? h2)
set_option maxHeartbeats 4000000 in
set_option maxRecDepth 100000 in
theorem mK_getBytes (l : Launch) (D : va_G) (cA : Nat → ClassId) (ad adF adW tt : Nat → Nat) (ST : gST) (hT : STE ad adF adW tt ST) (hW : STW adW tt ST) (hSQ : STQ ST) (adV tv : Nat → Nat) (hV : STV adV tv ST) (k : Nat) (hk : k < 16) (q n L : Nat) (f : Nat → Int32) (hn : n + (vLen.getD k 0) ≤ L) (hL : L < 2 ^ 30) : gMetG l yJ0_getBytes_840e7 cJ0_getBytes_840e7 4 none 3 0 0 D (TYS cA) ST ([(q, .inl (cA 5, L, .inl f))]) [.ref (adV k), .ref q, .int (nI n), .int 0] (gGv D (TYS cA) (fun _ : Unit => True) (fun _ => [(q, .inl (cA 5, L, .inl (va_cpy (fun j => (vByt.getD k []).getD j 0) f 0 n (vLen.getD k 0))))])) := by
  refine g_ofWG hT.1 (by decide +kernel) (Nat.le_of_ble_eq_true rfl) ?_
  intro p e s m args below meth c ls A G hP hD hl
  have G : GC p s m args meth c cJ0_getBytes_840e7 4 RJ0 none A D (TYS cA) ST := G
  have hx := G.1
  have hb := G.2.1
  have hS : va_S A s.heap s.heap [] := va_S.rf
  have hP : va_P D vwCl ([(q, .inl (cA 5, L, .inl f))]) s.heap := hP
  have hD : va_D A ([(q, .inl (cA 5, L, .inl f))]) := hD
  have hl : lv_has ls 4 [(0, .ref (adV k)), (1, .ref q), (2, .int (nI n)), (3, .int 0)] := hl
  refine lv_aload_n hx hb dJ0_getBytes_840e7_0 rfl (lv_at hl 0 rfl) ?_
  refine c_callKi (nA := 0) ([(q, .inl (cA 5, L, .inl f))]) (([] : va_W)) (mK_coder l D cA ad adF adW tt ST hT hW hSQ adV tv hV k hk) G hP hD hS (List.Perm.of_eq (List.append_nil _).symm) (vk_recv (hV _ _ G.2.2.2.2.2.2.2.2.2.2.1) hk hS) (g_good q4_202 q4_203 q4_204 q1_14 q4_205) (by decide +kernel) ⟨Nat.le_of_ble_eq_true rfl, Nat.le_of_ble_eq_true rfl, Nat.le_of_ble_eq_true rfl, Nat.le_of_ble_eq_true rfl⟩ rfl hl.1 [] rfl (Nat.le_of_ble_eq_true rfl) dJ0_getBytes_840e7_1 (fun r b9 H locs hok hP hD hS => ?_)
  have hP : va_P D vwCl ([(q, .inl (cA 5, L, .inl f))]) H := hP
  have hD : va_D A ([(q, .inl (cA 5, L, .inl f))]) := hD
  have hok : r = 0 := hok
  subst hok
  refine lv_iload_n hx hb dJ0_getBytes_840e7_4 rfl (lv_at hl 3 rfl) ?_
  refine lv_icmp_ne (tgt := 28) hx hb dJ0_getBytes_840e7_5 (by decide) (fun c9 => absurd (rfl) c9) (fun c9 => ?_)
  refine lv_aload_n hx hb dJ0_getBytes_840e7_8 rfl (lv_at hl 0 rfl) ?_
  refine vk_getf hx hb ((hV _ _ G.2.2.2.2.2.2.2.2.2.2.1).1 k hk).2.2.1 hS G.2.2.2.1 (G.2.2.2.2.1 _ q7_73) (fun _ h9 => h9) dJ0_getBytes_840e7_9 ?_
  refine lv_iconst (v := 0) hx hb dJ0_getBytes_840e7_12 (by decide) ?_
  refine lv_aload_n hx hb dJ0_getBytes_840e7_13 rfl (lv_at hl 1 rfl) ?_
  refine lv_iload_n hx hb dJ0_getBytes_840e7_14 rfl (lv_at hl 2 rfl) ?_
  refine lv_iload_n hx hb dJ0_getBytes_840e7_15 rfl (lv_at hl 3 rfl) ?_
  refine lv_ishl hx hb dJ0_getBytes_840e7_16 ?_
  rw [show (nI n) <<< (0 &&& 31) = (nI n) from sb_shl0 _]
  refine lv_aload_n hx hb dJ0_getBytes_840e7_17 rfl (lv_at hl 0 rfl) ?_
  refine vk_getf hx hb ((hV _ _ G.2.2.2.2.2.2.2.2.2.2.1).1 k hk).2.2.1 hS G.2.2.2.1 (G.2.2.2.2.1 _ q7_73) (fun _ h9 => h9) dJ0_getBytes_840e7_18 ?_
  refine va_tlen (v := nI (vLen.getD k 0)) hx hb ((hV _ _ G.2.2.2.2.2.2.2.2.2.2.1).1 k hk).2.2.2 hS rfl dJ0_getBytes_840e7_21 ?_
  have hw9 : nativeFrameWords "java/lang/System" "arraycopy" 5 ≤ 60 := by decide +kernel
  have ec1 : (nI n).toNatClampNeg = n := nI_clamp (by omega)
  have ec2 : (nI (vLen.getD k 0)).toNatClampNeg = (vLen.getD k 0) := nI_clamp (by omega)
  refine vk_copyt hx hb (G.2.2.1.trans hl.1.symm) G.2.2.2.1 (G.2.2.2.2.1 _ q6_233) (G.2.2.2.2.1 _ q3_20) (G.2.2.2.2.1 _ q3_19) (G.2.2.2.2.1 _ q1_27) G.2.2.2.2.2.2.2.2.1 hP hD hS ((hV _ _ G.2.2.2.2.2.2.2.2.2.2.1).1 k hk).2.2.2 0 5 rfl rfl (by decide) (nI_pos (by omega)) (nI_pos (by omega)) (by rw [ec2, sb_cl0]; omega) (by rw [ec1, ec2]; omega) (fun i _ => v_fit k _) (by decide) (by show _ ≤ 40 * 3; simp only [List.map_nil, List.sum_nil]; omega) dJ0_getBytes_840e7_22 (fun H locs hP hD hS => ?_)
  rw [ec1, ec2, sb_cl0] at hP hD
  have hP : va_P D vwCl ([(q, .inl (cA 5, L, .inl (va_cpy (fun j => (vByt.getD k []).getD j 0) f 0 n (vLen.getD k 0))))]) H := hP
  have hD : va_D A ([(q, .inl (cA 5, L, .inl (va_cpy (fun j => (vByt.getD k []).getD j 0) f 0 n (vLen.getD k 0))))]) := hD
  refine lv_goto (tgt := 43) hx hb dJ0_getBytes_840e7_25 (by decide) ?_
  exact c_retv () trivial G hP hD hS (by decide) dJ0_getBytes_840e7_43
set_option maxHeartbeats 4000000 in
set_option maxRecDepth 100000 in
theorem mInfl (l : Launch) (D : va_G) (cA : Nat → ClassId) (ad adF adW tt : Nat → Nat) (ST : gST) (hT : STE ad adF adW tt ST) (hW : STW adW tt ST) (hSQ : STQ ST) (adV tv : Nat → Nat) (hV : STV adV tv ST) (k : Nat) (hk : k < 16) (z q n L : Nat) (ml : Int32) (f : Nat → Int32) : gMetG l yJ5_inflateIfNeededFor_a7421 cJ5_inflateIfNeededFor_a7421 2 none 1 0 0 D (TYS cA) ST ([(z, .inr (1, [.ref q, .int 0, .int ml, .int (nI n)])), (q, .inl (cA 5, L, .inl f))]) [.ref z, .ref (adV k)] (gGv D (TYS cA) (fun _ : Unit => True) (fun _ => [(z, .inr (1, [.ref q, .int 0, .int ml, .int (nI n)])), (q, .inl (cA 5, L, .inl f))])) := by
  refine g_ofWG hT.1 (by decide +kernel) (Nat.le_of_ble_eq_true rfl) ?_
  intro p e s m args below meth c ls A G hP hD hl
  have G : GC p s m args meth c cJ5_inflateIfNeededFor_a7421 2 RJ5 none A D (TYS cA) ST := G
  have hx := G.1
  have hb := G.2.1
  have hS : va_S A s.heap s.heap [] := va_S.rf
  have hP : va_P D vwCl ([(z, .inr (1, [.ref q, .int 0, .int ml, .int (nI n)])), (q, .inl (cA 5, L, .inl f))]) s.heap := hP
  have hD : va_D A ([(z, .inr (1, [.ref q, .int 0, .int ml, .int (nI n)])), (q, .inl (cA 5, L, .inl f))]) := hD
  have hl : lv_has ls 2 [(0, .ref z), (1, .ref (adV k))] := hl
  refine va_gets hx hb (hW _ _ G.2.2.2.2.2.2.2.2.2.2.1).1 hS G.2.2.2.1 (G.2.2.2.2.1 _ q2_27) (fun _ h9 => h9) dJ5_inflateIfNeededFor_a7421_0 ?_
  refine lv_if_eq (tgt := 21) hx hb dJ5_inflateIfNeededFor_a7421_3 (by decide) (fun c9 => absurd c9 (by decide)) (fun c9 => ?_)
  refine lv_aload_n hx hb dJ5_inflateIfNeededFor_a7421_6 rfl (lv_at hl 0 rfl) ?_
  refine c_get (F := [(z, .inr (1, [.ref q, .int 0, .int ml, .int (nI n)])), (q, .inl (cA 5, L, .inl f))]) (B := []) (C := RJ4) (T := TJ4) (M := 4) (ci := 1) G hP 0 1 i_J4 rfl rfl (by decide) q2_37 rfl dJ5_inflateIfNeededFor_a7421_7 ?_
  refine lv_aload_n hx hb dJ5_inflateIfNeededFor_a7421_10 rfl (lv_at hl 1 rfl) ?_
  refine c_callKi (nA := 0) ([(z, .inr (1, [.ref q, .int 0, .int ml, .int (nI n)])), (q, .inl (cA 5, L, .inl f))]) (([] : va_W)) (mK_coder l D cA ad adF adW tt ST hT hW hSQ adV tv hV k hk) G hP hD hS (List.Perm.of_eq (List.append_nil _).symm) (vk_recv (hV _ _ G.2.2.2.2.2.2.2.2.2.2.1) hk hS) (g_good q6_209 q4_203 q4_204 q1_14 q4_205) (by decide +kernel) ⟨Nat.le_of_ble_eq_true rfl, Nat.le_of_ble_eq_true rfl, Nat.le_of_ble_eq_true rfl, Nat.le_of_ble_eq_true rfl⟩ rfl hl.1 [.int 0] rfl (Nat.le_of_ble_eq_true rfl) dJ5_inflateIfNeededFor_a7421_11 (fun r b9 H locs hok hP hD hS => ?_)
  have hP : va_P D vwCl ([(z, .inr (1, [.ref q, .int 0, .int ml, .int (nI n)])), (q, .inl (cA 5, L, .inl f))]) H := hP
  have hD : va_D A ([(z, .inr (1, [.ref q, .int 0, .int ml, .int (nI n)])), (q, .inl (cA 5, L, .inl f))]) := hD
  have hok : r = 0 := hok
  subst hok
  refine lv_icmp_eq (tgt := 21) hx hb dJ5_inflateIfNeededFor_a7421_14 (by decide) (fun c9 => ?_) (fun c9 => absurd (rfl) c9)
  exact c_retv () trivial G hP hD hS (by decide) dJ5_inflateIfNeededFor_a7421_21
set_option maxHeartbeats 4000000 in
set_option maxRecDepth 100000 in
theorem mPutS (l : Launch) (D : va_G) (cA : Nat → ClassId) (ad adF adW tt : Nat → Nat) (ST : gST) (hT : STE ad adF adW tt ST) (hW : STW adW tt ST) (hSQ : STQ ST) (adV tv : Nat → Nat) (hV : STV adV tv ST) (k : Nat) (hk : k < 16) (z q n L : Nat) (ml : Int32) (f : Nat → Int32) (hn : n + (vLen.getD k 0) ≤ L) (hL : L < 2 ^ 30) : gMetG l yJ5_putStringAt_47b60 cJ5_putStringAt_47b60 3 none 4 0 0 D (TYS cA) ST ([(z, .inr (1, [.ref q, .int 0, .int ml, .int (nI n)])), (q, .inl (cA 5, L, .inl f))]) [.ref z, .int (nI n), .ref (adV k)] (gGv D (TYS cA) (fun _ : Unit => True) (fun _ => [(z, .inr (1, [.ref q, .int 0, .int ml, .int (nI n)])), (q, .inl (cA 5, L, .inl (va_cpy (fun j => (vByt.getD k []).getD j 0) f 0 n (vLen.getD k 0))))])) := by
  refine g_ofWG hT.1 (by decide +kernel) (Nat.le_of_ble_eq_true rfl) ?_
  intro p e s m args below meth c ls A G hP hD hl
  have G : GC p s m args meth c cJ5_putStringAt_47b60 3 RJ5 none A D (TYS cA) ST := G
  have hx := G.1
  have hb := G.2.1
  have hS : va_S A s.heap s.heap [] := va_S.rf
  have hP : va_P D vwCl ([(z, .inr (1, [.ref q, .int 0, .int ml, .int (nI n)])), (q, .inl (cA 5, L, .inl f))]) s.heap := hP
  have hD : va_D A ([(z, .inr (1, [.ref q, .int 0, .int ml, .int (nI n)])), (q, .inl (cA 5, L, .inl f))]) := hD
  have hl : lv_has ls 3 [(0, .ref z), (1, .int (nI n)), (2, .ref (adV k))] := hl
  refine lv_aload_n hx hb dJ5_putStringAt_47b60_0 rfl (lv_at hl 0 rfl) ?_
  refine lv_aload_n hx hb dJ5_putStringAt_47b60_1 rfl (lv_at hl 2 rfl) ?_
  refine c_callPv (nA := 1) (x := ⟨RJ5, "inflateIfNeededFor", "(Ljava/lang/String;)V"⟩) (owner := RJ5) (C := RJ4) (T := TJ4) (M := 4) (ci := 1) ([]) ([(z, .inr (1, [.ref q, .int 0, .int ml, .int (nI n)])), (q, .inl (cA 5, L, .inl f))]) 0 rfl rfl (mInfl l D cA ad adF adW tt ST hT hW hSQ adV tv hV k hk z q n L ml f) G hP hD hS (List.Perm.of_eq rfl) (g_goodP q6_205 q7_103 rfl q6_207 q1_12 q6_208) rfl (hSQ _ _ G.2.2.2.2.2.2.2.2.2.2.1 args yJ5_inflateIfNeededFor_a7421 (List.mem_of_getElem? (i := 3) rfl)) (by decide +kernel) ⟨Nat.le_of_ble_eq_true rfl, Nat.le_of_ble_eq_true rfl, Nat.le_of_ble_eq_true rfl, Nat.le_of_ble_eq_true rfl⟩ rfl hl.1 [] rfl (Nat.le_of_ble_eq_true rfl) dJ5_putStringAt_47b60_2 (fun b9 H locs hok hP hD hS => ?_)
  have hP : va_P D vwCl ([(z, .inr (1, [.ref q, .int 0, .int ml, .int (nI n)])), (q, .inl (cA 5, L, .inl f))]) H := hP
  have hD : va_D A ([(z, .inr (1, [.ref q, .int 0, .int ml, .int (nI n)])), (q, .inl (cA 5, L, .inl f))]) := hD
  refine lv_aload_n hx hb dJ5_putStringAt_47b60_5 rfl (lv_at hl 2 rfl) ?_
  refine lv_aload_n hx hb dJ5_putStringAt_47b60_6 rfl (lv_at hl 0 rfl) ?_
  refine c_get (F := [(z, .inr (1, [.ref q, .int 0, .int ml, .int (nI n)])), (q, .inl (cA 5, L, .inl f))]) (B := []) (C := RJ4) (T := TJ4) (M := 4) (ci := 1) G hP 0 0 i_J4 rfl rfl (by decide) q2_36 rfl dJ5_putStringAt_47b60_7 ?_
  refine lv_iload_n hx hb dJ5_putStringAt_47b60_10 rfl (lv_at hl 1 rfl) ?_
  refine lv_aload_n hx hb dJ5_putStringAt_47b60_11 rfl (lv_at hl 0 rfl) ?_
  refine c_get (F := [(z, .inr (1, [.ref q, .int 0, .int ml, .int (nI n)])), (q, .inl (cA 5, L, .inl f))]) (B := []) (C := RJ4) (T := TJ4) (M := 4) (ci := 1) G hP 0 1 i_J4 rfl rfl (by decide) q2_37 rfl dJ5_putStringAt_47b60_12 ?_
  refine c_callKv (nA := 3) (([(z, .inr (1, [.ref q, .int 0, .int ml, .int (nI n)]))] : va_W)) (([(q, .inl (cA 5, L, .inl f))] : va_W)) (mK_getBytes l D cA ad adF adW tt ST hT hW hSQ adV tv hV k hk q n L f hn hL) G hP hD hS (List.Perm.of_eq rfl) (vk_recv (hV _ _ G.2.2.2.2.2.2.2.2.2.2.1) hk hS) (g_good q6_229 q6_230 q6_231 q1_14 q6_232) (by decide +kernel) ⟨Nat.le_of_ble_eq_true rfl, Nat.le_of_ble_eq_true rfl, Nat.le_of_ble_eq_true rfl, Nat.le_of_ble_eq_true rfl⟩ rfl hl.1 [] rfl (Nat.le_of_ble_eq_true rfl) dJ5_putStringAt_47b60_15 (fun b9 H locs hok hP hD hS => ?_)
  have hP : va_P D vwCl ([(z, .inr (1, [.ref q, .int 0, .int ml, .int (nI n)])), (q, .inl (cA 5, L, .inl (va_cpy (fun j => (vByt.getD k []).getD j 0) f 0 n (vLen.getD k 0))))]) H := hP
  have hD : va_D A ([(z, .inr (1, [.ref q, .int 0, .int ml, .int (nI n)])), (q, .inl (cA 5, L, .inl (va_cpy (fun j => (vByt.getD k []).getD j 0) f 0 n (vLen.getD k 0))))]) := hD
  exact c_retv () trivial G hP hD hS (by decide) dJ5_putStringAt_47b60_18
set_option maxHeartbeats 4000000 in
set_option maxRecDepth 100000 in
theorem mJ5_appS0 (l : Launch) (D : va_G) (cA : Nat → ClassId) (ad adF adW tt : Nat → Nat) (ST : gST) (hT : STE ad adF adW tt ST) (hW : STW adW tt ST) (hSQ : STQ ST) (adV tv : Nat → Nat) (hV : STV adV tv ST) (k : Nat) (hk : k < 16) (z q n L : Nat) (ml : Int32) (f : Nat → Int32) (hn : n + (vLen.getD k 0) ≤ L) (hL : L < 2 ^ 30) : gMetG l yJ5_append_cf1ce cJ5_append_cf1ce 3 (some (.object "java/lang/AbstractStringBuilder")) 5 0 0 D (TYS cA) ST ([(z, .inr (1, [.ref q, .int 0, .int ml, .int (nI n)])), (q, .inl (cA 5, L, .inl f))]) [.ref z, .ref (adV k)] (gGr D (TYS cA) (fun _ : Unit => True) (fun _ => z) (fun _ => [(z, .inr (1, [.ref q, .int 0, .int ml, .int (nI (n + (vLen.getD k 0)))])), (q, .inl (cA 5, L, .inl (va_cpy (fun j => (vByt.getD k []).getD j 0) f 0 n (vLen.getD k 0))))])) := by
  refine g_ofWG hT.1 (by decide +kernel) (Nat.le_of_ble_eq_true rfl) ?_
  intro p e s m args below meth c ls A G hP hD hl
  have G : GC p s m args meth c cJ5_append_cf1ce 3 RJ5 (some (.object "java/lang/AbstractStringBuilder")) A D (TYS cA) ST := G
  have hx := G.1
  have hb := G.2.1
  have hS : va_S A s.heap s.heap [] := va_S.rf
  have hP : va_P D vwCl ([(z, .inr (1, [.ref q, .int 0, .int ml, .int (nI n)])), (q, .inl (cA 5, L, .inl f))]) s.heap := hP
  have hD : va_D A ([(z, .inr (1, [.ref q, .int 0, .int ml, .int (nI n)])), (q, .inl (cA 5, L, .inl f))]) := hD
  have hl : lv_has ls 3 [(0, .ref z), (1, .ref (adV k))] := hl
  refine lv_aload_n hx hb dJ5_append_cf1ce_0 rfl (lv_at hl 1 rfl) ?_
  refine lv_ifnonnull (tgt := 9) hx hb dJ5_append_cf1ce_1 (by decide) ?_
  refine lv_aload_n hx hb dJ5_append_cf1ce_9 rfl (lv_at hl 1 rfl) ?_
  refine c_callKi (nA := 0) ([(z, .inr (1, [.ref q, .int 0, .int ml, .int (nI n)])), (q, .inl (cA 5, L, .inl f))]) (([] : va_W)) (mK_length l D cA ad adF adW tt ST hT hW hSQ adV tv hV k hk) G hP hD hS (List.Perm.of_eq (List.append_nil _).symm) (vk_recv (hV _ _ G.2.2.2.2.2.2.2.2.2.2.1) hk hS) (g_good q6_200 q4_199 q4_200 q1_14 q4_201) (by decide +kernel) ⟨Nat.le_of_ble_eq_true rfl, Nat.le_of_ble_eq_true rfl, Nat.le_of_ble_eq_true rfl, Nat.le_of_ble_eq_true rfl⟩ rfl hl.1 [] rfl (Nat.le_of_ble_eq_true rfl) dJ5_append_cf1ce_10 (fun r b9 H locs hok hP hD hS => ?_)
  have hP : va_P D vwCl ([(z, .inr (1, [.ref q, .int 0, .int ml, .int (nI n)])), (q, .inl (cA 5, L, .inl f))]) H := hP
  have hD : va_D A ([(z, .inr (1, [.ref q, .int 0, .int ml, .int (nI n)])), (q, .inl (cA 5, L, .inl f))]) := hD
  have hok : r = nI (vLen.getD k 0) := hok
  subst hok
  refine lv_istore_n (lv' := [(2, .int (nI (vLen.getD k 0))), (0, .ref z), (1, .ref (adV k))]) hx hb dJ5_append_cf1ce_13 rfl hl (by decide) rfl (fun ls hl => ?_)
  refine lv_aload_n hx hb dJ5_append_cf1ce_14 rfl (lv_at hl 1 rfl) ?_
  refine lv_aload_n hx hb dJ5_append_cf1ce_15 rfl (lv_at hl 1 rfl) ?_
  refine c_get (F := [(z, .inr (1, [.ref q, .int 0, .int ml, .int (nI n)])), (q, .inl (cA 5, L, .inl f))]) (B := []) (C := RJ4) (T := TJ4) (M := 4) (ci := 1) G hP 0 3 i_J4 rfl rfl (by decide) q2_39 rfl dJ5_append_cf1ce_16 ?_
  refine lv_iload_n hx hb dJ5_append_cf1ce_19 rfl (lv_at hl 0 rfl) ?_
  refine lv_iadd hx hb dJ5_append_cf1ce_20 ?_
  rw [show (nI n) + (nI (vLen.getD k 0)) = (nI (n + (vLen.getD k 0))) from nI_add n _]
  refine c_callPv (nA := 1) (x := ⟨RJ5, "ensureCapacityInternal", "(I)V"⟩) (owner := RJ5) (C := RJ4) (T := TJ4) (M := 4) (ci := 1) ([]) ([(z, .inr (1, [.ref q, .int 0, .int ml, .int (nI n)])), (q, .inl (cA 5, L, .inl f))]) 0 rfl rfl (mEC0 l D cA ad adF adW tt ST hT hW hSQ z q n L ml f (n + (vLen.getD k 0)) hn hL) G hP hD hS (List.Perm.of_eq rfl) (g_goodP q6_160 q7_100 rfl q6_162 q1_12 q6_163) rfl (hSQ _ _ G.2.2.2.2.2.2.2.2.2.2.1 args yJ5_ensureCapacityInternal_d00df (List.mem_of_getElem? (i := 1) rfl)) (by decide +kernel) ⟨Nat.le_of_ble_eq_true rfl, Nat.le_of_ble_eq_true rfl, Nat.le_of_ble_eq_true rfl, Nat.le_of_ble_eq_true rfl⟩ rfl hl.1 [] rfl (Nat.le_of_ble_eq_true rfl) dJ5_append_cf1ce_21 (fun b1 H locs hok hP hD hS => ?_)
  have hP : va_P D vwCl ([(z, .inr (1, [.ref q, .int 0, .int ml, .int (nI n)])), (q, .inl (cA 5, L, .inl f))]) H := hP
  have hD : va_D A ([(z, .inr (1, [.ref q, .int 0, .int ml, .int (nI n)])), (q, .inl (cA 5, L, .inl f))]) := hD
  refine lv_aload_n hx hb dJ5_append_cf1ce_24 rfl (lv_at hl 1 rfl) ?_
  refine lv_aload_n hx hb dJ5_append_cf1ce_25 rfl (lv_at hl 1 rfl) ?_
  refine c_get (F := [(z, .inr (1, [.ref q, .int 0, .int ml, .int (nI n)])), (q, .inl (cA 5, L, .inl f))]) (B := []) (C := RJ4) (T := TJ4) (M := 4) (ci := 1) G hP 0 3 i_J4 rfl rfl (by decide) q2_39 rfl dJ5_append_cf1ce_26 ?_
  refine lv_aload_n hx hb dJ5_append_cf1ce_29 rfl (lv_at hl 2 rfl) ?_
  refine c_callPv (nA := 2) (x := ⟨RJ5, "putStringAt", "(ILjava/lang/String;)V"⟩) (owner := RJ5) (C := RJ4) (T := TJ4) (M := 4) (ci := 1) ([]) ([(z, .inr (1, [.ref q, .int 0, .int ml, .int (nI n)])), (q, .inl (cA 5, L, .inl f))]) 0 rfl rfl (mPutS l D cA ad adF adW tt ST hT hW hSQ adV tv hV k hk z q n L ml f hn hL) G hP hD hS (List.Perm.of_eq rfl) (g_goodP q6_201 q7_102 rfl q6_203 q1_12 q6_204) rfl (hSQ _ _ G.2.2.2.2.2.2.2.2.2.2.1 args yJ5_putStringAt_47b60 (List.mem_of_getElem? (i := 2) rfl)) (by decide +kernel) ⟨Nat.le_of_ble_eq_true rfl, Nat.le_of_ble_eq_true rfl, Nat.le_of_ble_eq_true rfl, Nat.le_of_ble_eq_true rfl⟩ rfl hl.1 [] rfl (Nat.le_of_ble_eq_true rfl) dJ5_append_cf1ce_30 (fun b9 H locs hok hP hD hS => ?_)
  have hP : va_P D vwCl ([(z, .inr (1, [.ref q, .int 0, .int ml, .int (nI n)])), (q, .inl (cA 5, L, .inl (va_cpy (fun j => (vByt.getD k []).getD j 0) f 0 n (vLen.getD k 0))))]) H := hP
  have hD : va_D A ([(z, .inr (1, [.ref q, .int 0, .int ml, .int (nI n)])), (q, .inl (cA 5, L, .inl (va_cpy (fun j => (vByt.getD k []).getD j 0) f 0 n (vLen.getD k 0))))]) := hD
  refine lv_aload_n hx hb dJ5_append_cf1ce_33 rfl (lv_at hl 1 rfl) ?_
  refine lv_dup hx hb dJ5_append_cf1ce_34 rfl ?_
  refine c_get (F := [(z, .inr (1, [.ref q, .int 0, .int ml, .int (nI n)])), (q, .inl (cA 5, L, .inl (va_cpy (fun j => (vByt.getD k []).getD j 0) f 0 n (vLen.getD k 0))))]) (B := []) (C := RJ4) (T := TJ4) (M := 4) (ci := 1) G hP 0 3 i_J4 rfl rfl (by decide) q2_39 rfl dJ5_append_cf1ce_35 ?_
  refine lv_iload_n hx hb dJ5_append_cf1ce_38 rfl (lv_at hl 0 rfl) ?_
  refine lv_iadd hx hb dJ5_append_cf1ce_39 ?_
  rw [show (nI n) + (nI (vLen.getD k 0)) = (nI (n + (vLen.getD k 0))) from nI_add n _]
  refine c_putJ (F := [(z, .inr (1, [.ref q, .int 0, .int ml, .int (nI n)])), (q, .inl (cA 5, L, .inl (va_cpy (fun j => (vByt.getD k []).getD j 0) f 0 n (vLen.getD k 0))))]) (B := []) (C := RJ4) (T := TJ4) (M := 4) (ci := 1) (v := .int (nI (n + (vLen.getD k 0)))) G hP hD hS 0 3 i_J4 rfl tyJ4 tyJ4_ok nmJ4 rfl (by decide) q2_39 rfl rfl rfl (Nat.le_of_ble_eq_true rfl) dJ5_append_cf1ce_40 (fun H locs hP hD hS => ?_)
  have hP : va_P D vwCl ([(z, .inr (1, [.ref q, .int 0, .int ml, .int (nI (n + (vLen.getD k 0)))])), (q, .inl (cA 5, L, .inl (va_cpy (fun j => (vByt.getD k []).getD j 0) f 0 n (vLen.getD k 0))))]) H := hP
  have hD : va_D A ([(z, .inr (1, [.ref q, .int 0, .int ml, .int (nI (n + (vLen.getD k 0)))])), (q, .inl (cA 5, L, .inl (va_cpy (fun j => (vByt.getD k []).getD j 0) f 0 n (vLen.getD k 0))))]) := hD
  refine lv_aload_n hx hb dJ5_append_cf1ce_43 rfl (lv_at hl 1 rfl) ?_
  exact c_reta () trivial rfl (Or.inl ⟨_, rfl⟩) G hP hD hS (by decide) dJ5_append_cf1ce_44
set_option maxHeartbeats 4000000 in
set_option maxRecDepth 100000 in
theorem mJ4_appS0 (l : Launch) (D : va_G) (cA : Nat → ClassId) (ad adF adW tt : Nat → Nat) (ST : gST) (hT : STE ad adF adW tt ST) (hW : STW adW tt ST) (hSQ : STQ ST) (adV tv : Nat → Nat) (hV : STV adV tv ST) (k : Nat) (hk : k < 16) (z q n L : Nat) (ml : Int32) (f : Nat → Int32) (hn : n + (vLen.getD k 0) ≤ L) (hL : L < 2 ^ 30) : gMetG l yJ4_append_15ec4 cJ4_append_15ec4 2 (some (.object "java/lang/StringBuilder")) 6 0 0 D (TYS cA) ST ([(z, .inr (1, [.ref q, .int 0, .int ml, .int (nI n)])), (q, .inl (cA 5, L, .inl f))]) [.ref z, .ref (adV k)] (gGr D (TYS cA) (fun _ : Unit => True) (fun _ => z) (fun _ => [(z, .inr (1, [.ref q, .int 0, .int ml, .int (nI (n + (vLen.getD k 0)))])), (q, .inl (cA 5, L, .inl (va_cpy (fun j => (vByt.getD k []).getD j 0) f 0 n (vLen.getD k 0))))])) := by
  refine g_ofWG hT.1 (by decide +kernel) (Nat.le_of_ble_eq_true rfl) ?_
  intro p e s m args below meth c ls A G hP hD hl
  have G : GC p s m args meth c cJ4_append_15ec4 2 RJ4 (some (.object "java/lang/StringBuilder")) A D (TYS cA) ST := G
  have hx := G.1
  have hb := G.2.1
  have hS : va_S A s.heap s.heap [] := va_S.rf
  have hP : va_P D vwCl ([(z, .inr (1, [.ref q, .int 0, .int ml, .int (nI n)])), (q, .inl (cA 5, L, .inl f))]) s.heap := hP
  have hD : va_D A ([(z, .inr (1, [.ref q, .int 0, .int ml, .int (nI n)])), (q, .inl (cA 5, L, .inl f))]) := hD
  have hl : lv_has ls 2 [(0, .ref z), (1, .ref (adV k))] := hl
  refine lv_aload_n hx hb dJ4_append_15ec4_0 rfl (lv_at hl 0 rfl) ?_
  refine lv_aload_n hx hb dJ4_append_15ec4_1 rfl (lv_at hl 1 rfl) ?_
  refine c_callSUr (nA := 1) (C := RJ4) (T := TJ4) (M := 4) (ci := 1) ([]) ([(z, .inr (1, [.ref q, .int 0, .int ml, .int (nI n)])), (q, .inl (cA 5, L, .inl f))]) 0 rfl rfl (mJ5_appS0 l D cA ad adF adW tt ST hT hW hSQ adV tv hV k hk z q n L ml f hn hL) G hP hD hS (List.Perm.of_eq rfl) (g_goodSU q6_153 q7_98 q2_48 q6_154 q1_12 q6_155) (by decide +kernel) ⟨Nat.le_of_ble_eq_true rfl, Nat.le_of_ble_eq_true rfl, Nat.le_of_ble_eq_true rfl, Nat.le_of_ble_eq_true rfl⟩ rfl hl.1 [] rfl (Nat.le_of_ble_eq_true rfl) dJ4_append_15ec4_2 (fun b9 H locs hok hP hD hS => ?_)
  have hP : va_P D vwCl ([(z, .inr (1, [.ref q, .int 0, .int ml, .int (nI (n + (vLen.getD k 0)))])), (q, .inl (cA 5, L, .inl (va_cpy (fun j => (vByt.getD k []).getD j 0) f 0 n (vLen.getD k 0))))]) H := hP
  have hD : va_D A ([(z, .inr (1, [.ref q, .int 0, .int ml, .int (nI (n + (vLen.getD k 0)))])), (q, .inl (cA 5, L, .inl (va_cpy (fun j => (vByt.getD k []).getD j 0) f 0 n (vLen.getD k 0))))]) := hD
  refine lv_pop hx hb dJ4_append_15ec4_5 rfl ?_
  refine lv_aload_n hx hb dJ4_append_15ec4_6 rfl (lv_at hl 0 rfl) ?_
  exact c_reta () trivial rfl (Or.inl ⟨_, rfl⟩) G hP hD hS (by decide) dJ4_append_15ec4_7
set_option maxHeartbeats 4000000 in
set_option maxRecDepth 100000 in
theorem mJ5_appS1 (l : Launch) (D : va_G) (cA : Nat → ClassId) (ad adF adW tt : Nat → Nat) (ST : gST) (hT : STE ad adF adW tt ST) (hW : STW adW tt ST) (hSQ : STQ ST) (adV tv : Nat → Nat) (hV : STV adV tv ST) (k : Nat) (hk : k < 16) (z q n : Nat) (ml : Int32) (f : Nat → Int32) (hf : sb_Fit f) (h55 : n + (vLen.getD k 0) = 55) : gMetG l yJ5_append_cf1ce cJ5_append_cf1ce 3 (some (.object "java/lang/AbstractStringBuilder")) 5 1 55 D (TYS cA) ST ([(z, .inr (1, [.ref q, .int 0, .int ml, .int (nI n)])), (q, .inl (cA 5, 16, .inl f))]) [.ref z, .ref (adV k)] (gGr D (TYS cA) (fun _ : Nat => True) (fun _ => z) (fun q9 => [(z, .inr (1, [.ref q9, .int 0, .int ml, .int (nI (n + (vLen.getD k 0)))])), (q9, .inl (cA 5, 55, .inl (va_cpy (fun j => (vByt.getD k []).getD j 0) (va_cpy f (fun _ => 0) 0 0 16) 0 n (vLen.getD k 0))))])) := by
  refine g_ofWG hT.1 (by decide +kernel) (Nat.le_of_ble_eq_true rfl) ?_
  intro p e s m args below meth c ls A G hP hD hl
  have G : GC p s m args meth c cJ5_append_cf1ce 3 RJ5 (some (.object "java/lang/AbstractStringBuilder")) A D (TYS cA) ST := G
  have hx := G.1
  have hb := G.2.1
  have hS : va_S A s.heap s.heap [] := va_S.rf
  have hP : va_P D vwCl ([(z, .inr (1, [.ref q, .int 0, .int ml, .int (nI n)])), (q, .inl (cA 5, 16, .inl f))]) s.heap := hP
  have hD : va_D A ([(z, .inr (1, [.ref q, .int 0, .int ml, .int (nI n)])), (q, .inl (cA 5, 16, .inl f))]) := hD
  have hl : lv_has ls 3 [(0, .ref z), (1, .ref (adV k))] := hl
  refine lv_aload_n hx hb dJ5_append_cf1ce_0 rfl (lv_at hl 1 rfl) ?_
  refine lv_ifnonnull (tgt := 9) hx hb dJ5_append_cf1ce_1 (by decide) ?_
  refine lv_aload_n hx hb dJ5_append_cf1ce_9 rfl (lv_at hl 1 rfl) ?_
  refine c_callKi (nA := 0) ([(z, .inr (1, [.ref q, .int 0, .int ml, .int (nI n)])), (q, .inl (cA 5, 16, .inl f))]) (([] : va_W)) (mK_length l D cA ad adF adW tt ST hT hW hSQ adV tv hV k hk) G hP hD hS (List.Perm.of_eq (List.append_nil _).symm) (vk_recv (hV _ _ G.2.2.2.2.2.2.2.2.2.2.1) hk hS) (g_good q6_200 q4_199 q4_200 q1_14 q4_201) (by decide +kernel) ⟨Nat.le_of_ble_eq_true rfl, Nat.le_of_ble_eq_true rfl, Nat.le_of_ble_eq_true rfl, Nat.le_of_ble_eq_true rfl⟩ rfl hl.1 [] rfl (Nat.le_of_ble_eq_true rfl) dJ5_append_cf1ce_10 (fun r b9 H locs hok hP hD hS => ?_)
  have hP : va_P D vwCl ([(z, .inr (1, [.ref q, .int 0, .int ml, .int (nI n)])), (q, .inl (cA 5, 16, .inl f))]) H := hP
  have hD : va_D A ([(z, .inr (1, [.ref q, .int 0, .int ml, .int (nI n)])), (q, .inl (cA 5, 16, .inl f))]) := hD
  have hok : r = nI (vLen.getD k 0) := hok
  subst hok
  refine lv_istore_n (lv' := [(2, .int (nI (vLen.getD k 0))), (0, .ref z), (1, .ref (adV k))]) hx hb dJ5_append_cf1ce_13 rfl hl (by decide) rfl (fun ls hl => ?_)
  refine lv_aload_n hx hb dJ5_append_cf1ce_14 rfl (lv_at hl 1 rfl) ?_
  refine lv_aload_n hx hb dJ5_append_cf1ce_15 rfl (lv_at hl 1 rfl) ?_
  refine c_get (F := [(z, .inr (1, [.ref q, .int 0, .int ml, .int (nI n)])), (q, .inl (cA 5, 16, .inl f))]) (B := []) (C := RJ4) (T := TJ4) (M := 4) (ci := 1) G hP 0 3 i_J4 rfl rfl (by decide) q2_39 rfl dJ5_append_cf1ce_16 ?_
  refine lv_iload_n hx hb dJ5_append_cf1ce_19 rfl (lv_at hl 0 rfl) ?_
  refine lv_iadd hx hb dJ5_append_cf1ce_20 ?_
  rw [show (nI n) + (nI (vLen.getD k 0)) = (nI 55) from (nI_add n _).trans (congrArg nI h55)]
  refine c_callPv (nA := 1) (x := ⟨RJ5, "ensureCapacityInternal", "(I)V"⟩) (owner := RJ5) (C := RJ4) (T := TJ4) (M := 4) (ci := 1) ([]) ([(z, .inr (1, [.ref q, .int 0, .int ml, .int (nI n)])), (q, .inl (cA 5, 16, .inl f))]) 0 rfl rfl (mEC1 l D cA ad adF adW tt ST hT hW hSQ z q n ml f hf) G hP hD hS (List.Perm.of_eq rfl) (g_goodP q6_160 q7_100 rfl q6_162 q1_12 q6_163) rfl (hSQ _ _ G.2.2.2.2.2.2.2.2.2.2.1 args yJ5_ensureCapacityInternal_d00df (List.mem_of_getElem? (i := 1) rfl)) (by decide +kernel) ⟨Nat.le_of_ble_eq_true rfl, Nat.le_of_ble_eq_true rfl, Nat.le_of_ble_eq_true rfl, Nat.le_of_ble_eq_true rfl⟩ rfl hl.1 [] rfl (Nat.le_of_ble_eq_true rfl) dJ5_append_cf1ce_21 (fun q9 H locs hok hP hD hS => ?_)
  have hP : va_P D vwCl ([(z, .inr (1, [.ref q9, .int 0, .int ml, .int (nI n)])), (q9, .inl (cA 5, 55, .inl (va_cpy f (fun _ => 0) 0 0 16)))]) H := hP
  have hD : va_D A ([(z, .inr (1, [.ref q9, .int 0, .int ml, .int (nI n)])), (q9, .inl (cA 5, 55, .inl (va_cpy f (fun _ => 0) 0 0 16)))]) := hD
  refine lv_aload_n hx hb dJ5_append_cf1ce_24 rfl (lv_at hl 1 rfl) ?_
  refine lv_aload_n hx hb dJ5_append_cf1ce_25 rfl (lv_at hl 1 rfl) ?_
  refine c_get (F := [(z, .inr (1, [.ref q9, .int 0, .int ml, .int (nI n)])), (q9, .inl (cA 5, 55, .inl (va_cpy f (fun _ => 0) 0 0 16)))]) (B := []) (C := RJ4) (T := TJ4) (M := 4) (ci := 1) G hP 0 3 i_J4 rfl rfl (by decide) q2_39 rfl dJ5_append_cf1ce_26 ?_
  refine lv_aload_n hx hb dJ5_append_cf1ce_29 rfl (lv_at hl 2 rfl) ?_
  refine c_callPv (nA := 2) (x := ⟨RJ5, "putStringAt", "(ILjava/lang/String;)V"⟩) (owner := RJ5) (C := RJ4) (T := TJ4) (M := 4) (ci := 1) ([]) ([(z, .inr (1, [.ref q9, .int 0, .int ml, .int (nI n)])), (q9, .inl (cA 5, 55, .inl (va_cpy f (fun _ => 0) 0 0 16)))]) 0 rfl rfl (mPutS l D cA ad adF adW tt ST hT hW hSQ adV tv hV k hk z q9 n 55 ml (va_cpy f (fun _ => 0) 0 0 16) (by omega) (by decide)) G hP hD hS (List.Perm.of_eq rfl) (g_goodP q6_201 q7_102 rfl q6_203 q1_12 q6_204) rfl (hSQ _ _ G.2.2.2.2.2.2.2.2.2.2.1 args yJ5_putStringAt_47b60 (List.mem_of_getElem? (i := 2) rfl)) (by decide +kernel) ⟨Nat.le_of_ble_eq_true rfl, Nat.le_of_ble_eq_true rfl, Nat.le_of_ble_eq_true rfl, Nat.le_of_ble_eq_true rfl⟩ rfl hl.1 [] rfl (Nat.le_of_ble_eq_true rfl) dJ5_append_cf1ce_30 (fun b9 H locs hok hP hD hS => ?_)
  have hP : va_P D vwCl ([(z, .inr (1, [.ref q9, .int 0, .int ml, .int (nI n)])), (q9, .inl (cA 5, 55, .inl (va_cpy (fun j => (vByt.getD k []).getD j 0) (va_cpy f (fun _ => 0) 0 0 16) 0 n (vLen.getD k 0))))]) H := hP
  have hD : va_D A ([(z, .inr (1, [.ref q9, .int 0, .int ml, .int (nI n)])), (q9, .inl (cA 5, 55, .inl (va_cpy (fun j => (vByt.getD k []).getD j 0) (va_cpy f (fun _ => 0) 0 0 16) 0 n (vLen.getD k 0))))]) := hD
  refine lv_aload_n hx hb dJ5_append_cf1ce_33 rfl (lv_at hl 1 rfl) ?_
  refine lv_dup hx hb dJ5_append_cf1ce_34 rfl ?_
  refine c_get (F := [(z, .inr (1, [.ref q9, .int 0, .int ml, .int (nI n)])), (q9, .inl (cA 5, 55, .inl (va_cpy (fun j => (vByt.getD k []).getD j 0) (va_cpy f (fun _ => 0) 0 0 16) 0 n (vLen.getD k 0))))]) (B := []) (C := RJ4) (T := TJ4) (M := 4) (ci := 1) G hP 0 3 i_J4 rfl rfl (by decide) q2_39 rfl dJ5_append_cf1ce_35 ?_
  refine lv_iload_n hx hb dJ5_append_cf1ce_38 rfl (lv_at hl 0 rfl) ?_
  refine lv_iadd hx hb dJ5_append_cf1ce_39 ?_
  rw [show (nI n) + (nI (vLen.getD k 0)) = (nI (n + (vLen.getD k 0))) from nI_add n _]
  refine c_putJ (F := [(z, .inr (1, [.ref q9, .int 0, .int ml, .int (nI n)])), (q9, .inl (cA 5, 55, .inl (va_cpy (fun j => (vByt.getD k []).getD j 0) (va_cpy f (fun _ => 0) 0 0 16) 0 n (vLen.getD k 0))))]) (B := []) (C := RJ4) (T := TJ4) (M := 4) (ci := 1) (v := .int (nI (n + (vLen.getD k 0)))) G hP hD hS 0 3 i_J4 rfl tyJ4 tyJ4_ok nmJ4 rfl (by decide) q2_39 rfl rfl rfl (Nat.le_of_ble_eq_true rfl) dJ5_append_cf1ce_40 (fun H locs hP hD hS => ?_)
  have hP : va_P D vwCl ([(z, .inr (1, [.ref q9, .int 0, .int ml, .int (nI (n + (vLen.getD k 0)))])), (q9, .inl (cA 5, 55, .inl (va_cpy (fun j => (vByt.getD k []).getD j 0) (va_cpy f (fun _ => 0) 0 0 16) 0 n (vLen.getD k 0))))]) H := hP
  have hD : va_D A ([(z, .inr (1, [.ref q9, .int 0, .int ml, .int (nI (n + (vLen.getD k 0)))])), (q9, .inl (cA 5, 55, .inl (va_cpy (fun j => (vByt.getD k []).getD j 0) (va_cpy f (fun _ => 0) 0 0 16) 0 n (vLen.getD k 0))))]) := hD
  refine lv_aload_n hx hb dJ5_append_cf1ce_43 rfl (lv_at hl 1 rfl) ?_
  exact c_reta q9 trivial rfl (Or.inl ⟨_, rfl⟩) G hP hD hS (by decide) dJ5_append_cf1ce_44
set_option maxHeartbeats 4000000 in
set_option maxRecDepth 100000 in
theorem mJ4_appS1 (l : Launch) (D : va_G) (cA : Nat → ClassId) (ad adF adW tt : Nat → Nat) (ST : gST) (hT : STE ad adF adW tt ST) (hW : STW adW tt ST) (hSQ : STQ ST) (adV tv : Nat → Nat) (hV : STV adV tv ST) (k : Nat) (hk : k < 16) (z q n : Nat) (ml : Int32) (f : Nat → Int32) (hf : sb_Fit f) (h55 : n + (vLen.getD k 0) = 55) : gMetG l yJ4_append_15ec4 cJ4_append_15ec4 2 (some (.object "java/lang/StringBuilder")) 6 1 55 D (TYS cA) ST ([(z, .inr (1, [.ref q, .int 0, .int ml, .int (nI n)])), (q, .inl (cA 5, 16, .inl f))]) [.ref z, .ref (adV k)] (gGr D (TYS cA) (fun _ : Nat => True) (fun _ => z) (fun q9 => [(z, .inr (1, [.ref q9, .int 0, .int ml, .int (nI (n + (vLen.getD k 0)))])), (q9, .inl (cA 5, 55, .inl (va_cpy (fun j => (vByt.getD k []).getD j 0) (va_cpy f (fun _ => 0) 0 0 16) 0 n (vLen.getD k 0))))])) := by
  refine g_ofWG hT.1 (by decide +kernel) (Nat.le_of_ble_eq_true rfl) ?_
  intro p e s m args below meth c ls A G hP hD hl
  have G : GC p s m args meth c cJ4_append_15ec4 2 RJ4 (some (.object "java/lang/StringBuilder")) A D (TYS cA) ST := G
  have hx := G.1
  have hb := G.2.1
  have hS : va_S A s.heap s.heap [] := va_S.rf
  have hP : va_P D vwCl ([(z, .inr (1, [.ref q, .int 0, .int ml, .int (nI n)])), (q, .inl (cA 5, 16, .inl f))]) s.heap := hP
  have hD : va_D A ([(z, .inr (1, [.ref q, .int 0, .int ml, .int (nI n)])), (q, .inl (cA 5, 16, .inl f))]) := hD
  have hl : lv_has ls 2 [(0, .ref z), (1, .ref (adV k))] := hl
  refine lv_aload_n hx hb dJ4_append_15ec4_0 rfl (lv_at hl 0 rfl) ?_
  refine lv_aload_n hx hb dJ4_append_15ec4_1 rfl (lv_at hl 1 rfl) ?_
  refine c_callSUr (nA := 1) (C := RJ4) (T := TJ4) (M := 4) (ci := 1) ([]) ([(z, .inr (1, [.ref q, .int 0, .int ml, .int (nI n)])), (q, .inl (cA 5, 16, .inl f))]) 0 rfl rfl (mJ5_appS1 l D cA ad adF adW tt ST hT hW hSQ adV tv hV k hk z q n ml f hf h55) G hP hD hS (List.Perm.of_eq rfl) (g_goodSU q6_153 q7_98 q2_48 q6_154 q1_12 q6_155) (by decide +kernel) ⟨Nat.le_of_ble_eq_true rfl, Nat.le_of_ble_eq_true rfl, Nat.le_of_ble_eq_true rfl, Nat.le_of_ble_eq_true rfl⟩ rfl hl.1 [] rfl (Nat.le_of_ble_eq_true rfl) dJ4_append_15ec4_2 (fun q9 H locs hok hP hD hS => ?_)
  have hP : va_P D vwCl ([(z, .inr (1, [.ref q9, .int 0, .int ml, .int (nI (n + (vLen.getD k 0)))])), (q9, .inl (cA 5, 55, .inl (va_cpy (fun j => (vByt.getD k []).getD j 0) (va_cpy f (fun _ => 0) 0 0 16) 0 n (vLen.getD k 0))))]) H := hP
  have hD : va_D A ([(z, .inr (1, [.ref q9, .int 0, .int ml, .int (nI (n + (vLen.getD k 0)))])), (q9, .inl (cA 5, 55, .inl (va_cpy (fun j => (vByt.getD k []).getD j 0) (va_cpy f (fun _ => 0) 0 0 16) 0 n (vLen.getD k 0))))]) := hD
  refine lv_pop hx hb dJ4_append_15ec4_5 rfl ?_
  refine lv_aload_n hx hb dJ4_append_15ec4_6 rfl (lv_at hl 0 rfl) ?_
  exact c_reta q9 trivial rfl (Or.inl ⟨_, rfl⟩) G hP hD hS (by decide) dJ4_append_15ec4_7
