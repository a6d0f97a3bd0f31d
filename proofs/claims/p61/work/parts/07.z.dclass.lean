theorem dX1_init_0 : decode cX1_init 0 = .ok (.aload_n 0, 1) := by decide +kernel
theorem dX1_init_1 : decode cX1_init 1 = .ok (.invokespecial 3, 3) := by decide +kernel
theorem dX1_init_4 : decode cX1_init 4 = .ok (.aload_n 0, 1) := by decide +kernel
theorem dX1_init_5 : decode cX1_init 5 = .ok (.getstatic 9, 3) := by decide +kernel
theorem dX1_init_8 : decode cX1_init 8 = .ok (.putfield 15, 3) := by decide +kernel
theorem dX1_init_11 : decode cX1_init 11 = .ok (.aload_n 0, 1) := by decide +kernel
theorem dX1_init_12 : decode cX1_init 12 = .ok (.iconst 3, 1) := by decide +kernel
theorem dX1_init_13 : decode cX1_init 13 = .ok (.newarray .int, 2) := by decide +kernel
theorem dX1_init_15 : decode cX1_init 15 = .ok (.putfield 20, 3) := by decide +kernel
theorem dX1_init_18 : decode cX1_init 18 = .ok (.return_, 1) := by decide +kernel
theorem dX3_init_0 : decode cX3_init 0 = .ok (.aload_n 0, 1) := by decide +kernel
theorem dX3_init_1 : decode cX3_init 1 = .ok (.invokespecial 3, 3) := by decide +kernel
theorem dX3_init_4 : decode cX3_init 4 = .ok (.aload_n 0, 1) := by decide +kernel
theorem dX3_init_5 : decode cX3_init 5 = .ok (.bipush 8, 2) := by decide +kernel
theorem dX3_init_7 : decode cX3_init 7 = .ok (.anewarray 9, 3) := by decide +kernel
theorem dX3_init_10 : decode cX3_init 10 = .ok (.putfield 11, 3) := by decide +kernel
theorem dX3_init_13 : decode cX3_init 13 = .ok (.aload_n 0, 1) := by decide +kernel
theorem dX3_init_14 : decode cX3_init 14 = .ok (.iconst 0, 1) := by decide +kernel
theorem dX3_init_15 : decode cX3_init 15 = .ok (.putfield 17, 3) := by decide +kernel
theorem dX3_init_18 : decode cX3_init 18 = .ok (.aload_n 0, 1) := by decide +kernel
theorem dX3_init_19 : decode cX3_init 19 = .ok (.iconst 0, 1) := by decide +kernel
theorem dX3_init_20 : decode cX3_init 20 = .ok (.putfield 21, 3) := by decide +kernel
theorem dX3_init_23 : decode cX3_init 23 = .ok (.iconst 0, 1) := by decide +kernel
theorem dX3_init_24 : decode cX3_init 24 = .ok (.istore_n 1, 1) := by decide +kernel
theorem dX3_init_25 : decode cX3_init 25 = .ok (.iload_n 1, 1) := by decide +kernel
theorem dX3_init_26 : decode cX3_init 26 = .ok (.bipush 8, 2) := by decide +kernel
theorem dX3_init_28 : decode cX3_init 28 = .ok (.if_icmp .ge 22, 3) := by decide +kernel
theorem dX3_init_31 : decode cX3_init 31 = .ok (.aload_n 0, 1) := by decide +kernel
theorem dX3_init_32 : decode cX3_init 32 = .ok (.getfield 11, 3) := by decide +kernel
theorem dX3_init_35 : decode cX3_init 35 = .ok (.iload_n 1, 1) := by decide +kernel
theorem dX3_init_36 : decode cX3_init 36 = .ok (.new 9, 3) := by decide +kernel
theorem dX3_init_39 : decode cX3_init 39 = .ok (.dup, 1) := by decide +kernel
theorem dX3_init_40 : decode cX3_init 40 = .ok (.invokespecial 24, 3) := by decide +kernel
theorem dX3_init_43 : decode cX3_init 43 = .ok (.aastore, 1) := by decide +kernel
theorem dX3_init_44 : decode cX3_init 44 = .ok (.iinc 1 1, 3) := by decide +kernel
theorem dX3_init_47 : decode cX3_init 47 = .ok (.goto (-22), 3) := by decide +kernel
theorem dX3_init_50 : decode cX3_init 50 = .ok (.return_, 1) := by decide +kernel
theorem dX3_push_0 : decode cX3_push 0 = .ok (.aload_n 0, 1) := by decide +kernel
theorem dX3_push_1 : decode cX3_push 1 = .ok (.getfield 11, 3) := by decide +kernel
theorem dX3_push_4 : decode cX3_push 4 = .ok (.aload_n 0, 1) := by decide +kernel
theorem dX3_push_5 : decode cX3_push 5 = .ok (.getfield 17, 3) := by decide +kernel
theorem dX3_push_8 : decode cX3_push 8 = .ok (.aaload, 1) := by decide +kernel
theorem dX3_push_9 : decode cX3_push 9 = .ok (.aload_n 1, 1) := by decide +kernel
theorem dX3_push_10 : decode cX3_push 10 = .ok (.invokevirtual 25, 3) := by decide +kernel
theorem dX3_push_13 : decode cX3_push 13 = .ok (.aload_n 0, 1) := by decide +kernel
theorem dX3_push_14 : decode cX3_push 14 = .ok (.aload_n 0, 1) := by decide +kernel
theorem dX3_push_15 : decode cX3_push 15 = .ok (.getfield 17, 3) := by decide +kernel
theorem dX3_push_18 : decode cX3_push 18 = .ok (.iconst 1, 1) := by decide +kernel
theorem dX3_push_19 : decode cX3_push 19 = .ok (.iadd, 1) := by decide +kernel
theorem dX3_push_20 : decode cX3_push 20 = .ok (.bipush 8, 2) := by decide +kernel
theorem dX3_push_22 : decode cX3_push 22 = .ok (.invokestatic 29, 3) := by decide +kernel
theorem dX3_push_25 : decode cX3_push 25 = .ok (.putfield 17, 3) := by decide +kernel
theorem dX3_push_28 : decode cX3_push 28 = .ok (.aload_n 0, 1) := by decide +kernel
theorem dX3_push_29 : decode cX3_push 29 = .ok (.aload_n 0, 1) := by decide +kernel
theorem dX3_push_30 : decode cX3_push 30 = .ok (.getfield 21, 3) := by decide +kernel
theorem dX3_push_33 : decode cX3_push 33 = .ok (.iconst 1, 1) := by decide +kernel
theorem dX3_push_34 : decode cX3_push 34 = .ok (.iadd, 1) := by decide +kernel
theorem dX3_push_35 : decode cX3_push 35 = .ok (.bipush 8, 2) := by decide +kernel
theorem dX3_push_37 : decode cX3_push 37 = .ok (.invokestatic 35, 3) := by decide +kernel
theorem dX3_push_40 : decode cX3_push 40 = .ok (.putfield 21, 3) := by decide +kernel
theorem dX3_push_43 : decode cX3_push 43 = .ok (.return_, 1) := by decide +kernel
theorem dX3_popInto_0 : decode cX3_popInto 0 = .ok (.aload_n 0, 1) := by decide +kernel
theorem dX3_popInto_1 : decode cX3_popInto 1 = .ok (.aload_n 0, 1) := by decide +kernel
theorem dX3_popInto_2 : decode cX3_popInto 2 = .ok (.getfield 17, 3) := by decide +kernel
theorem dX3_popInto_5 : decode cX3_popInto 5 = .ok (.iconst 1, 1) := by decide +kernel
theorem dX3_popInto_6 : decode cX3_popInto 6 = .ok (.isub, 1) := by decide +kernel
theorem dX3_popInto_7 : decode cX3_popInto 7 = .ok (.bipush 8, 2) := by decide +kernel
theorem dX3_popInto_9 : decode cX3_popInto 9 = .ok (.invokestatic 29, 3) := by decide +kernel
theorem dX3_popInto_12 : decode cX3_popInto 12 = .ok (.putfield 17, 3) := by decide +kernel
theorem dX3_popInto_15 : decode cX3_popInto 15 = .ok (.aload_n 1, 1) := by decide +kernel
theorem dX3_popInto_16 : decode cX3_popInto 16 = .ok (.aload_n 0, 1) := by decide +kernel
theorem dX3_popInto_17 : decode cX3_popInto 17 = .ok (.getfield 11, 3) := by decide +kernel
theorem dX3_popInto_20 : decode cX3_popInto 20 = .ok (.aload_n 0, 1) := by decide +kernel
theorem dX3_popInto_21 : decode cX3_popInto 21 = .ok (.getfield 17, 3) := by decide +kernel
theorem dX3_popInto_24 : decode cX3_popInto 24 = .ok (.aaload, 1) := by decide +kernel
theorem dX3_popInto_25 : decode cX3_popInto 25 = .ok (.invokevirtual 25, 3) := by decide +kernel
theorem dX3_popInto_28 : decode cX3_popInto 28 = .ok (.aload_n 0, 1) := by decide +kernel
theorem dX3_popInto_29 : decode cX3_popInto 29 = .ok (.dup, 1) := by decide +kernel
theorem dX3_popInto_30 : decode cX3_popInto 30 = .ok (.getfield 21, 3) := by decide +kernel
theorem dX3_popInto_33 : decode cX3_popInto 33 = .ok (.iconst 1, 1) := by decide +kernel
theorem dX3_popInto_34 : decode cX3_popInto 34 = .ok (.isub, 1) := by decide +kernel
theorem dX3_popInto_35 : decode cX3_popInto 35 = .ok (.putfield 21, 3) := by decide +kernel
theorem dX3_popInto_38 : decode cX3_popInto 38 = .ok (.return_, 1) := by decide +kernel
theorem dX3_forget_0 : decode cX3_forget 0 = .ok (.aload_n 0, 1) := by decide +kernel
theorem dX3_forget_1 : decode cX3_forget 1 = .ok (.iconst 0, 1) := by decide +kernel
theorem dX3_forget_2 : decode cX3_forget 2 = .ok (.putfield 21, 3) := by decide +kernel
theorem dX3_forget_5 : decode cX3_forget 5 = .ok (.return_, 1) := by decide +kernel
theorem dX5_init_0 : decode cX5_init 0 = .ok (.aload_n 0, 1) := by decide +kernel
theorem dX5_init_1 : decode cX5_init 1 = .ok (.invokespecial 3, 3) := by decide +kernel
theorem dX5_init_4 : decode cX5_init 4 = .ok (.aload_n 0, 1) := by decide +kernel
theorem dX5_init_5 : decode cX5_init 5 = .ok (.bipush 8, 2) := by decide +kernel
theorem dX5_init_7 : decode cX5_init 7 = .ok (.newarray .int, 2) := by decide +kernel
theorem dX5_init_9 : decode cX5_init 9 = .ok (.putfield 9, 3) := by decide +kernel
theorem dX5_init_12 : decode cX5_init 12 = .ok (.aload_n 0, 1) := by decide +kernel
theorem dX5_init_13 : decode cX5_init 13 = .ok (.bipush 8, 2) := by decide +kernel
theorem dX5_init_15 : decode cX5_init 15 = .ok (.newarray .int, 2) := by decide +kernel
theorem dX5_init_17 : decode cX5_init 17 = .ok (.putfield 15, 3) := by decide +kernel
theorem dX5_init_20 : decode cX5_init 20 = .ok (.aload_n 0, 1) := by decide +kernel
theorem dX5_init_21 : decode cX5_init 21 = .ok (.bipush 8, 2) := by decide +kernel
theorem dX5_init_23 : decode cX5_init 23 = .ok (.newarray .int, 2) := by decide +kernel
theorem dX5_init_25 : decode cX5_init 25 = .ok (.putfield 18, 3) := by decide +kernel
theorem dX5_init_28 : decode cX5_init 28 = .ok (.aload_n 0, 1) := by decide +kernel
theorem dX5_init_29 : decode cX5_init 29 = .ok (.iconst 0, 1) := by decide +kernel
theorem dX5_init_30 : decode cX5_init 30 = .ok (.putfield 21, 3) := by decide +kernel
theorem dX5_init_33 : decode cX5_init 33 = .ok (.return_, 1) := by decide +kernel
theorem dX5_copyFrom_0 : decode cX5_copyFrom 0 = .ok (.aload_n 1, 1) := by decide +kernel
theorem dX5_copyFrom_1 : decode cX5_copyFrom 1 = .ok (.getfield 9, 3) := by decide +kernel
theorem dX5_copyFrom_4 : decode cX5_copyFrom 4 = .ok (.iconst 0, 1) := by decide +kernel
theorem dX5_copyFrom_5 : decode cX5_copyFrom 5 = .ok (.aload_n 0, 1) := by decide +kernel
theorem dX5_copyFrom_6 : decode cX5_copyFrom 6 = .ok (.getfield 9, 3) := by decide +kernel
theorem dX5_copyFrom_9 : decode cX5_copyFrom 9 = .ok (.iconst 0, 1) := by decide +kernel
theorem dX5_copyFrom_10 : decode cX5_copyFrom 10 = .ok (.bipush 8, 2) := by decide +kernel
theorem dX5_copyFrom_12 : decode cX5_copyFrom 12 = .ok (.invokestatic 25, 3) := by decide +kernel
theorem dX5_copyFrom_15 : decode cX5_copyFrom 15 = .ok (.aload_n 1, 1) := by decide +kernel
theorem dX5_copyFrom_16 : decode cX5_copyFrom 16 = .ok (.getfield 15, 3) := by decide +kernel
theorem dX5_copyFrom_19 : decode cX5_copyFrom 19 = .ok (.iconst 0, 1) := by decide +kernel
theorem dX5_copyFrom_20 : decode cX5_copyFrom 20 = .ok (.aload_n 0, 1) := by decide +kernel
theorem dX5_copyFrom_21 : decode cX5_copyFrom 21 = .ok (.getfield 15, 3) := by decide +kernel
theorem dX5_copyFrom_24 : decode cX5_copyFrom 24 = .ok (.iconst 0, 1) := by decide +kernel
theorem dX5_copyFrom_25 : decode cX5_copyFrom 25 = .ok (.bipush 8, 2) := by decide +kernel
theorem dX5_copyFrom_27 : decode cX5_copyFrom 27 = .ok (.invokestatic 25, 3) := by decide +kernel
theorem dX5_copyFrom_30 : decode cX5_copyFrom 30 = .ok (.aload_n 1, 1) := by decide +kernel
theorem dX5_copyFrom_31 : decode cX5_copyFrom 31 = .ok (.getfield 18, 3) := by decide +kernel
theorem dX5_copyFrom_34 : decode cX5_copyFrom 34 = .ok (.iconst 0, 1) := by decide +kernel
theorem dX5_copyFrom_35 : decode cX5_copyFrom 35 = .ok (.aload_n 0, 1) := by decide +kernel
theorem dX5_copyFrom_36 : decode cX5_copyFrom 36 = .ok (.getfield 18, 3) := by decide +kernel
theorem dX5_copyFrom_39 : decode cX5_copyFrom 39 = .ok (.iconst 0, 1) := by decide +kernel
theorem dX5_copyFrom_40 : decode cX5_copyFrom 40 = .ok (.bipush 8, 2) := by decide +kernel
theorem dX5_copyFrom_42 : decode cX5_copyFrom 42 = .ok (.invokestatic 25, 3) := by decide +kernel
theorem dX5_copyFrom_45 : decode cX5_copyFrom 45 = .ok (.aload_n 0, 1) := by decide +kernel
theorem dX5_copyFrom_46 : decode cX5_copyFrom 46 = .ok (.aload_n 1, 1) := by decide +kernel
theorem dX5_copyFrom_47 : decode cX5_copyFrom 47 = .ok (.getfield 21, 3) := by decide +kernel
theorem dX5_copyFrom_50 : decode cX5_copyFrom 50 = .ok (.putfield 21, 3) := by decide +kernel
theorem dX5_copyFrom_53 : decode cX5_copyFrom 53 = .ok (.return_, 1) := by decide +kernel
theorem dX5_remember_0 : decode cX5_remember 0 = .ok (.aload_n 0, 1) := by decide +kernel
theorem dX5_remember_1 : decode cX5_remember 1 = .ok (.getfield 21, 3) := by decide +kernel
theorem dX5_remember_4 : decode cX5_remember 4 = .ok (.bipush 8, 2) := by decide +kernel
theorem dX5_remember_6 : decode cX5_remember 6 = .ok (.invokestatic 31, 3) := by decide +kernel
theorem dX5_remember_9 : decode cX5_remember 9 = .ok (.istore 4, 2) := by decide +kernel
theorem dX5_remember_11 : decode cX5_remember 11 = .ok (.aload_n 0, 1) := by decide +kernel
theorem dX5_remember_12 : decode cX5_remember 12 = .ok (.getfield 9, 3) := by decide +kernel
theorem dX5_remember_15 : decode cX5_remember 15 = .ok (.iload 4, 2) := by decide +kernel
theorem dX5_remember_17 : decode cX5_remember 17 = .ok (.iload_n 1, 1) := by decide +kernel
theorem dX5_remember_18 : decode cX5_remember 18 = .ok (.iastore, 1) := by decide +kernel
theorem dX5_remember_19 : decode cX5_remember 19 = .ok (.aload_n 0, 1) := by decide +kernel
theorem dX5_remember_20 : decode cX5_remember 20 = .ok (.getfield 15, 3) := by decide +kernel
theorem dX5_remember_23 : decode cX5_remember 23 = .ok (.iload 4, 2) := by decide +kernel
theorem dX5_remember_25 : decode cX5_remember 25 = .ok (.iload_n 2, 1) := by decide +kernel
theorem dX5_remember_26 : decode cX5_remember 26 = .ok (.iastore, 1) := by decide +kernel
theorem dX5_remember_27 : decode cX5_remember 27 = .ok (.aload_n 0, 1) := by decide +kernel
theorem dX5_remember_28 : decode cX5_remember 28 = .ok (.getfield 18, 3) := by decide +kernel
theorem dX5_remember_31 : decode cX5_remember 31 = .ok (.iload 4, 2) := by decide +kernel
theorem dX5_remember_33 : decode cX5_remember 33 = .ok (.iload_n 3, 1) := by decide +kernel
theorem dX5_remember_34 : decode cX5_remember 34 = .ok (.iastore, 1) := by decide +kernel
theorem dX5_remember_35 : decode cX5_remember 35 = .ok (.aload_n 0, 1) := by decide +kernel
theorem dX5_remember_36 : decode cX5_remember 36 = .ok (.dup, 1) := by decide +kernel
theorem dX5_remember_37 : decode cX5_remember 37 = .ok (.getfield 21, 3) := by decide +kernel
theorem dX5_remember_40 : decode cX5_remember 40 = .ok (.iconst 1, 1) := by decide +kernel
theorem dX5_remember_41 : decode cX5_remember 41 = .ok (.iadd, 1) := by decide +kernel
theorem dX5_remember_42 : decode cX5_remember 42 = .ok (.putfield 21, 3) := by decide +kernel
theorem dX5_remember_45 : decode cX5_remember 45 = .ok (.return_, 1) := by decide +kernel
theorem dX5_rowOf_0 : decode cX5_rowOf 0 = .ok (.iload_n 1, 1) := by decide +kernel
theorem dX5_rowOf_1 : decode cX5_rowOf 1 = .ok (.ifCond .lt 17, 3) := by decide +kernel
theorem dX5_rowOf_4 : decode cX5_rowOf 4 = .ok (.iload_n 1, 1) := by decide +kernel
theorem dX5_rowOf_5 : decode cX5_rowOf 5 = .ok (.bipush 8, 2) := by decide +kernel
theorem dX5_rowOf_7 : decode cX5_rowOf 7 = .ok (.if_icmp .ge 11, 3) := by decide +kernel
theorem dX5_rowOf_10 : decode cX5_rowOf 10 = .ok (.iload_n 1, 1) := by decide +kernel
theorem dX5_rowOf_11 : decode cX5_rowOf 11 = .ok (.aload_n 0, 1) := by decide +kernel
theorem dX5_rowOf_12 : decode cX5_rowOf 12 = .ok (.getfield 21, 3) := by decide +kernel
theorem dX5_rowOf_15 : decode cX5_rowOf 15 = .ok (.if_icmp .lt 5, 3) := by decide +kernel
theorem dX5_rowOf_18 : decode cX5_rowOf 18 = .ok (.iconst (-1), 1) := by decide +kernel
theorem dX5_rowOf_19 : decode cX5_rowOf 19 = .ok (.ireturn, 1) := by decide +kernel
theorem dX5_rowOf_20 : decode cX5_rowOf 20 = .ok (.aload_n 0, 1) := by decide +kernel
theorem dX5_rowOf_21 : decode cX5_rowOf 21 = .ok (.getfield 21, 3) := by decide +kernel
theorem dX5_rowOf_24 : decode cX5_rowOf 24 = .ok (.iconst 1, 1) := by decide +kernel
theorem dX5_rowOf_25 : decode cX5_rowOf 25 = .ok (.isub, 1) := by decide +kernel
theorem dX5_rowOf_26 : decode cX5_rowOf 26 = .ok (.iload_n 1, 1) := by decide +kernel
theorem dX5_rowOf_27 : decode cX5_rowOf 27 = .ok (.isub, 1) := by decide +kernel
theorem dX5_rowOf_28 : decode cX5_rowOf 28 = .ok (.bipush 8, 2) := by decide +kernel
theorem dX5_rowOf_30 : decode cX5_rowOf 30 = .ok (.invokestatic 31, 3) := by decide +kernel
theorem dX5_rowOf_33 : decode cX5_rowOf 33 = .ok (.ireturn, 1) := by decide +kernel
theorem dX6_init_0 : decode cX6_init 0 = .ok (.aload_n 0, 1) := by decide +kernel
theorem dX6_init_1 : decode cX6_init 1 = .ok (.invokespecial 3, 3) := by decide +kernel
theorem dX6_init_4 : decode cX6_init 4 = .ok (.aload_n 0, 1) := by decide +kernel
theorem dX6_init_5 : decode cX6_init 5 = .ok (.new 9, 3) := by decide +kernel
theorem dX6_init_8 : decode cX6_init 8 = .ok (.dup, 1) := by decide +kernel
theorem dX6_init_9 : decode cX6_init 9 = .ok (.invokespecial 11, 3) := by decide +kernel
theorem dX6_init_12 : decode cX6_init 12 = .ok (.putfield 12, 3) := by decide +kernel
theorem dX6_init_15 : decode cX6_init 15 = .ok (.aload_n 0, 1) := by decide +kernel
theorem dX6_init_16 : decode cX6_init 16 = .ok (.new 18, 3) := by decide +kernel
theorem dX6_init_19 : decode cX6_init 19 = .ok (.dup, 1) := by decide +kernel
theorem dX6_init_20 : decode cX6_init 20 = .ok (.invokespecial 20, 3) := by decide +kernel
theorem dX6_init_23 : decode cX6_init 23 = .ok (.putfield 21, 3) := by decide +kernel
theorem dX6_init_26 : decode cX6_init 26 = .ok (.aload_n 0, 1) := by decide +kernel
theorem dX6_init_27 : decode cX6_init 27 = .ok (.new 25, 3) := by decide +kernel
theorem dX6_init_30 : decode cX6_init 30 = .ok (.dup, 1) := by decide +kernel
theorem dX6_init_31 : decode cX6_init 31 = .ok (.invokespecial 27, 3) := by decide +kernel
theorem dX6_init_34 : decode cX6_init 34 = .ok (.putfield 28, 3) := by decide +kernel
theorem dX6_init_37 : decode cX6_init 37 = .ok (.aload_n 0, 1) := by decide +kernel
theorem dX6_init_38 : decode cX6_init 38 = .ok (.iconst 3, 1) := by decide +kernel
theorem dX6_init_39 : decode cX6_init 39 = .ok (.newarray .int, 2) := by decide +kernel
theorem dX6_init_41 : decode cX6_init 41 = .ok (.putfield 32, 3) := by decide +kernel
theorem dX6_init_44 : decode cX6_init 44 = .ok (.aload_n 0, 1) := by decide +kernel
theorem dX6_init_45 : decode cX6_init 45 = .ok (.iconst 3, 1) := by decide +kernel
theorem dX6_init_46 : decode cX6_init 46 = .ok (.newarray .int, 2) := by decide +kernel
theorem dX6_init_48 : decode cX6_init 48 = .ok (.putfield 36, 3) := by decide +kernel
theorem dX6_init_51 : decode cX6_init 51 = .ok (.aload_n 0, 1) := by decide +kernel
theorem dX6_init_52 : decode cX6_init 52 = .ok (.bipush 8, 2) := by decide +kernel
theorem dX6_init_54 : decode cX6_init 54 = .ok (.newarray .int, 2) := by decide +kernel
theorem dX6_init_56 : decode cX6_init 56 = .ok (.putfield 39, 3) := by decide +kernel
theorem dX6_init_59 : decode cX6_init 59 = .ok (.aload_n 0, 1) := by decide +kernel
theorem dX6_init_60 : decode cX6_init 60 = .ok (.iconst 0, 1) := by decide +kernel
theorem dX6_init_61 : decode cX6_init 61 = .ok (.putfield 42, 3) := by decide +kernel
theorem dX6_init_64 : decode cX6_init 64 = .ok (.iconst 0, 1) := by decide +kernel
theorem dX6_init_65 : decode cX6_init 65 = .ok (.istore_n 1, 1) := by decide +kernel
theorem dX6_init_66 : decode cX6_init 66 = .ok (.iload_n 1, 1) := by decide +kernel
theorem dX6_init_67 : decode cX6_init 67 = .ok (.iconst 3, 1) := by decide +kernel
theorem dX6_init_68 : decode cX6_init 68 = .ok (.if_icmp .ge 16, 3) := by decide +kernel
theorem dX6_init_71 : decode cX6_init 71 = .ok (.aload_n 0, 1) := by decide +kernel
theorem dX6_init_72 : decode cX6_init 72 = .ok (.getfield 32, 3) := by decide +kernel
theorem dX6_init_75 : decode cX6_init 75 = .ok (.iload_n 1, 1) := by decide +kernel
theorem dX6_init_76 : decode cX6_init 76 = .ok (.iconst 1, 1) := by decide +kernel
theorem dX6_init_77 : decode cX6_init 77 = .ok (.iastore, 1) := by decide +kernel
theorem dX6_init_78 : decode cX6_init 78 = .ok (.iinc 1 1, 3) := by decide +kernel
theorem dX6_init_81 : decode cX6_init 81 = .ok (.goto (-15), 3) := by decide +kernel
theorem dX6_init_84 : decode cX6_init 84 = .ok (.iconst 0, 1) := by decide +kernel
theorem dX6_init_85 : decode cX6_init 85 = .ok (.istore_n 1, 1) := by decide +kernel
theorem dX6_init_86 : decode cX6_init 86 = .ok (.iload_n 1, 1) := by decide +kernel
theorem dX6_init_87 : decode cX6_init 87 = .ok (.bipush 8, 2) := by decide +kernel
theorem dX6_init_89 : decode cX6_init 89 = .ok (.if_icmp .ge 16, 3) := by decide +kernel
theorem dX6_init_92 : decode cX6_init 92 = .ok (.aload_n 0, 1) := by decide +kernel
theorem dX6_init_93 : decode cX6_init 93 = .ok (.getfield 39, 3) := by decide +kernel
theorem dX6_init_96 : decode cX6_init 96 = .ok (.iload_n 1, 1) := by decide +kernel
theorem dX6_init_97 : decode cX6_init 97 = .ok (.iconst 3, 1) := by decide +kernel
theorem dX6_init_98 : decode cX6_init 98 = .ok (.iastore, 1) := by decide +kernel
theorem dX6_init_99 : decode cX6_init 99 = .ok (.iinc 1 1, 3) := by decide +kernel
theorem dX6_init_102 : decode cX6_init 102 = .ok (.goto (-16), 3) := by decide +kernel
theorem dX6_init_105 : decode cX6_init 105 = .ok (.return_, 1) := by decide +kernel
theorem dX6_copyFrom_0 : decode cX6_copyFrom 0 = .ok (.aload_n 0, 1) := by decide +kernel
theorem dX6_copyFrom_1 : decode cX6_copyFrom 1 = .ok (.getfield 12, 3) := by decide +kernel
theorem dX6_copyFrom_4 : decode cX6_copyFrom 4 = .ok (.aload_n 1, 1) := by decide +kernel
theorem dX6_copyFrom_5 : decode cX6_copyFrom 5 = .ok (.getfield 12, 3) := by decide +kernel
theorem dX6_copyFrom_8 : decode cX6_copyFrom 8 = .ok (.invokevirtual 46, 3) := by decide +kernel
theorem dX6_copyFrom_11 : decode cX6_copyFrom 11 = .ok (.aload_n 0, 1) := by decide +kernel
theorem dX6_copyFrom_12 : decode cX6_copyFrom 12 = .ok (.getfield 21, 3) := by decide +kernel
theorem dX6_copyFrom_15 : decode cX6_copyFrom 15 = .ok (.aload_n 1, 1) := by decide +kernel
theorem dX6_copyFrom_16 : decode cX6_copyFrom 16 = .ok (.getfield 21, 3) := by decide +kernel
theorem dX6_copyFrom_19 : decode cX6_copyFrom 19 = .ok (.invokevirtual 50, 3) := by decide +kernel
theorem dX6_copyFrom_22 : decode cX6_copyFrom 22 = .ok (.aload_n 0, 1) := by decide +kernel
theorem dX6_copyFrom_23 : decode cX6_copyFrom 23 = .ok (.getfield 28, 3) := by decide +kernel
theorem dX6_copyFrom_26 : decode cX6_copyFrom 26 = .ok (.aload_n 1, 1) := by decide +kernel
theorem dX6_copyFrom_27 : decode cX6_copyFrom 27 = .ok (.getfield 28, 3) := by decide +kernel
theorem dX6_copyFrom_30 : decode cX6_copyFrom 30 = .ok (.invokevirtual 53, 3) := by decide +kernel
theorem dX6_copyFrom_33 : decode cX6_copyFrom 33 = .ok (.aload_n 1, 1) := by decide +kernel
theorem dX6_copyFrom_34 : decode cX6_copyFrom 34 = .ok (.getfield 32, 3) := by decide +kernel
theorem dX6_copyFrom_37 : decode cX6_copyFrom 37 = .ok (.iconst 0, 1) := by decide +kernel
theorem dX6_copyFrom_38 : decode cX6_copyFrom 38 = .ok (.aload_n 0, 1) := by decide +kernel
theorem dX6_copyFrom_39 : decode cX6_copyFrom 39 = .ok (.getfield 32, 3) := by decide +kernel
theorem dX6_copyFrom_42 : decode cX6_copyFrom 42 = .ok (.iconst 0, 1) := by decide +kernel
theorem dX6_copyFrom_43 : decode cX6_copyFrom 43 = .ok (.iconst 3, 1) := by decide +kernel
theorem dX6_copyFrom_44 : decode cX6_copyFrom 44 = .ok (.invokestatic 56, 3) := by decide +kernel
theorem dX6_copyFrom_47 : decode cX6_copyFrom 47 = .ok (.aload_n 1, 1) := by decide +kernel
theorem dX6_copyFrom_48 : decode cX6_copyFrom 48 = .ok (.getfield 36, 3) := by decide +kernel
theorem dX6_copyFrom_51 : decode cX6_copyFrom 51 = .ok (.iconst 0, 1) := by decide +kernel
theorem dX6_copyFrom_52 : decode cX6_copyFrom 52 = .ok (.aload_n 0, 1) := by decide +kernel
theorem dX6_copyFrom_53 : decode cX6_copyFrom 53 = .ok (.getfield 36, 3) := by decide +kernel
theorem dX6_copyFrom_56 : decode cX6_copyFrom 56 = .ok (.iconst 0, 1) := by decide +kernel
theorem dX6_copyFrom_57 : decode cX6_copyFrom 57 = .ok (.iconst 3, 1) := by decide +kernel
theorem dX6_copyFrom_58 : decode cX6_copyFrom 58 = .ok (.invokestatic 56, 3) := by decide +kernel
theorem dX6_copyFrom_61 : decode cX6_copyFrom 61 = .ok (.aload_n 1, 1) := by decide +kernel
theorem dX6_copyFrom_62 : decode cX6_copyFrom 62 = .ok (.getfield 39, 3) := by decide +kernel
theorem dX6_copyFrom_65 : decode cX6_copyFrom 65 = .ok (.iconst 0, 1) := by decide +kernel
theorem dX6_copyFrom_66 : decode cX6_copyFrom 66 = .ok (.aload_n 0, 1) := by decide +kernel
theorem dX6_copyFrom_67 : decode cX6_copyFrom 67 = .ok (.getfield 39, 3) := by decide +kernel
theorem dX6_copyFrom_70 : decode cX6_copyFrom 70 = .ok (.iconst 0, 1) := by decide +kernel
theorem dX6_copyFrom_71 : decode cX6_copyFrom 71 = .ok (.bipush 8, 2) := by decide +kernel
theorem dX6_copyFrom_73 : decode cX6_copyFrom 73 = .ok (.invokestatic 56, 3) := by decide +kernel
theorem dX6_copyFrom_76 : decode cX6_copyFrom 76 = .ok (.aload_n 0, 1) := by decide +kernel
theorem dX6_copyFrom_77 : decode cX6_copyFrom 77 = .ok (.aload_n 1, 1) := by decide +kernel
theorem dX6_copyFrom_78 : decode cX6_copyFrom 78 = .ok (.getfield 42, 3) := by decide +kernel
theorem dX6_copyFrom_81 : decode cX6_copyFrom 81 = .ok (.putfield 42, 3) := by decide +kernel
theorem dX6_copyFrom_84 : decode cX6_copyFrom 84 = .ok (.return_, 1) := by decide +kernel
theorem dX6_isWheel_0 : decode cX6_isWheel 0 = .ok (.iload_n 0, 1) := by decide +kernel
theorem dX6_isWheel_1 : decode cX6_isWheel 1 = .ok (.ifCond .lt 12, 3) := by decide +kernel
theorem dX6_isWheel_4 : decode cX6_isWheel 4 = .ok (.iload_n 0, 1) := by decide +kernel
theorem dX6_isWheel_5 : decode cX6_isWheel 5 = .ok (.iconst 3, 1) := by decide +kernel
theorem dX6_isWheel_6 : decode cX6_isWheel 6 = .ok (.if_icmp .ge 7, 3) := by decide +kernel
theorem dX6_isWheel_9 : decode cX6_isWheel 9 = .ok (.iconst 1, 1) := by decide +kernel
theorem dX6_isWheel_10 : decode cX6_isWheel 10 = .ok (.goto 4, 3) := by decide +kernel
theorem dX6_isWheel_13 : decode cX6_isWheel 13 = .ok (.iconst 0, 1) := by decide +kernel
theorem dX6_isWheel_14 : decode cX6_isWheel 14 = .ok (.ireturn, 1) := by decide +kernel
theorem dX6_isBand_0 : decode cX6_isBand 0 = .ok (.iload_n 0, 1) := by decide +kernel
theorem dX6_isBand_1 : decode cX6_isBand 1 = .ok (.ifCond .lt 13, 3) := by decide +kernel
theorem dX6_isBand_4 : decode cX6_isBand 4 = .ok (.iload_n 0, 1) := by decide +kernel
theorem dX6_isBand_5 : decode cX6_isBand 5 = .ok (.bipush 8, 2) := by decide +kernel
theorem dX6_isBand_7 : decode cX6_isBand 7 = .ok (.if_icmp .ge 7, 3) := by decide +kernel
theorem dX6_isBand_10 : decode cX6_isBand 10 = .ok (.iconst 1, 1) := by decide +kernel
theorem dX6_isBand_11 : decode cX6_isBand 11 = .ok (.goto 4, 3) := by decide +kernel
theorem dX6_isBand_14 : decode cX6_isBand 14 = .ok (.iconst 0, 1) := by decide +kernel
theorem dX6_isBand_15 : decode cX6_isBand 15 = .ok (.ireturn, 1) := by decide +kernel
theorem dX6_isGrade_0 : decode cX6_isGrade 0 = .ok (.iload_n 0, 1) := by decide +kernel
theorem dX6_isGrade_1 : decode cX6_isGrade 1 = .ok (.ifCond .lt 12, 3) := by decide +kernel
theorem dX6_isGrade_4 : decode cX6_isGrade 4 = .ok (.iload_n 0, 1) := by decide +kernel
theorem dX6_isGrade_5 : decode cX6_isGrade 5 = .ok (.iconst 4, 1) := by decide +kernel
theorem dX6_isGrade_6 : decode cX6_isGrade 6 = .ok (.if_icmp .ge 7, 3) := by decide +kernel
theorem dX6_isGrade_9 : decode cX6_isGrade 9 = .ok (.iconst 1, 1) := by decide +kernel
theorem dX6_isGrade_10 : decode cX6_isGrade 10 = .ok (.goto 4, 3) := by decide +kernel
theorem dX6_isGrade_13 : decode cX6_isGrade 13 = .ok (.iconst 0, 1) := by decide +kernel
theorem dX6_isGrade_14 : decode cX6_isGrade 14 = .ok (.ireturn, 1) := by decide +kernel
theorem dX6_isWithin_0 : decode cX6_isWithin 0 = .ok (.iload_n 0, 1) := by decide +kernel
theorem dX6_isWithin_1 : decode cX6_isWithin 1 = .ok (.iload_n 1, 1) := by decide +kernel
theorem dX6_isWithin_2 : decode cX6_isWithin 2 = .ok (.if_icmp .lt 12, 3) := by decide +kernel
theorem dX6_isWithin_5 : decode cX6_isWithin 5 = .ok (.iload_n 0, 1) := by decide +kernel
theorem dX6_isWithin_6 : decode cX6_isWithin 6 = .ok (.iload_n 2, 1) := by decide +kernel
theorem dX6_isWithin_7 : decode cX6_isWithin 7 = .ok (.if_icmp .gt 7, 3) := by decide +kernel
theorem dX6_isWithin_10 : decode cX6_isWithin 10 = .ok (.iconst 1, 1) := by decide +kernel
theorem dX6_isWithin_11 : decode cX6_isWithin 11 = .ok (.goto 4, 3) := by decide +kernel
theorem dX6_isWithin_14 : decode cX6_isWithin 14 = .ok (.iconst 0, 1) := by decide +kernel
theorem dX6_isWithin_15 : decode cX6_isWithin 15 = .ok (.ireturn, 1) := by decide +kernel
theorem dX6_isStuck_0 : decode cX6_isStuck 0 = .ok (.aload_n 0, 1) := by decide +kernel
theorem dX6_isStuck_1 : decode cX6_isStuck 1 = .ok (.getfield 36, 3) := by decide +kernel
theorem dX6_isStuck_4 : decode cX6_isStuck 4 = .ok (.iload_n 1, 1) := by decide +kernel
theorem dX6_isStuck_5 : decode cX6_isStuck 5 = .ok (.iaload, 1) := by decide +kernel
theorem dX6_isStuck_6 : decode cX6_isStuck 6 = .ok (.bipush 12, 2) := by decide +kernel
theorem dX6_isStuck_8 : decode cX6_isStuck 8 = .ok (.if_icmp .lt 7, 3) := by decide +kernel
theorem dX6_isStuck_11 : decode cX6_isStuck 11 = .ok (.iconst 1, 1) := by decide +kernel
theorem dX6_isStuck_12 : decode cX6_isStuck 12 = .ok (.goto 4, 3) := by decide +kernel
theorem dX6_isStuck_15 : decode cX6_isStuck 15 = .ok (.iconst 0, 1) := by decide +kernel
theorem dX6_isStuck_16 : decode cX6_isStuck 16 = .ok (.ireturn, 1) := by decide +kernel
theorem dX6_faultOfAdding_0 : decode cX6_faultOfAdding 0 = .ok (.iload_n 1, 1) := by decide +kernel
theorem dX6_faultOfAdding_1 : decode cX6_faultOfAdding 1 = .ok (.invokestatic 62, 3) := by decide +kernel
theorem dX6_faultOfAdding_4 : decode cX6_faultOfAdding 4 = .ok (.ifCond .eq 23, 3) := by decide +kernel
theorem dX6_faultOfAdding_7 : decode cX6_faultOfAdding 7 = .ok (.iload_n 2, 1) := by decide +kernel
theorem dX6_faultOfAdding_8 : decode cX6_faultOfAdding 8 = .ok (.iconst 1, 1) := by decide +kernel
theorem dX6_faultOfAdding_9 : decode cX6_faultOfAdding 9 = .ok (.bipush 9, 2) := by decide +kernel
theorem dX6_faultOfAdding_11 : decode cX6_faultOfAdding 11 = .ok (.invokestatic 66, 3) := by decide +kernel
theorem dX6_faultOfAdding_14 : decode cX6_faultOfAdding 14 = .ok (.ifCond .eq 13, 3) := by decide +kernel
theorem dX6_faultOfAdding_17 : decode cX6_faultOfAdding 17 = .ok (.iload_n 3, 1) := by decide +kernel
theorem dX6_faultOfAdding_18 : decode cX6_faultOfAdding 18 = .ok (.iconst 1, 1) := by decide +kernel
theorem dX6_faultOfAdding_19 : decode cX6_faultOfAdding 19 = .ok (.bipush 60, 2) := by decide +kernel
theorem dX6_faultOfAdding_21 : decode cX6_faultOfAdding 21 = .ok (.invokestatic 66, 3) := by decide +kernel
theorem dX6_faultOfAdding_24 : decode cX6_faultOfAdding 24 = .ok (.ifCond .ne 7, 3) := by decide +kernel
theorem dX6_faultOfAdding_27 : decode cX6_faultOfAdding 27 = .ok (.getstatic 70, 3) := by decide +kernel
theorem dX6_faultOfAdding_30 : decode cX6_faultOfAdding 30 = .ok (.areturn, 1) := by decide +kernel
theorem dX6_faultOfAdding_31 : decode cX6_faultOfAdding 31 = .ok (.aload_n 0, 1) := by decide +kernel
theorem dX6_faultOfAdding_32 : decode cX6_faultOfAdding 32 = .ok (.getfield 12, 3) := by decide +kernel
theorem dX6_faultOfAdding_35 : decode cX6_faultOfAdding 35 = .ok (.invokevirtual 76, 3) := by decide +kernel
theorem dX6_faultOfAdding_38 : decode cX6_faultOfAdding 38 = .ok (.ifCond .eq 9, 3) := by decide +kernel
theorem dX6_faultOfAdding_41 : decode cX6_faultOfAdding 41 = .ok (.getstatic 80, 3) := by decide +kernel
theorem dX6_faultOfAdding_44 : decode cX6_faultOfAdding 44 = .ok (.goto 6, 3) := by decide +kernel
theorem dX6_faultOfAdding_47 : decode cX6_faultOfAdding 47 = .ok (.getstatic 83, 3) := by decide +kernel
theorem dX6_faultOfAdding_50 : decode cX6_faultOfAdding 50 = .ok (.areturn, 1) := by decide +kernel
theorem dX6_add_0 : decode cX6_add 0 = .ok (.aload_n 0, 1) := by decide +kernel
theorem dX6_add_1 : decode cX6_add 1 = .ok (.getfield 12, 3) := by decide +kernel
theorem dX6_add_4 : decode cX6_add 4 = .ok (.iload_n 1, 1) := by decide +kernel
theorem dX6_add_5 : decode cX6_add 5 = .ok (.iload_n 2, 1) := by decide +kernel
theorem dX6_add_6 : decode cX6_add 6 = .ok (.iload_n 3, 1) := by decide +kernel
theorem dX6_add_7 : decode cX6_add 7 = .ok (.invokevirtual 86, 3) := by decide +kernel
theorem dX6_add_10 : decode cX6_add 10 = .ok (.ireturn, 1) := by decide +kernel
theorem dX6_faultOfRemoving_0 : decode cX6_faultOfRemoving 0 = .ok (.aload_n 0, 1) := by decide +kernel
theorem dX6_faultOfRemoving_1 : decode cX6_faultOfRemoving 1 = .ok (.getfield 12, 3) := by decide +kernel
theorem dX6_faultOfRemoving_4 : decode cX6_faultOfRemoving 4 = .ok (.iload_n 1, 1) := by decide +kernel
theorem dX6_faultOfRemoving_5 : decode cX6_faultOfRemoving 5 = .ok (.invokevirtual 90, 3) := by decide +kernel
theorem dX6_faultOfRemoving_8 : decode cX6_faultOfRemoving 8 = .ok (.istore_n 2, 1) := by decide +kernel
theorem dX6_faultOfRemoving_9 : decode cX6_faultOfRemoving 9 = .ok (.iload_n 2, 1) := by decide +kernel
theorem dX6_faultOfRemoving_10 : decode cX6_faultOfRemoving 10 = .ok (.iconst (-1), 1) := by decide +kernel
theorem dX6_faultOfRemoving_11 : decode cX6_faultOfRemoving 11 = .ok (.if_icmp .ne 7, 3) := by decide +kernel
theorem dX6_faultOfRemoving_14 : decode cX6_faultOfRemoving 14 = .ok (.getstatic 94, 3) := by decide +kernel
theorem dX6_faultOfRemoving_17 : decode cX6_faultOfRemoving 17 = .ok (.areturn, 1) := by decide +kernel
theorem dX6_faultOfRemoving_18 : decode cX6_faultOfRemoving 18 = .ok (.iload_n 2, 1) := by decide +kernel
theorem dX6_faultOfRemoving_19 : decode cX6_faultOfRemoving 19 = .ok (.invokestatic 97, 3) := by decide +kernel
theorem dX6_faultOfRemoving_22 : decode cX6_faultOfRemoving 22 = .ok (.ifCond .eq 9, 3) := by decide +kernel
theorem dX6_faultOfRemoving_25 : decode cX6_faultOfRemoving 25 = .ok (.getstatic 83, 3) := by decide +kernel
theorem dX6_faultOfRemoving_28 : decode cX6_faultOfRemoving 28 = .ok (.goto 6, 3) := by decide +kernel
theorem dX6_faultOfRemoving_31 : decode cX6_faultOfRemoving 31 = .ok (.getstatic 80, 3) := by decide +kernel
theorem dX6_faultOfRemoving_34 : decode cX6_faultOfRemoving 34 = .ok (.areturn, 1) := by decide +kernel
theorem dX6_remove_0 : decode cX6_remove 0 = .ok (.aload_n 0, 1) := by decide +kernel
theorem dX6_remove_1 : decode cX6_remove 1 = .ok (.getfield 12, 3) := by decide +kernel
theorem dX6_remove_4 : decode cX6_remove 4 = .ok (.iload_n 1, 1) := by decide +kernel
theorem dX6_remove_5 : decode cX6_remove 5 = .ok (.invokevirtual 90, 3) := by decide +kernel
theorem dX6_remove_8 : decode cX6_remove 8 = .ok (.istore_n 2, 1) := by decide +kernel
theorem dX6_remove_9 : decode cX6_remove 9 = .ok (.iload_n 2, 1) := by decide +kernel
theorem dX6_remove_10 : decode cX6_remove 10 = .ok (.iconst (-1), 1) := by decide +kernel
theorem dX6_remove_11 : decode cX6_remove 11 = .ok (.if_icmp .ne 5, 3) := by decide +kernel
theorem dX6_remove_14 : decode cX6_remove 14 = .ok (.iconst 0, 1) := by decide +kernel
theorem dX6_remove_15 : decode cX6_remove 15 = .ok (.ireturn, 1) := by decide +kernel
theorem dX6_remove_16 : decode cX6_remove 16 = .ok (.aload_n 0, 1) := by decide +kernel
theorem dX6_remove_17 : decode cX6_remove 17 = .ok (.getfield 12, 3) := by decide +kernel
theorem dX6_remove_20 : decode cX6_remove 20 = .ok (.getfield 100, 3) := by decide +kernel
theorem dX6_remove_23 : decode cX6_remove 23 = .ok (.iload_n 2, 1) := by decide +kernel
theorem dX6_remove_24 : decode cX6_remove 24 = .ok (.iaload, 1) := by decide +kernel
theorem dX6_remove_25 : decode cX6_remove 25 = .ok (.istore_n 3, 1) := by decide +kernel
theorem dX6_remove_26 : decode cX6_remove 26 = .ok (.aload_n 0, 1) := by decide +kernel
theorem dX6_remove_27 : decode cX6_remove 27 = .ok (.getfield 12, 3) := by decide +kernel
theorem dX6_remove_30 : decode cX6_remove 30 = .ok (.iload_n 2, 1) := by decide +kernel
theorem dX6_remove_31 : decode cX6_remove 31 = .ok (.invokevirtual 103, 3) := by decide +kernel
theorem dX6_remove_34 : decode cX6_remove 34 = .ok (.iload_n 3, 1) := by decide +kernel
theorem dX6_remove_35 : decode cX6_remove 35 = .ok (.ireturn, 1) := by decide +kernel
theorem dX6_faultOfGear_0 : decode cX6_faultOfGear 0 = .ok (.iload_n 0, 1) := by decide +kernel
theorem dX6_faultOfGear_1 : decode cX6_faultOfGear 1 = .ok (.invokestatic 107, 3) := by decide +kernel
theorem dX6_faultOfGear_4 : decode cX6_faultOfGear 4 = .ok (.ifCond .ne 7, 3) := by decide +kernel
theorem dX6_faultOfGear_7 : decode cX6_faultOfGear 7 = .ok (.getstatic 110, 3) := by decide +kernel
theorem dX6_faultOfGear_10 : decode cX6_faultOfGear 10 = .ok (.areturn, 1) := by decide +kernel
theorem dX6_faultOfGear_11 : decode cX6_faultOfGear 11 = .ok (.iload_n 1, 1) := by decide +kernel
theorem dX6_faultOfGear_12 : decode cX6_faultOfGear 12 = .ok (.iconst 1, 1) := by decide +kernel
theorem dX6_faultOfGear_13 : decode cX6_faultOfGear 13 = .ok (.iconst 5, 1) := by decide +kernel
theorem dX6_faultOfGear_14 : decode cX6_faultOfGear 14 = .ok (.invokestatic 66, 3) := by decide +kernel
theorem dX6_faultOfGear_17 : decode cX6_faultOfGear 17 = .ok (.ifCond .eq 9, 3) := by decide +kernel
theorem dX6_faultOfGear_20 : decode cX6_faultOfGear 20 = .ok (.getstatic 83, 3) := by decide +kernel
theorem dX6_faultOfGear_23 : decode cX6_faultOfGear 23 = .ok (.goto 6, 3) := by decide +kernel
theorem dX6_faultOfGear_26 : decode cX6_faultOfGear 26 = .ok (.getstatic 70, 3) := by decide +kernel
theorem dX6_faultOfGear_29 : decode cX6_faultOfGear 29 = .ok (.areturn, 1) := by decide +kernel
theorem dX6_changeGear_0 : decode cX6_changeGear 0 = .ok (.aload_n 0, 1) := by decide +kernel
theorem dX6_changeGear_1 : decode cX6_changeGear 1 = .ok (.getfield 32, 3) := by decide +kernel
theorem dX6_changeGear_4 : decode cX6_changeGear 4 = .ok (.iload_n 1, 1) := by decide +kernel
theorem dX6_changeGear_5 : decode cX6_changeGear 5 = .ok (.iaload, 1) := by decide +kernel
theorem dX6_changeGear_6 : decode cX6_changeGear 6 = .ok (.istore_n 3, 1) := by decide +kernel
theorem dX6_changeGear_7 : decode cX6_changeGear 7 = .ok (.aload_n 0, 1) := by decide +kernel
theorem dX6_changeGear_8 : decode cX6_changeGear 8 = .ok (.getfield 32, 3) := by decide +kernel
theorem dX6_changeGear_11 : decode cX6_changeGear 11 = .ok (.iload_n 1, 1) := by decide +kernel
theorem dX6_changeGear_12 : decode cX6_changeGear 12 = .ok (.iload_n 2, 1) := by decide +kernel
theorem dX6_changeGear_13 : decode cX6_changeGear 13 = .ok (.iastore, 1) := by decide +kernel
theorem dX6_changeGear_14 : decode cX6_changeGear 14 = .ok (.iload_n 3, 1) := by decide +kernel
theorem dX6_changeGear_15 : decode cX6_changeGear 15 = .ok (.ireturn, 1) := by decide +kernel
theorem dX6_faultOfMesh_0 : decode cX6_faultOfMesh 0 = .ok (.iload_n 0, 1) := by decide +kernel
theorem dX6_faultOfMesh_1 : decode cX6_faultOfMesh 1 = .ok (.invokestatic 62, 3) := by decide +kernel
theorem dX6_faultOfMesh_4 : decode cX6_faultOfMesh 4 = .ok (.ifCond .eq 19, 3) := by decide +kernel
theorem dX6_faultOfMesh_7 : decode cX6_faultOfMesh 7 = .ok (.iload_n 1, 1) := by decide +kernel
theorem dX6_faultOfMesh_8 : decode cX6_faultOfMesh 8 = .ok (.iconst 0, 1) := by decide +kernel
theorem dX6_faultOfMesh_9 : decode cX6_faultOfMesh 9 = .ok (.bipush 9, 2) := by decide +kernel
theorem dX6_faultOfMesh_11 : decode cX6_faultOfMesh 11 = .ok (.invokestatic 66, 3) := by decide +kernel
theorem dX6_faultOfMesh_14 : decode cX6_faultOfMesh 14 = .ok (.ifCond .eq 9, 3) := by decide +kernel
theorem dX6_faultOfMesh_17 : decode cX6_faultOfMesh 17 = .ok (.getstatic 83, 3) := by decide +kernel
theorem dX6_faultOfMesh_20 : decode cX6_faultOfMesh 20 = .ok (.goto 6, 3) := by decide +kernel
theorem dX6_faultOfMesh_23 : decode cX6_faultOfMesh 23 = .ok (.getstatic 70, 3) := by decide +kernel
theorem dX6_faultOfMesh_26 : decode cX6_faultOfMesh 26 = .ok (.areturn, 1) := by decide +kernel
theorem dX6_changeMesh_0 : decode cX6_changeMesh 0 = .ok (.aload_n 0, 1) := by decide +kernel
theorem dX6_changeMesh_1 : decode cX6_changeMesh 1 = .ok (.getfield 39, 3) := by decide +kernel
theorem dX6_changeMesh_4 : decode cX6_changeMesh 4 = .ok (.iload_n 1, 1) := by decide +kernel
theorem dX6_changeMesh_5 : decode cX6_changeMesh 5 = .ok (.iaload, 1) := by decide +kernel
theorem dX6_changeMesh_6 : decode cX6_changeMesh 6 = .ok (.istore_n 3, 1) := by decide +kernel
theorem dX6_changeMesh_7 : decode cX6_changeMesh 7 = .ok (.aload_n 0, 1) := by decide +kernel
theorem dX6_changeMesh_8 : decode cX6_changeMesh 8 = .ok (.getfield 39, 3) := by decide +kernel
theorem dX6_changeMesh_11 : decode cX6_changeMesh 11 = .ok (.iload_n 1, 1) := by decide +kernel
theorem dX6_changeMesh_12 : decode cX6_changeMesh 12 = .ok (.iload_n 2, 1) := by decide +kernel
theorem dX6_changeMesh_13 : decode cX6_changeMesh 13 = .ok (.iastore, 1) := by decide +kernel
theorem dX6_changeMesh_14 : decode cX6_changeMesh 14 = .ok (.iload_n 3, 1) := by decide +kernel
theorem dX6_changeMesh_15 : decode cX6_changeMesh 15 = .ok (.ireturn, 1) := by decide +kernel
theorem dX6_faultOfClearing_0 : decode cX6_faultOfClearing 0 = .ok (.iload_n 0, 1) := by decide +kernel
theorem dX6_faultOfClearing_1 : decode cX6_faultOfClearing 1 = .ok (.invokestatic 107, 3) := by decide +kernel
theorem dX6_faultOfClearing_4 : decode cX6_faultOfClearing 4 = .ok (.ifCond .eq 9, 3) := by decide +kernel
theorem dX6_faultOfClearing_7 : decode cX6_faultOfClearing 7 = .ok (.getstatic 83, 3) := by decide +kernel
theorem dX6_faultOfClearing_10 : decode cX6_faultOfClearing 10 = .ok (.goto 6, 3) := by decide +kernel
theorem dX6_faultOfClearing_13 : decode cX6_faultOfClearing 13 = .ok (.getstatic 110, 3) := by decide +kernel
theorem dX6_faultOfClearing_16 : decode cX6_faultOfClearing 16 = .ok (.areturn, 1) := by decide +kernel
theorem dX6_clear_0 : decode cX6_clear 0 = .ok (.aload_n 0, 1) := by decide +kernel
theorem dX6_clear_1 : decode cX6_clear 1 = .ok (.getfield 36, 3) := by decide +kernel
theorem dX6_clear_4 : decode cX6_clear 4 = .ok (.iload_n 1, 1) := by decide +kernel
theorem dX6_clear_5 : decode cX6_clear 5 = .ok (.iaload, 1) := by decide +kernel
theorem dX6_clear_6 : decode cX6_clear 6 = .ok (.istore_n 2, 1) := by decide +kernel
theorem dX6_clear_7 : decode cX6_clear 7 = .ok (.aload_n 0, 1) := by decide +kernel
theorem dX6_clear_8 : decode cX6_clear 8 = .ok (.getfield 36, 3) := by decide +kernel
theorem dX6_clear_11 : decode cX6_clear 11 = .ok (.iload_n 1, 1) := by decide +kernel
theorem dX6_clear_12 : decode cX6_clear 12 = .ok (.iconst 0, 1) := by decide +kernel
theorem dX6_clear_13 : decode cX6_clear 13 = .ok (.iastore, 1) := by decide +kernel
theorem dX6_clear_14 : decode cX6_clear 14 = .ok (.iload_n 2, 1) := by decide +kernel
theorem dX6_clear_15 : decode cX6_clear 15 = .ok (.ireturn, 1) := by decide +kernel
theorem dX6_faultOfReleasing_0 : decode cX6_faultOfReleasing 0 = .ok (.iload_n 1, 1) := by decide +kernel
theorem dX6_faultOfReleasing_1 : decode cX6_faultOfReleasing 1 = .ok (.invokestatic 107, 3) := by decide +kernel
theorem dX6_faultOfReleasing_4 : decode cX6_faultOfReleasing 4 = .ok (.ifCond .ne 7, 3) := by decide +kernel
theorem dX6_faultOfReleasing_7 : decode cX6_faultOfReleasing 7 = .ok (.getstatic 110, 3) := by decide +kernel
theorem dX6_faultOfReleasing_10 : decode cX6_faultOfReleasing 10 = .ok (.areturn, 1) := by decide +kernel
theorem dX6_faultOfReleasing_11 : decode cX6_faultOfReleasing 11 = .ok (.aload_n 0, 1) := by decide +kernel
theorem dX6_faultOfReleasing_12 : decode cX6_faultOfReleasing 12 = .ok (.getfield 12, 3) := by decide +kernel
theorem dX6_faultOfReleasing_15 : decode cX6_faultOfReleasing 15 = .ok (.iload_n 1, 1) := by decide +kernel
theorem dX6_faultOfReleasing_16 : decode cX6_faultOfReleasing 16 = .ok (.invokevirtual 113, 3) := by decide +kernel
theorem dX6_faultOfReleasing_19 : decode cX6_faultOfReleasing 19 = .ok (.ifCond .ne 7, 3) := by decide +kernel
theorem dX6_faultOfReleasing_22 : decode cX6_faultOfReleasing 22 = .ok (.getstatic 94, 3) := by decide +kernel
theorem dX6_faultOfReleasing_25 : decode cX6_faultOfReleasing 25 = .ok (.areturn, 1) := by decide +kernel
theorem dX6_faultOfReleasing_26 : decode cX6_faultOfReleasing 26 = .ok (.aload_n 0, 1) := by decide +kernel
theorem dX6_faultOfReleasing_27 : decode cX6_faultOfReleasing 27 = .ok (.getfield 12, 3) := by decide +kernel
theorem dX6_faultOfReleasing_30 : decode cX6_faultOfReleasing 30 = .ok (.invokevirtual 76, 3) := by decide +kernel
theorem dX6_faultOfReleasing_33 : decode cX6_faultOfReleasing 33 = .ok (.ifCond .eq 9, 3) := by decide +kernel
theorem dX6_faultOfReleasing_36 : decode cX6_faultOfReleasing 36 = .ok (.getstatic 80, 3) := by decide +kernel
theorem dX6_faultOfReleasing_39 : decode cX6_faultOfReleasing 39 = .ok (.goto 6, 3) := by decide +kernel
theorem dX6_faultOfReleasing_42 : decode cX6_faultOfReleasing 42 = .ok (.getstatic 83, 3) := by decide +kernel
theorem dX6_faultOfReleasing_45 : decode cX6_faultOfReleasing 45 = .ok (.areturn, 1) := by decide +kernel
theorem dX6_release_0 : decode cX6_release 0 = .ok (.aload_n 0, 1) := by decide +kernel
theorem dX6_release_1 : decode cX6_release 1 = .ok (.getfield 12, 3) := by decide +kernel
theorem dX6_release_4 : decode cX6_release 4 = .ok (.iload_n 1, 1) := by decide +kernel
theorem dX6_release_5 : decode cX6_release 5 = .ok (.invokevirtual 116, 3) := by decide +kernel
theorem dX6_release_8 : decode cX6_release 8 = .ok (.ireturn, 1) := by decide +kernel
theorem dX6_faultOfShipping_0 : decode cX6_faultOfShipping 0 = .ok (.iload_n 1, 1) := by decide +kernel
theorem dX6_faultOfShipping_1 : decode cX6_faultOfShipping 1 = .ok (.invokestatic 119, 3) := by decide +kernel
theorem dX6_faultOfShipping_4 : decode cX6_faultOfShipping 4 = .ok (.ifCond .eq 13, 3) := by decide +kernel
theorem dX6_faultOfShipping_7 : decode cX6_faultOfShipping 7 = .ok (.iload_n 2, 1) := by decide +kernel
theorem dX6_faultOfShipping_8 : decode cX6_faultOfShipping 8 = .ok (.iconst 1, 1) := by decide +kernel
theorem dX6_faultOfShipping_9 : decode cX6_faultOfShipping 9 = .ok (.bipush 6, 2) := by decide +kernel
theorem dX6_faultOfShipping_11 : decode cX6_faultOfShipping 11 = .ok (.invokestatic 66, 3) := by decide +kernel
theorem dX6_faultOfShipping_14 : decode cX6_faultOfShipping 14 = .ok (.ifCond .ne 7, 3) := by decide +kernel
theorem dX6_faultOfShipping_17 : decode cX6_faultOfShipping 17 = .ok (.getstatic 70, 3) := by decide +kernel
theorem dX6_faultOfShipping_20 : decode cX6_faultOfShipping 20 = .ok (.areturn, 1) := by decide +kernel
theorem dX6_faultOfShipping_21 : decode cX6_faultOfShipping 21 = .ok (.aload_n 0, 1) := by decide +kernel
theorem dX6_faultOfShipping_22 : decode cX6_faultOfShipping 22 = .ok (.getfield 21, 3) := by decide +kernel
theorem dX6_faultOfShipping_25 : decode cX6_faultOfShipping 25 = .ok (.iload_n 1, 1) := by decide +kernel
theorem dX6_faultOfShipping_26 : decode cX6_faultOfShipping 26 = .ok (.invokevirtual 122, 3) := by decide +kernel
theorem dX6_faultOfShipping_29 : decode cX6_faultOfShipping 29 = .ok (.iload_n 2, 1) := by decide +kernel
theorem dX6_faultOfShipping_30 : decode cX6_faultOfShipping 30 = .ok (.if_icmp .ge 9, 3) := by decide +kernel
theorem dX6_faultOfShipping_33 : decode cX6_faultOfShipping 33 = .ok (.getstatic 125, 3) := by decide +kernel
theorem dX6_faultOfShipping_36 : decode cX6_faultOfShipping 36 = .ok (.goto 6, 3) := by decide +kernel
theorem dX6_faultOfShipping_39 : decode cX6_faultOfShipping 39 = .ok (.getstatic 83, 3) := by decide +kernel
theorem dX6_faultOfShipping_42 : decode cX6_faultOfShipping 42 = .ok (.areturn, 1) := by decide +kernel
theorem dX6_ship_0 : decode cX6_ship 0 = .ok (.aload_n 0, 1) := by decide +kernel
theorem dX6_ship_1 : decode cX6_ship 1 = .ok (.getfield 21, 3) := by decide +kernel
theorem dX6_ship_4 : decode cX6_ship 4 = .ok (.iload_n 1, 1) := by decide +kernel
theorem dX6_ship_5 : decode cX6_ship 5 = .ok (.iload_n 2, 1) := by decide +kernel
theorem dX6_ship_6 : decode cX6_ship 6 = .ok (.invokevirtual 128, 3) := by decide +kernel
theorem dX6_ship_9 : decode cX6_ship 9 = .ok (.aload_n 0, 1) := by decide +kernel
theorem dX6_ship_10 : decode cX6_ship 10 = .ok (.getfield 21, 3) := by decide +kernel
theorem dX6_ship_13 : decode cX6_ship 13 = .ok (.iload_n 1, 1) := by decide +kernel
theorem dX6_ship_14 : decode cX6_ship 14 = .ok (.invokevirtual 122, 3) := by decide +kernel
theorem dX6_ship_17 : decode cX6_ship 17 = .ok (.ireturn, 1) := by decide +kernel
theorem dX6_faultOfAdvancing_0 : decode cX6_faultOfAdvancing 0 = .ok (.iload_n 0, 1) := by decide +kernel
theorem dX6_faultOfAdvancing_1 : decode cX6_faultOfAdvancing 1 = .ok (.iconst 1, 1) := by decide +kernel
theorem dX6_faultOfAdvancing_2 : decode cX6_faultOfAdvancing 2 = .ok (.bipush 40, 2) := by decide +kernel
theorem dX6_faultOfAdvancing_4 : decode cX6_faultOfAdvancing 4 = .ok (.invokestatic 66, 3) := by decide +kernel
theorem dX6_faultOfAdvancing_7 : decode cX6_faultOfAdvancing 7 = .ok (.ifCond .eq 9, 3) := by decide +kernel
theorem dX6_faultOfAdvancing_10 : decode cX6_faultOfAdvancing 10 = .ok (.getstatic 83, 3) := by decide +kernel
theorem dX6_faultOfAdvancing_13 : decode cX6_faultOfAdvancing 13 = .ok (.goto 6, 3) := by decide +kernel
theorem dX6_faultOfAdvancing_16 : decode cX6_faultOfAdvancing 16 = .ok (.getstatic 70, 3) := by decide +kernel
theorem dX6_faultOfAdvancing_19 : decode cX6_faultOfAdvancing 19 = .ok (.areturn, 1) := by decide +kernel
theorem dX6_pass_0 : decode cX6_pass 0 = .ok (.iconst 0, 1) := by decide +kernel
theorem dX6_pass_1 : decode cX6_pass 1 = .ok (.istore_n 2, 1) := by decide +kernel
theorem dX6_pass_2 : decode cX6_pass 2 = .ok (.iconst 0, 1) := by decide +kernel
theorem dX6_pass_3 : decode cX6_pass 3 = .ok (.istore_n 3, 1) := by decide +kernel
theorem dX6_pass_4 : decode cX6_pass 4 = .ok (.iload_n 3, 1) := by decide +kernel
theorem dX6_pass_5 : decode cX6_pass 5 = .ok (.iload_n 1, 1) := by decide +kernel
theorem dX6_pass_6 : decode cX6_pass 6 = .ok (.if_icmp .ge 88, 3) := by decide +kernel
theorem dX6_pass_9 : decode cX6_pass 9 = .ok (.aload_n 0, 1) := by decide +kernel
theorem dX6_pass_10 : decode cX6_pass 10 = .ok (.dup, 1) := by decide +kernel
theorem dX6_pass_11 : decode cX6_pass 11 = .ok (.getfield 42, 3) := by decide +kernel
theorem dX6_pass_14 : decode cX6_pass 14 = .ok (.iconst 1, 1) := by decide +kernel
theorem dX6_pass_15 : decode cX6_pass 15 = .ok (.iadd, 1) := by decide +kernel
theorem dX6_pass_16 : decode cX6_pass 16 = .ok (.putfield 42, 3) := by decide +kernel
theorem dX6_pass_19 : decode cX6_pass 19 = .ok (.iconst 0, 1) := by decide +kernel
theorem dX6_pass_20 : decode cX6_pass 20 = .ok (.istore 4, 2) := by decide +kernel
theorem dX6_pass_22 : decode cX6_pass 22 = .ok (.iload 4, 2) := by decide +kernel
theorem dX6_pass_24 : decode cX6_pass 24 = .ok (.iconst 3, 1) := by decide +kernel
theorem dX6_pass_25 : decode cX6_pass 25 = .ok (.if_icmp .ge 63, 3) := by decide +kernel
theorem dX6_pass_28 : decode cX6_pass 28 = .ok (.aload_n 0, 1) := by decide +kernel
theorem dX6_pass_29 : decode cX6_pass 29 = .ok (.iload 4, 2) := by decide +kernel
theorem dX6_pass_31 : decode cX6_pass 31 = .ok (.invokevirtual 132, 3) := by decide +kernel
theorem dX6_pass_34 : decode cX6_pass 34 = .ok (.ifCond .eq 6, 3) := by decide +kernel
theorem dX6_pass_37 : decode cX6_pass 37 = .ok (.goto 45, 3) := by decide +kernel
theorem dX6_pass_40 : decode cX6_pass 40 = .ok (.aload_n 0, 1) := by decide +kernel
theorem dX6_pass_41 : decode cX6_pass 41 = .ok (.getfield 12, 3) := by decide +kernel
theorem dX6_pass_44 : decode cX6_pass 44 = .ok (.iload 4, 2) := by decide +kernel
theorem dX6_pass_46 : decode cX6_pass 46 = .ok (.invokevirtual 113, 3) := by decide +kernel
theorem dX6_pass_49 : decode cX6_pass 49 = .ok (.ifCond .ne 12, 3) := by decide +kernel
theorem dX6_pass_52 : decode cX6_pass 52 = .ok (.aload_n 0, 1) := by decide +kernel
theorem dX6_pass_53 : decode cX6_pass 53 = .ok (.getfield 12, 3) := by decide +kernel
theorem dX6_pass_56 : decode cX6_pass 56 = .ok (.iload 4, 2) := by decide +kernel
theorem dX6_pass_58 : decode cX6_pass 58 = .ok (.invokevirtual 135, 3) := by decide +kernel
theorem dX6_pass_61 : decode cX6_pass 61 = .ok (.aload_n 0, 1) := by decide +kernel
theorem dX6_pass_62 : decode cX6_pass 62 = .ok (.getfield 12, 3) := by decide +kernel
theorem dX6_pass_65 : decode cX6_pass 65 = .ok (.iload 4, 2) := by decide +kernel
theorem dX6_pass_67 : decode cX6_pass 67 = .ok (.invokevirtual 113, 3) := by decide +kernel
theorem dX6_pass_70 : decode cX6_pass 70 = .ok (.ifCond .eq 12, 3) := by decide +kernel
theorem dX6_pass_73 : decode cX6_pass 73 = .ok (.iload_n 2, 1) := by decide +kernel
theorem dX6_pass_74 : decode cX6_pass 74 = .ok (.aload_n 0, 1) := by decide +kernel
theorem dX6_pass_75 : decode cX6_pass 75 = .ok (.iload 4, 2) := by decide +kernel
theorem dX6_pass_77 : decode cX6_pass 77 = .ok (.invokevirtual 138, 3) := by decide +kernel
theorem dX6_pass_80 : decode cX6_pass 80 = .ok (.iadd, 1) := by decide +kernel
theorem dX6_pass_81 : decode cX6_pass 81 = .ok (.istore_n 2, 1) := by decide +kernel
theorem dX6_pass_82 : decode cX6_pass 82 = .ok (.iinc 4 1, 3) := by decide +kernel
theorem dX6_pass_85 : decode cX6_pass 85 = .ok (.goto (-63), 3) := by decide +kernel
theorem dX6_pass_88 : decode cX6_pass 88 = .ok (.iinc 3 1, 3) := by decide +kernel
theorem dX6_pass_91 : decode cX6_pass 91 = .ok (.goto (-87), 3) := by decide +kernel
theorem dX6_pass_94 : decode cX6_pass 94 = .ok (.iload_n 2, 1) := by decide +kernel
theorem dX6_pass_95 : decode cX6_pass 95 = .ok (.ireturn, 1) := by decide +kernel
theorem dX6_grind_0 : decode cX6_grind 0 = .ok (.iload_n 1, 1) := by decide +kernel
theorem dX6_grind_1 : decode cX6_grind 1 = .ok (.invokestatic 141, 3) := by decide +kernel
theorem dX6_grind_4 : decode cX6_grind 4 = .ok (.istore_n 2, 1) := by decide +kernel
theorem dX6_grind_5 : decode cX6_grind 5 = .ok (.aload_n 0, 1) := by decide +kernel
theorem dX6_grind_6 : decode cX6_grind 6 = .ok (.getfield 12, 3) := by decide +kernel
theorem dX6_grind_9 : decode cX6_grind 9 = .ok (.getfield 144, 3) := by decide +kernel
theorem dX6_grind_12 : decode cX6_grind 12 = .ok (.iload_n 2, 1) := by decide +kernel
theorem dX6_grind_13 : decode cX6_grind 13 = .ok (.iaload, 1) := by decide +kernel
theorem dX6_grind_14 : decode cX6_grind 14 = .ok (.istore_n 3, 1) := by decide +kernel
theorem dX6_grind_15 : decode cX6_grind 15 = .ok (.iconst 2, 1) := by decide +kernel
theorem dX6_grind_16 : decode cX6_grind 16 = .ok (.aload_n 0, 1) := by decide +kernel
theorem dX6_grind_17 : decode cX6_grind 17 = .ok (.getfield 32, 3) := by decide +kernel
theorem dX6_grind_20 : decode cX6_grind 20 = .ok (.iload_n 1, 1) := by decide +kernel
theorem dX6_grind_21 : decode cX6_grind 21 = .ok (.iaload, 1) := by decide +kernel
theorem dX6_grind_22 : decode cX6_grind 22 = .ok (.imul, 1) := by decide +kernel
theorem dX6_grind_23 : decode cX6_grind 23 = .ok (.aload_n 0, 1) := by decide +kernel
theorem dX6_grind_24 : decode cX6_grind 24 = .ok (.getfield 12, 3) := by decide +kernel
theorem dX6_grind_27 : decode cX6_grind 27 = .ok (.getfield 100, 3) := by decide +kernel
theorem dX6_grind_30 : decode cX6_grind 30 = .ok (.iload_n 2, 1) := by decide +kernel
theorem dX6_grind_31 : decode cX6_grind 31 = .ok (.iaload, 1) := by decide +kernel
theorem dX6_grind_32 : decode cX6_grind 32 = .ok (.invokestatic 147, 3) := by decide +kernel
theorem dX6_grind_35 : decode cX6_grind 35 = .ok (.istore 4, 2) := by decide +kernel
theorem dX6_grind_37 : decode cX6_grind 37 = .ok (.aload_n 0, 1) := by decide +kernel
theorem dX6_grind_38 : decode cX6_grind 38 = .ok (.getfield 12, 3) := by decide +kernel
theorem dX6_grind_41 : decode cX6_grind 41 = .ok (.getfield 100, 3) := by decide +kernel
theorem dX6_grind_44 : decode cX6_grind 44 = .ok (.iload_n 2, 1) := by decide +kernel
theorem dX6_grind_45 : decode cX6_grind 45 = .ok (.dup2, 1) := by decide +kernel
theorem dX6_grind_46 : decode cX6_grind 46 = .ok (.iaload, 1) := by decide +kernel
theorem dX6_grind_47 : decode cX6_grind 47 = .ok (.iload 4, 2) := by decide +kernel
theorem dX6_grind_49 : decode cX6_grind 49 = .ok (.isub, 1) := by decide +kernel
theorem dX6_grind_50 : decode cX6_grind 50 = .ok (.iastore, 1) := by decide +kernel
theorem dX6_grind_51 : decode cX6_grind 51 = .ok (.aload_n 0, 1) := by decide +kernel
theorem dX6_grind_52 : decode cX6_grind 52 = .ok (.getfield 36, 3) := by decide +kernel
theorem dX6_grind_55 : decode cX6_grind 55 = .ok (.iload_n 1, 1) := by decide +kernel
theorem dX6_grind_56 : decode cX6_grind 56 = .ok (.dup2, 1) := by decide +kernel
theorem dX6_grind_57 : decode cX6_grind 57 = .ok (.iaload, 1) := by decide +kernel
theorem dX6_grind_58 : decode cX6_grind 58 = .ok (.aload_n 0, 1) := by decide +kernel
theorem dX6_grind_59 : decode cX6_grind 59 = .ok (.getfield 32, 3) := by decide +kernel
theorem dX6_grind_62 : decode cX6_grind 62 = .ok (.iload_n 1, 1) := by decide +kernel
theorem dX6_grind_63 : decode cX6_grind 63 = .ok (.iaload, 1) := by decide +kernel
theorem dX6_grind_64 : decode cX6_grind 64 = .ok (.iadd, 1) := by decide +kernel
theorem dX6_grind_65 : decode cX6_grind 65 = .ok (.iastore, 1) := by decide +kernel
theorem dX6_grind_66 : decode cX6_grind 66 = .ok (.aload_n 0, 1) := by decide +kernel
theorem dX6_grind_67 : decode cX6_grind 67 = .ok (.getfield 21, 3) := by decide +kernel
theorem dX6_grind_70 : decode cX6_grind 70 = .ok (.iload_n 3, 1) := by decide +kernel
theorem dX6_grind_71 : decode cX6_grind 71 = .ok (.aload_n 0, 1) := by decide +kernel
theorem dX6_grind_72 : decode cX6_grind 72 = .ok (.getfield 39, 3) := by decide +kernel
theorem dX6_grind_75 : decode cX6_grind 75 = .ok (.iload_n 3, 1) := by decide +kernel
theorem dX6_grind_76 : decode cX6_grind 76 = .ok (.iaload, 1) := by decide +kernel
theorem dX6_grind_77 : decode cX6_grind 77 = .ok (.iload 4, 2) := by decide +kernel
theorem dX6_grind_79 : decode cX6_grind 79 = .ok (.invokevirtual 153, 3) := by decide +kernel
theorem dX6_grind_82 : decode cX6_grind 82 = .ok (.aload_n 0, 1) := by decide +kernel
theorem dX6_grind_83 : decode cX6_grind 83 = .ok (.getfield 12, 3) := by decide +kernel
theorem dX6_grind_86 : decode cX6_grind 86 = .ok (.getfield 100, 3) := by decide +kernel
theorem dX6_grind_89 : decode cX6_grind 89 = .ok (.iload_n 2, 1) := by decide +kernel
theorem dX6_grind_90 : decode cX6_grind 90 = .ok (.iaload, 1) := by decide +kernel
theorem dX6_grind_91 : decode cX6_grind 91 = .ok (.ifCond .ne 32, 3) := by decide +kernel
theorem dX6_grind_94 : decode cX6_grind 94 = .ok (.aload_n 0, 1) := by decide +kernel
theorem dX6_grind_95 : decode cX6_grind 95 = .ok (.getfield 28, 3) := by decide +kernel
theorem dX6_grind_98 : decode cX6_grind 98 = .ok (.aload_n 0, 1) := by decide +kernel
theorem dX6_grind_99 : decode cX6_grind 99 = .ok (.getfield 12, 3) := by decide +kernel
theorem dX6_grind_102 : decode cX6_grind 102 = .ok (.getfield 157, 3) := by decide +kernel
theorem dX6_grind_105 : decode cX6_grind 105 = .ok (.iload_n 2, 1) := by decide +kernel
theorem dX6_grind_106 : decode cX6_grind 106 = .ok (.iaload, 1) := by decide +kernel
theorem dX6_grind_107 : decode cX6_grind 107 = .ok (.iload_n 1, 1) := by decide +kernel
theorem dX6_grind_108 : decode cX6_grind 108 = .ok (.aload_n 0, 1) := by decide +kernel
theorem dX6_grind_109 : decode cX6_grind 109 = .ok (.getfield 42, 3) := by decide +kernel
theorem dX6_grind_112 : decode cX6_grind 112 = .ok (.invokevirtual 160, 3) := by decide +kernel
theorem dX6_grind_115 : decode cX6_grind 115 = .ok (.aload_n 0, 1) := by decide +kernel
theorem dX6_grind_116 : decode cX6_grind 116 = .ok (.getfield 12, 3) := by decide +kernel
theorem dX6_grind_119 : decode cX6_grind 119 = .ok (.iload_n 1, 1) := by decide +kernel
theorem dX6_grind_120 : decode cX6_grind 120 = .ok (.invokevirtual 163, 3) := by decide +kernel
theorem dX6_grind_123 : decode cX6_grind 123 = .ok (.iload 4, 2) := by decide +kernel
theorem dX6_grind_125 : decode cX6_grind 125 = .ok (.ireturn, 1) := by decide +kernel
theorem dX6_stepsByRate_0 : decode cX6_stepsByRate 0 = .ok (.iconst 2, 1) := by decide +kernel
theorem dX6_stepsByRate_1 : decode cX6_stepsByRate 1 = .ok (.aload_n 0, 1) := by decide +kernel
theorem dX6_stepsByRate_2 : decode cX6_stepsByRate 2 = .ok (.getfield 32, 3) := by decide +kernel
theorem dX6_stepsByRate_5 : decode cX6_stepsByRate 5 = .ok (.iload_n 1, 1) := by decide +kernel
theorem dX6_stepsByRate_6 : decode cX6_stepsByRate 6 = .ok (.iaload, 1) := by decide +kernel
theorem dX6_stepsByRate_7 : decode cX6_stepsByRate 7 = .ok (.imul, 1) := by decide +kernel
theorem dX6_stepsByRate_8 : decode cX6_stepsByRate 8 = .ok (.istore_n 2, 1) := by decide +kernel
theorem dX6_stepsByRate_9 : decode cX6_stepsByRate 9 = .ok (.aload_n 0, 1) := by decide +kernel
theorem dX6_stepsByRate_10 : decode cX6_stepsByRate 10 = .ok (.getfield 12, 3) := by decide +kernel
theorem dX6_stepsByRate_13 : decode cX6_stepsByRate 13 = .ok (.iload_n 1, 1) := by decide +kernel
theorem dX6_stepsByRate_14 : decode cX6_stepsByRate 14 = .ok (.invokevirtual 113, 3) := by decide +kernel
theorem dX6_stepsByRate_17 : decode cX6_stepsByRate 17 = .ok (.ifCond .eq 7, 3) := by decide +kernel
theorem dX6_stepsByRate_20 : decode cX6_stepsByRate 20 = .ok (.iload_n 2, 1) := by decide +kernel
theorem dX6_stepsByRate_21 : decode cX6_stepsByRate 21 = .ok (.ifCond .gt 5, 3) := by decide +kernel
theorem dX6_stepsByRate_24 : decode cX6_stepsByRate 24 = .ok (.iconst (-1), 1) := by decide +kernel
theorem dX6_stepsByRate_25 : decode cX6_stepsByRate 25 = .ok (.ireturn, 1) := by decide +kernel
theorem dX6_stepsByRate_26 : decode cX6_stepsByRate 26 = .ok (.aload_n 0, 1) := by decide +kernel
theorem dX6_stepsByRate_27 : decode cX6_stepsByRate 27 = .ok (.getfield 12, 3) := by decide +kernel
theorem dX6_stepsByRate_30 : decode cX6_stepsByRate 30 = .ok (.getfield 100, 3) := by decide +kernel
theorem dX6_stepsByRate_33 : decode cX6_stepsByRate 33 = .ok (.iload_n 1, 1) := by decide +kernel
theorem dX6_stepsByRate_34 : decode cX6_stepsByRate 34 = .ok (.invokestatic 141, 3) := by decide +kernel
theorem dX6_stepsByRate_37 : decode cX6_stepsByRate 37 = .ok (.iaload, 1) := by decide +kernel
theorem dX6_stepsByRate_38 : decode cX6_stepsByRate 38 = .ok (.iload_n 2, 1) := by decide +kernel
theorem dX6_stepsByRate_39 : decode cX6_stepsByRate 39 = .ok (.iadd, 1) := by decide +kernel
theorem dX6_stepsByRate_40 : decode cX6_stepsByRate 40 = .ok (.iconst 1, 1) := by decide +kernel
theorem dX6_stepsByRate_41 : decode cX6_stepsByRate 41 = .ok (.isub, 1) := by decide +kernel
theorem dX6_stepsByRate_42 : decode cX6_stepsByRate 42 = .ok (.iload_n 2, 1) := by decide +kernel
theorem dX6_stepsByRate_43 : decode cX6_stepsByRate 43 = .ok (.idiv, 1) := by decide +kernel
theorem dX6_stepsByRate_44 : decode cX6_stepsByRate 44 = .ok (.istore_n 3, 1) := by decide +kernel
theorem dX6_stepsByRate_45 : decode cX6_stepsByRate 45 = .ok (.aload_n 0, 1) := by decide +kernel
theorem dX6_stepsByRate_46 : decode cX6_stepsByRate 46 = .ok (.getfield 36, 3) := by decide +kernel
theorem dX6_stepsByRate_49 : decode cX6_stepsByRate 49 = .ok (.iload_n 1, 1) := by decide +kernel
theorem dX6_stepsByRate_50 : decode cX6_stepsByRate 50 = .ok (.iaload, 1) := by decide +kernel
theorem dX6_stepsByRate_51 : decode cX6_stepsByRate 51 = .ok (.iload_n 3, 1) := by decide +kernel
theorem dX6_stepsByRate_52 : decode cX6_stepsByRate 52 = .ok (.iconst 1, 1) := by decide +kernel
theorem dX6_stepsByRate_53 : decode cX6_stepsByRate 53 = .ok (.isub, 1) := by decide +kernel
theorem dX6_stepsByRate_54 : decode cX6_stepsByRate 54 = .ok (.aload_n 0, 1) := by decide +kernel
theorem dX6_stepsByRate_55 : decode cX6_stepsByRate 55 = .ok (.getfield 32, 3) := by decide +kernel
theorem dX6_stepsByRate_58 : decode cX6_stepsByRate 58 = .ok (.iload_n 1, 1) := by decide +kernel
theorem dX6_stepsByRate_59 : decode cX6_stepsByRate 59 = .ok (.iaload, 1) := by decide +kernel
theorem dX6_stepsByRate_60 : decode cX6_stepsByRate 60 = .ok (.imul, 1) := by decide +kernel
theorem dX6_stepsByRate_61 : decode cX6_stepsByRate 61 = .ok (.iadd, 1) := by decide +kernel
theorem dX6_stepsByRate_62 : decode cX6_stepsByRate 62 = .ok (.istore 4, 2) := by decide +kernel
theorem dX6_stepsByRate_64 : decode cX6_stepsByRate 64 = .ok (.iload 4, 2) := by decide +kernel
theorem dX6_stepsByRate_66 : decode cX6_stepsByRate 66 = .ok (.bipush 12, 2) := by decide +kernel
theorem dX6_stepsByRate_68 : decode cX6_stepsByRate 68 = .ok (.if_icmp .ge 7, 3) := by decide +kernel
theorem dX6_stepsByRate_71 : decode cX6_stepsByRate 71 = .ok (.iload_n 3, 1) := by decide +kernel
theorem dX6_stepsByRate_72 : decode cX6_stepsByRate 72 = .ok (.goto 4, 3) := by decide +kernel
theorem dX6_stepsByRate_75 : decode cX6_stepsByRate 75 = .ok (.iconst (-1), 1) := by decide +kernel
theorem dX6_stepsByRate_76 : decode cX6_stepsByRate 76 = .ok (.ireturn, 1) := by decide +kernel
theorem dX6_countWheelsBefore_0 : decode cX6_countWheelsBefore 0 = .ok (.iconst 0, 1) := by decide +kernel
theorem dX6_countWheelsBefore_1 : decode cX6_countWheelsBefore 1 = .ok (.istore_n 2, 1) := by decide +kernel
theorem dX6_countWheelsBefore_2 : decode cX6_countWheelsBefore 2 = .ok (.iconst 0, 1) := by decide +kernel
theorem dX6_countWheelsBefore_3 : decode cX6_countWheelsBefore 3 = .ok (.istore_n 3, 1) := by decide +kernel
theorem dX6_countWheelsBefore_4 : decode cX6_countWheelsBefore 4 = .ok (.iload_n 3, 1) := by decide +kernel
theorem dX6_countWheelsBefore_5 : decode cX6_countWheelsBefore 5 = .ok (.iconst 3, 1) := by decide +kernel
theorem dX6_countWheelsBefore_6 : decode cX6_countWheelsBefore 6 = .ok (.if_icmp .ge 21, 3) := by decide +kernel
theorem dX6_countWheelsBefore_9 : decode cX6_countWheelsBefore 9 = .ok (.aload_n 0, 1) := by decide +kernel
theorem dX6_countWheelsBefore_10 : decode cX6_countWheelsBefore 10 = .ok (.iload_n 3, 1) := by decide +kernel
theorem dX6_countWheelsBefore_11 : decode cX6_countWheelsBefore 11 = .ok (.iload_n 1, 1) := by decide +kernel
theorem dX6_countWheelsBefore_12 : decode cX6_countWheelsBefore 12 = .ok (.invokevirtual 166, 3) := by decide +kernel
theorem dX6_countWheelsBefore_15 : decode cX6_countWheelsBefore 15 = .ok (.ifCond .eq 6, 3) := by decide +kernel
theorem dX6_countWheelsBefore_18 : decode cX6_countWheelsBefore 18 = .ok (.iinc 2 1, 3) := by decide +kernel
theorem dX6_countWheelsBefore_21 : decode cX6_countWheelsBefore 21 = .ok (.iinc 3 1, 3) := by decide +kernel
theorem dX6_countWheelsBefore_24 : decode cX6_countWheelsBefore 24 = .ok (.goto (-20), 3) := by decide +kernel
theorem dX6_countWheelsBefore_27 : decode cX6_countWheelsBefore 27 = .ok (.iload_n 2, 1) := by decide +kernel
theorem dX6_countWheelsBefore_28 : decode cX6_countWheelsBefore 28 = .ok (.ireturn, 1) := by decide +kernel
theorem dX6_isWheelBefore_0 : decode cX6_isWheelBefore 0 = .ok (.aload_n 0, 1) := by decide +kernel
theorem dX6_isWheelBefore_1 : decode cX6_isWheelBefore 1 = .ok (.getfield 36, 3) := by decide +kernel
theorem dX6_isWheelBefore_4 : decode cX6_isWheelBefore 4 = .ok (.iload_n 1, 1) := by decide +kernel
theorem dX6_isWheelBefore_5 : decode cX6_isWheelBefore 5 = .ok (.iaload, 1) := by decide +kernel
theorem dX6_isWheelBefore_6 : decode cX6_isWheelBefore 6 = .ok (.aload_n 0, 1) := by decide +kernel
theorem dX6_isWheelBefore_7 : decode cX6_isWheelBefore 7 = .ok (.getfield 36, 3) := by decide +kernel
theorem dX6_isWheelBefore_10 : decode cX6_isWheelBefore 10 = .ok (.iload_n 2, 1) := by decide +kernel
theorem dX6_isWheelBefore_11 : decode cX6_isWheelBefore 11 = .ok (.iaload, 1) := by decide +kernel
theorem dX6_isWheelBefore_12 : decode cX6_isWheelBefore 12 = .ok (.if_icmp .eq 24, 3) := by decide +kernel
theorem dX6_isWheelBefore_15 : decode cX6_isWheelBefore 15 = .ok (.aload_n 0, 1) := by decide +kernel
theorem dX6_isWheelBefore_16 : decode cX6_isWheelBefore 16 = .ok (.getfield 36, 3) := by decide +kernel
theorem dX6_isWheelBefore_19 : decode cX6_isWheelBefore 19 = .ok (.iload_n 1, 1) := by decide +kernel
theorem dX6_isWheelBefore_20 : decode cX6_isWheelBefore 20 = .ok (.iaload, 1) := by decide +kernel
theorem dX6_isWheelBefore_21 : decode cX6_isWheelBefore 21 = .ok (.aload_n 0, 1) := by decide +kernel
theorem dX6_isWheelBefore_22 : decode cX6_isWheelBefore 22 = .ok (.getfield 36, 3) := by decide +kernel
theorem dX6_isWheelBefore_25 : decode cX6_isWheelBefore 25 = .ok (.iload_n 2, 1) := by decide +kernel
theorem dX6_isWheelBefore_26 : decode cX6_isWheelBefore 26 = .ok (.iaload, 1) := by decide +kernel
theorem dX6_isWheelBefore_27 : decode cX6_isWheelBefore 27 = .ok (.if_icmp .le 7, 3) := by decide +kernel
theorem dX6_isWheelBefore_30 : decode cX6_isWheelBefore 30 = .ok (.iconst 1, 1) := by decide +kernel
theorem dX6_isWheelBefore_31 : decode cX6_isWheelBefore 31 = .ok (.goto 4, 3) := by decide +kernel
theorem dX6_isWheelBefore_34 : decode cX6_isWheelBefore 34 = .ok (.iconst 0, 1) := by decide +kernel
theorem dX6_isWheelBefore_35 : decode cX6_isWheelBefore 35 = .ok (.ireturn, 1) := by decide +kernel
theorem dX6_isWheelBefore_36 : decode cX6_isWheelBefore 36 = .ok (.aload_n 0, 1) := by decide +kernel
theorem dX6_isWheelBefore_37 : decode cX6_isWheelBefore 37 = .ok (.getfield 32, 3) := by decide +kernel
theorem dX6_isWheelBefore_40 : decode cX6_isWheelBefore 40 = .ok (.iload_n 1, 1) := by decide +kernel
theorem dX6_isWheelBefore_41 : decode cX6_isWheelBefore 41 = .ok (.iaload, 1) := by decide +kernel
theorem dX6_isWheelBefore_42 : decode cX6_isWheelBefore 42 = .ok (.aload_n 0, 1) := by decide +kernel
theorem dX6_isWheelBefore_43 : decode cX6_isWheelBefore 43 = .ok (.getfield 32, 3) := by decide +kernel
theorem dX6_isWheelBefore_46 : decode cX6_isWheelBefore 46 = .ok (.iload_n 2, 1) := by decide +kernel
theorem dX6_isWheelBefore_47 : decode cX6_isWheelBefore 47 = .ok (.iaload, 1) := by decide +kernel
theorem dX6_isWheelBefore_48 : decode cX6_isWheelBefore 48 = .ok (.if_icmp .eq 24, 3) := by decide +kernel
theorem dX6_isWheelBefore_51 : decode cX6_isWheelBefore 51 = .ok (.aload_n 0, 1) := by decide +kernel
theorem dX6_isWheelBefore_52 : decode cX6_isWheelBefore 52 = .ok (.getfield 32, 3) := by decide +kernel
theorem dX6_isWheelBefore_55 : decode cX6_isWheelBefore 55 = .ok (.iload_n 1, 1) := by decide +kernel
theorem dX6_isWheelBefore_56 : decode cX6_isWheelBefore 56 = .ok (.iaload, 1) := by decide +kernel
theorem dX6_isWheelBefore_57 : decode cX6_isWheelBefore 57 = .ok (.aload_n 0, 1) := by decide +kernel
theorem dX6_isWheelBefore_58 : decode cX6_isWheelBefore 58 = .ok (.getfield 32, 3) := by decide +kernel
theorem dX6_isWheelBefore_61 : decode cX6_isWheelBefore 61 = .ok (.iload_n 2, 1) := by decide +kernel
theorem dX6_isWheelBefore_62 : decode cX6_isWheelBefore 62 = .ok (.iaload, 1) := by decide +kernel
theorem dX6_isWheelBefore_63 : decode cX6_isWheelBefore 63 = .ok (.if_icmp .le 7, 3) := by decide +kernel
theorem dX6_isWheelBefore_66 : decode cX6_isWheelBefore 66 = .ok (.iconst 1, 1) := by decide +kernel
theorem dX6_isWheelBefore_67 : decode cX6_isWheelBefore 67 = .ok (.goto 4, 3) := by decide +kernel
theorem dX6_isWheelBefore_70 : decode cX6_isWheelBefore 70 = .ok (.iconst 0, 1) := by decide +kernel
theorem dX6_isWheelBefore_71 : decode cX6_isWheelBefore 71 = .ok (.ireturn, 1) := by decide +kernel
theorem dX6_isWheelBefore_72 : decode cX6_isWheelBefore 72 = .ok (.iload_n 1, 1) := by decide +kernel
theorem dX6_isWheelBefore_73 : decode cX6_isWheelBefore 73 = .ok (.iload_n 2, 1) := by decide +kernel
theorem dX6_isWheelBefore_74 : decode cX6_isWheelBefore 74 = .ok (.if_icmp .ge 7, 3) := by decide +kernel
theorem dX6_isWheelBefore_77 : decode cX6_isWheelBefore 77 = .ok (.iconst 1, 1) := by decide +kernel
theorem dX6_isWheelBefore_78 : decode cX6_isWheelBefore 78 = .ok (.goto 4, 3) := by decide +kernel
theorem dX6_isWheelBefore_81 : decode cX6_isWheelBefore 81 = .ok (.iconst 0, 1) := by decide +kernel
theorem dX6_isWheelBefore_82 : decode cX6_isWheelBefore 82 = .ok (.ireturn, 1) := by decide +kernel
theorem dX6_countBandsBefore_0 : decode cX6_countBandsBefore 0 = .ok (.iconst 0, 1) := by decide +kernel
theorem dX6_countBandsBefore_1 : decode cX6_countBandsBefore 1 = .ok (.istore_n 2, 1) := by decide +kernel
theorem dX6_countBandsBefore_2 : decode cX6_countBandsBefore 2 = .ok (.iconst 0, 1) := by decide +kernel
theorem dX6_countBandsBefore_3 : decode cX6_countBandsBefore 3 = .ok (.istore_n 3, 1) := by decide +kernel
theorem dX6_countBandsBefore_4 : decode cX6_countBandsBefore 4 = .ok (.iload_n 3, 1) := by decide +kernel
theorem dX6_countBandsBefore_5 : decode cX6_countBandsBefore 5 = .ok (.bipush 8, 2) := by decide +kernel
theorem dX6_countBandsBefore_7 : decode cX6_countBandsBefore 7 = .ok (.if_icmp .ge 21, 3) := by decide +kernel
theorem dX6_countBandsBefore_10 : decode cX6_countBandsBefore 10 = .ok (.aload_n 0, 1) := by decide +kernel
theorem dX6_countBandsBefore_11 : decode cX6_countBandsBefore 11 = .ok (.iload_n 3, 1) := by decide +kernel
theorem dX6_countBandsBefore_12 : decode cX6_countBandsBefore 12 = .ok (.iload_n 1, 1) := by decide +kernel
theorem dX6_countBandsBefore_13 : decode cX6_countBandsBefore 13 = .ok (.invokevirtual 170, 3) := by decide +kernel
theorem dX6_countBandsBefore_16 : decode cX6_countBandsBefore 16 = .ok (.ifCond .eq 6, 3) := by decide +kernel
theorem dX6_countBandsBefore_19 : decode cX6_countBandsBefore 19 = .ok (.iinc 2 1, 3) := by decide +kernel
theorem dX6_countBandsBefore_22 : decode cX6_countBandsBefore 22 = .ok (.iinc 3 1, 3) := by decide +kernel
theorem dX6_countBandsBefore_25 : decode cX6_countBandsBefore 25 = .ok (.goto (-21), 3) := by decide +kernel
theorem dX6_countBandsBefore_28 : decode cX6_countBandsBefore 28 = .ok (.iload_n 2, 1) := by decide +kernel
theorem dX6_countBandsBefore_29 : decode cX6_countBandsBefore 29 = .ok (.ireturn, 1) := by decide +kernel
theorem dX6_isBandBefore_0 : decode cX6_isBandBefore 0 = .ok (.aload_n 0, 1) := by decide +kernel
theorem dX6_isBandBefore_1 : decode cX6_isBandBefore 1 = .ok (.getfield 21, 3) := by decide +kernel
theorem dX6_isBandBefore_4 : decode cX6_isBandBefore 4 = .ok (.iload_n 1, 1) := by decide +kernel
theorem dX6_isBandBefore_5 : decode cX6_isBandBefore 5 = .ok (.invokevirtual 173, 3) := by decide +kernel
theorem dX6_isBandBefore_8 : decode cX6_isBandBefore 8 = .ok (.istore_n 3, 1) := by decide +kernel
theorem dX6_isBandBefore_9 : decode cX6_isBandBefore 9 = .ok (.aload_n 0, 1) := by decide +kernel
theorem dX6_isBandBefore_10 : decode cX6_isBandBefore 10 = .ok (.getfield 21, 3) := by decide +kernel
theorem dX6_isBandBefore_13 : decode cX6_isBandBefore 13 = .ok (.iload_n 2, 1) := by decide +kernel
theorem dX6_isBandBefore_14 : decode cX6_isBandBefore 14 = .ok (.invokevirtual 173, 3) := by decide +kernel
theorem dX6_isBandBefore_17 : decode cX6_isBandBefore 17 = .ok (.istore 4, 2) := by decide +kernel
theorem dX6_isBandBefore_19 : decode cX6_isBandBefore 19 = .ok (.iload_n 3, 1) := by decide +kernel
theorem dX6_isBandBefore_20 : decode cX6_isBandBefore 20 = .ok (.iload 4, 2) := by decide +kernel
theorem dX6_isBandBefore_22 : decode cX6_isBandBefore 22 = .ok (.if_icmp .eq 15, 3) := by decide +kernel
theorem dX6_isBandBefore_25 : decode cX6_isBandBefore 25 = .ok (.iload_n 3, 1) := by decide +kernel
theorem dX6_isBandBefore_26 : decode cX6_isBandBefore 26 = .ok (.iload 4, 2) := by decide +kernel
theorem dX6_isBandBefore_28 : decode cX6_isBandBefore 28 = .ok (.if_icmp .le 7, 3) := by decide +kernel
theorem dX6_isBandBefore_31 : decode cX6_isBandBefore 31 = .ok (.iconst 1, 1) := by decide +kernel
theorem dX6_isBandBefore_32 : decode cX6_isBandBefore 32 = .ok (.goto 4, 3) := by decide +kernel
theorem dX6_isBandBefore_35 : decode cX6_isBandBefore 35 = .ok (.iconst 0, 1) := by decide +kernel
theorem dX6_isBandBefore_36 : decode cX6_isBandBefore 36 = .ok (.ireturn, 1) := by decide +kernel
theorem dX6_isBandBefore_37 : decode cX6_isBandBefore 37 = .ok (.aload_n 0, 1) := by decide +kernel
theorem dX6_isBandBefore_38 : decode cX6_isBandBefore 38 = .ok (.getfield 39, 3) := by decide +kernel
theorem dX6_isBandBefore_41 : decode cX6_isBandBefore 41 = .ok (.iload_n 1, 1) := by decide +kernel
theorem dX6_isBandBefore_42 : decode cX6_isBandBefore 42 = .ok (.iaload, 1) := by decide +kernel
theorem dX6_isBandBefore_43 : decode cX6_isBandBefore 43 = .ok (.aload_n 0, 1) := by decide +kernel
theorem dX6_isBandBefore_44 : decode cX6_isBandBefore 44 = .ok (.getfield 39, 3) := by decide +kernel
theorem dX6_isBandBefore_47 : decode cX6_isBandBefore 47 = .ok (.iload_n 2, 1) := by decide +kernel
theorem dX6_isBandBefore_48 : decode cX6_isBandBefore 48 = .ok (.iaload, 1) := by decide +kernel
theorem dX6_isBandBefore_49 : decode cX6_isBandBefore 49 = .ok (.if_icmp .eq 24, 3) := by decide +kernel
theorem dX6_isBandBefore_52 : decode cX6_isBandBefore 52 = .ok (.aload_n 0, 1) := by decide +kernel
theorem dX6_isBandBefore_53 : decode cX6_isBandBefore 53 = .ok (.getfield 39, 3) := by decide +kernel
theorem dX6_isBandBefore_56 : decode cX6_isBandBefore 56 = .ok (.iload_n 1, 1) := by decide +kernel
theorem dX6_isBandBefore_57 : decode cX6_isBandBefore 57 = .ok (.iaload, 1) := by decide +kernel
theorem dX6_isBandBefore_58 : decode cX6_isBandBefore 58 = .ok (.aload_n 0, 1) := by decide +kernel
theorem dX6_isBandBefore_59 : decode cX6_isBandBefore 59 = .ok (.getfield 39, 3) := by decide +kernel
theorem dX6_isBandBefore_62 : decode cX6_isBandBefore 62 = .ok (.iload_n 2, 1) := by decide +kernel
theorem dX6_isBandBefore_63 : decode cX6_isBandBefore 63 = .ok (.iaload, 1) := by decide +kernel
theorem dX6_isBandBefore_64 : decode cX6_isBandBefore 64 = .ok (.if_icmp .ge 7, 3) := by decide +kernel
theorem dX6_isBandBefore_67 : decode cX6_isBandBefore 67 = .ok (.iconst 1, 1) := by decide +kernel
theorem dX6_isBandBefore_68 : decode cX6_isBandBefore 68 = .ok (.goto 4, 3) := by decide +kernel
theorem dX6_isBandBefore_71 : decode cX6_isBandBefore 71 = .ok (.iconst 0, 1) := by decide +kernel
theorem dX6_isBandBefore_72 : decode cX6_isBandBefore 72 = .ok (.ireturn, 1) := by decide +kernel
theorem dX6_isBandBefore_73 : decode cX6_isBandBefore 73 = .ok (.iload_n 1, 1) := by decide +kernel
theorem dX6_isBandBefore_74 : decode cX6_isBandBefore 74 = .ok (.iload_n 2, 1) := by decide +kernel
theorem dX6_isBandBefore_75 : decode cX6_isBandBefore 75 = .ok (.if_icmp .ge 7, 3) := by decide +kernel
theorem dX6_isBandBefore_78 : decode cX6_isBandBefore 78 = .ok (.iconst 1, 1) := by decide +kernel
theorem dX6_isBandBefore_79 : decode cX6_isBandBefore 79 = .ok (.goto 4, 3) := by decide +kernel
theorem dX6_isBandBefore_82 : decode cX6_isBandBefore 82 = .ok (.iconst 0, 1) := by decide +kernel
theorem dX6_isBandBefore_83 : decode cX6_isBandBefore 83 = .ok (.ireturn, 1) := by decide +kernel
theorem dX7_init_0 : decode cX7_init 0 = .ok (.aload_n 0, 1) := by decide +kernel
theorem dX7_init_1 : decode cX7_init 1 = .ok (.invokespecial 3, 3) := by decide +kernel
theorem dX7_init_4 : decode cX7_init 4 = .ok (.aload_n 0, 1) := by decide +kernel
theorem dX7_init_5 : decode cX7_init 5 = .ok (.bipush 15, 2) := by decide +kernel
theorem dX7_init_7 : decode cX7_init 7 = .ok (.newarray .int, 2) := by decide +kernel
theorem dX7_init_9 : decode cX7_init 9 = .ok (.putfield 11, 3) := by decide +kernel
theorem dX7_init_12 : decode cX7_init 12 = .ok (.aload_n 0, 1) := by decide +kernel
theorem dX7_init_13 : decode cX7_init 13 = .ok (.bipush 15, 2) := by decide +kernel
theorem dX7_init_15 : decode cX7_init 15 = .ok (.newarray .int, 2) := by decide +kernel
theorem dX7_init_17 : decode cX7_init 17 = .ok (.putfield 15, 3) := by decide +kernel
theorem dX7_init_20 : decode cX7_init 20 = .ok (.aload_n 0, 1) := by decide +kernel
theorem dX7_init_21 : decode cX7_init 21 = .ok (.bipush 15, 2) := by decide +kernel
theorem dX7_init_23 : decode cX7_init 23 = .ok (.newarray .int, 2) := by decide +kernel
theorem dX7_init_25 : decode cX7_init 25 = .ok (.putfield 18, 3) := by decide +kernel
theorem dX7_init_28 : decode cX7_init 28 = .ok (.aload_n 0, 1) := by decide +kernel
theorem dX7_init_29 : decode cX7_init 29 = .ok (.bipush 15, 2) := by decide +kernel
theorem dX7_init_31 : decode cX7_init 31 = .ok (.newarray .int, 2) := by decide +kernel
theorem dX7_init_33 : decode cX7_init 33 = .ok (.putfield 21, 3) := by decide +kernel
theorem dX7_init_36 : decode cX7_init 36 = .ok (.aload_n 0, 1) := by decide +kernel
theorem dX7_init_37 : decode cX7_init 37 = .ok (.iconst 3, 1) := by decide +kernel
theorem dX7_init_38 : decode cX7_init 38 = .ok (.newarray .boolean, 2) := by decide +kernel
theorem dX7_init_40 : decode cX7_init 40 = .ok (.putfield 24, 3) := by decide +kernel
theorem dX7_init_43 : decode cX7_init 43 = .ok (.aload_n 0, 1) := by decide +kernel
theorem dX7_init_44 : decode cX7_init 44 = .ok (.iconst 0, 1) := by decide +kernel
theorem dX7_init_45 : decode cX7_init 45 = .ok (.putfield 28, 3) := by decide +kernel
theorem dX7_init_48 : decode cX7_init 48 = .ok (.aload_n 0, 1) := by decide +kernel
theorem dX7_init_49 : decode cX7_init 49 = .ok (.iconst 0, 1) := by decide +kernel
theorem dX7_init_50 : decode cX7_init 50 = .ok (.putfield 32, 3) := by decide +kernel
theorem dX7_init_53 : decode cX7_init 53 = .ok (.return_, 1) := by decide +kernel
theorem dX7_copyFrom_0 : decode cX7_copyFrom 0 = .ok (.aload_n 1, 1) := by decide +kernel
theorem dX7_copyFrom_1 : decode cX7_copyFrom 1 = .ok (.getfield 11, 3) := by decide +kernel
theorem dX7_copyFrom_4 : decode cX7_copyFrom 4 = .ok (.iconst 0, 1) := by decide +kernel
theorem dX7_copyFrom_5 : decode cX7_copyFrom 5 = .ok (.aload_n 0, 1) := by decide +kernel
theorem dX7_copyFrom_6 : decode cX7_copyFrom 6 = .ok (.getfield 11, 3) := by decide +kernel
theorem dX7_copyFrom_9 : decode cX7_copyFrom 9 = .ok (.iconst 0, 1) := by decide +kernel
theorem dX7_copyFrom_10 : decode cX7_copyFrom 10 = .ok (.bipush 15, 2) := by decide +kernel
theorem dX7_copyFrom_12 : decode cX7_copyFrom 12 = .ok (.invokestatic 35, 3) := by decide +kernel
theorem dX7_copyFrom_15 : decode cX7_copyFrom 15 = .ok (.aload_n 1, 1) := by decide +kernel
theorem dX7_copyFrom_16 : decode cX7_copyFrom 16 = .ok (.getfield 15, 3) := by decide +kernel
theorem dX7_copyFrom_19 : decode cX7_copyFrom 19 = .ok (.iconst 0, 1) := by decide +kernel
theorem dX7_copyFrom_20 : decode cX7_copyFrom 20 = .ok (.aload_n 0, 1) := by decide +kernel
theorem dX7_copyFrom_21 : decode cX7_copyFrom 21 = .ok (.getfield 15, 3) := by decide +kernel
theorem dX7_copyFrom_24 : decode cX7_copyFrom 24 = .ok (.iconst 0, 1) := by decide +kernel
theorem dX7_copyFrom_25 : decode cX7_copyFrom 25 = .ok (.bipush 15, 2) := by decide +kernel
theorem dX7_copyFrom_27 : decode cX7_copyFrom 27 = .ok (.invokestatic 35, 3) := by decide +kernel
theorem dX7_copyFrom_30 : decode cX7_copyFrom 30 = .ok (.aload_n 1, 1) := by decide +kernel
theorem dX7_copyFrom_31 : decode cX7_copyFrom 31 = .ok (.getfield 18, 3) := by decide +kernel
theorem dX7_copyFrom_34 : decode cX7_copyFrom 34 = .ok (.iconst 0, 1) := by decide +kernel
theorem dX7_copyFrom_35 : decode cX7_copyFrom 35 = .ok (.aload_n 0, 1) := by decide +kernel
theorem dX7_copyFrom_36 : decode cX7_copyFrom 36 = .ok (.getfield 18, 3) := by decide +kernel
theorem dX7_copyFrom_39 : decode cX7_copyFrom 39 = .ok (.iconst 0, 1) := by decide +kernel
theorem dX7_copyFrom_40 : decode cX7_copyFrom 40 = .ok (.bipush 15, 2) := by decide +kernel
theorem dX7_copyFrom_42 : decode cX7_copyFrom 42 = .ok (.invokestatic 35, 3) := by decide +kernel
theorem dX7_copyFrom_45 : decode cX7_copyFrom 45 = .ok (.aload_n 1, 1) := by decide +kernel
theorem dX7_copyFrom_46 : decode cX7_copyFrom 46 = .ok (.getfield 21, 3) := by decide +kernel
theorem dX7_copyFrom_49 : decode cX7_copyFrom 49 = .ok (.iconst 0, 1) := by decide +kernel
theorem dX7_copyFrom_50 : decode cX7_copyFrom 50 = .ok (.aload_n 0, 1) := by decide +kernel
theorem dX7_copyFrom_51 : decode cX7_copyFrom 51 = .ok (.getfield 21, 3) := by decide +kernel
theorem dX7_copyFrom_54 : decode cX7_copyFrom 54 = .ok (.iconst 0, 1) := by decide +kernel
theorem dX7_copyFrom_55 : decode cX7_copyFrom 55 = .ok (.bipush 15, 2) := by decide +kernel
theorem dX7_copyFrom_57 : decode cX7_copyFrom 57 = .ok (.invokestatic 35, 3) := by decide +kernel
theorem dX7_copyFrom_60 : decode cX7_copyFrom 60 = .ok (.iconst 0, 1) := by decide +kernel
theorem dX7_copyFrom_61 : decode cX7_copyFrom 61 = .ok (.istore_n 2, 1) := by decide +kernel
theorem dX7_copyFrom_62 : decode cX7_copyFrom 62 = .ok (.iload_n 2, 1) := by decide +kernel
theorem dX7_copyFrom_63 : decode cX7_copyFrom 63 = .ok (.iconst 3, 1) := by decide +kernel
theorem dX7_copyFrom_64 : decode cX7_copyFrom 64 = .ok (.if_icmp .ge 21, 3) := by decide +kernel
theorem dX7_copyFrom_67 : decode cX7_copyFrom 67 = .ok (.aload_n 0, 1) := by decide +kernel
theorem dX7_copyFrom_68 : decode cX7_copyFrom 68 = .ok (.getfield 24, 3) := by decide +kernel
theorem dX7_copyFrom_71 : decode cX7_copyFrom 71 = .ok (.iload_n 2, 1) := by decide +kernel
theorem dX7_copyFrom_72 : decode cX7_copyFrom 72 = .ok (.aload_n 1, 1) := by decide +kernel
theorem dX7_copyFrom_73 : decode cX7_copyFrom 73 = .ok (.getfield 24, 3) := by decide +kernel
theorem dX7_copyFrom_76 : decode cX7_copyFrom 76 = .ok (.iload_n 2, 1) := by decide +kernel
theorem dX7_copyFrom_77 : decode cX7_copyFrom 77 = .ok (.baload, 1) := by decide +kernel
theorem dX7_copyFrom_78 : decode cX7_copyFrom 78 = .ok (.bastore, 1) := by decide +kernel
theorem dX7_copyFrom_79 : decode cX7_copyFrom 79 = .ok (.iinc 2 1, 3) := by decide +kernel
theorem dX7_copyFrom_82 : decode cX7_copyFrom 82 = .ok (.goto (-20), 3) := by decide +kernel
theorem dX7_copyFrom_85 : decode cX7_copyFrom 85 = .ok (.aload_n 0, 1) := by decide +kernel
theorem dX7_copyFrom_86 : decode cX7_copyFrom 86 = .ok (.aload_n 1, 1) := by decide +kernel
theorem dX7_copyFrom_87 : decode cX7_copyFrom 87 = .ok (.getfield 28, 3) := by decide +kernel
theorem dX7_copyFrom_90 : decode cX7_copyFrom 90 = .ok (.putfield 28, 3) := by decide +kernel
theorem dX7_copyFrom_93 : decode cX7_copyFrom 93 = .ok (.aload_n 0, 1) := by decide +kernel
theorem dX7_copyFrom_94 : decode cX7_copyFrom 94 = .ok (.aload_n 1, 1) := by decide +kernel
theorem dX7_copyFrom_95 : decode cX7_copyFrom 95 = .ok (.getfield 32, 3) := by decide +kernel
theorem dX7_copyFrom_98 : decode cX7_copyFrom 98 = .ok (.putfield 32, 3) := by decide +kernel
theorem dX7_copyFrom_101 : decode cX7_copyFrom 101 = .ok (.return_, 1) := by decide +kernel
theorem dX7_slotOn_0 : decode cX7_slotOn 0 = .ok (.bipush 12, 2) := by decide +kernel
theorem dX7_slotOn_2 : decode cX7_slotOn 2 = .ok (.iload_n 0, 1) := by decide +kernel
theorem dX7_slotOn_3 : decode cX7_slotOn 3 = .ok (.iadd, 1) := by decide +kernel
theorem dX7_slotOn_4 : decode cX7_slotOn 4 = .ok (.ireturn, 1) := by decide +kernel
theorem dX7_wheelOfSlot_0 : decode cX7_wheelOfSlot 0 = .ok (.iload_n 0, 1) := by decide +kernel
theorem dX7_wheelOfSlot_1 : decode cX7_wheelOfSlot 1 = .ok (.bipush 12, 2) := by decide +kernel
theorem dX7_wheelOfSlot_3 : decode cX7_wheelOfSlot 3 = .ok (.isub, 1) := by decide +kernel
theorem dX7_wheelOfSlot_4 : decode cX7_wheelOfSlot 4 = .ok (.ireturn, 1) := by decide +kernel
theorem dX7_isWaitingSlot_0 : decode cX7_isWaitingSlot 0 = .ok (.iload_n 0, 1) := by decide +kernel
theorem dX7_isWaitingSlot_1 : decode cX7_isWaitingSlot 1 = .ok (.bipush 12, 2) := by decide +kernel
theorem dX7_isWaitingSlot_3 : decode cX7_isWaitingSlot 3 = .ok (.if_icmp .ge 7, 3) := by decide +kernel
theorem dX7_isWaitingSlot_6 : decode cX7_isWaitingSlot 6 = .ok (.iconst 1, 1) := by decide +kernel
theorem dX7_isWaitingSlot_7 : decode cX7_isWaitingSlot 7 = .ok (.goto 4, 3) := by decide +kernel
theorem dX7_isWaitingSlot_10 : decode cX7_isWaitingSlot 10 = .ok (.iconst 0, 1) := by decide +kernel
theorem dX7_isWaitingSlot_11 : decode cX7_isWaitingSlot 11 = .ok (.ireturn, 1) := by decide +kernel
theorem dX7_isHeld_0 : decode cX7_isHeld 0 = .ok (.aload_n 0, 1) := by decide +kernel
theorem dX7_isHeld_1 : decode cX7_isHeld 1 = .ok (.getfield 24, 3) := by decide +kernel
theorem dX7_isHeld_4 : decode cX7_isHeld 4 = .ok (.iload_n 1, 1) := by decide +kernel
theorem dX7_isHeld_5 : decode cX7_isHeld 5 = .ok (.baload, 1) := by decide +kernel
theorem dX7_isHeld_6 : decode cX7_isHeld 6 = .ok (.ireturn, 1) := by decide +kernel
theorem dX7_isFull_0 : decode cX7_isFull 0 = .ok (.aload_n 0, 1) := by decide +kernel
theorem dX7_isFull_1 : decode cX7_isFull 1 = .ok (.getfield 28, 3) := by decide +kernel
theorem dX7_isFull_4 : decode cX7_isFull 4 = .ok (.bipush 12, 2) := by decide +kernel
theorem dX7_isFull_6 : decode cX7_isFull 6 = .ok (.if_icmp .lt 7, 3) := by decide +kernel
theorem dX7_isFull_9 : decode cX7_isFull 9 = .ok (.iconst 1, 1) := by decide +kernel
theorem dX7_isFull_10 : decode cX7_isFull 10 = .ok (.goto 4, 3) := by decide +kernel
theorem dX7_isFull_13 : decode cX7_isFull 13 = .ok (.iconst 0, 1) := by decide +kernel
theorem dX7_isFull_14 : decode cX7_isFull 14 = .ok (.ireturn, 1) := by decide +kernel
theorem dX7_slotOf_0 : decode cX7_slotOf 0 = .ok (.iconst 0, 1) := by decide +kernel
theorem dX7_slotOf_1 : decode cX7_slotOf 1 = .ok (.istore_n 2, 1) := by decide +kernel
theorem dX7_slotOf_2 : decode cX7_slotOf 2 = .ok (.iload_n 2, 1) := by decide +kernel
theorem dX7_slotOf_3 : decode cX7_slotOf 3 = .ok (.aload_n 0, 1) := by decide +kernel
theorem dX7_slotOf_4 : decode cX7_slotOf 4 = .ok (.getfield 28, 3) := by decide +kernel
theorem dX7_slotOf_7 : decode cX7_slotOf 7 = .ok (.if_icmp .ge 21, 3) := by decide +kernel
theorem dX7_slotOf_10 : decode cX7_slotOf 10 = .ok (.aload_n 0, 1) := by decide +kernel
theorem dX7_slotOf_11 : decode cX7_slotOf 11 = .ok (.getfield 11, 3) := by decide +kernel
theorem dX7_slotOf_14 : decode cX7_slotOf 14 = .ok (.iload_n 2, 1) := by decide +kernel
theorem dX7_slotOf_15 : decode cX7_slotOf 15 = .ok (.iaload, 1) := by decide +kernel
theorem dX7_slotOf_16 : decode cX7_slotOf 16 = .ok (.iload_n 1, 1) := by decide +kernel
theorem dX7_slotOf_17 : decode cX7_slotOf 17 = .ok (.if_icmp .ne 5, 3) := by decide +kernel
theorem dX7_slotOf_20 : decode cX7_slotOf 20 = .ok (.iload_n 2, 1) := by decide +kernel
theorem dX7_slotOf_21 : decode cX7_slotOf 21 = .ok (.ireturn, 1) := by decide +kernel
theorem dX7_slotOf_22 : decode cX7_slotOf 22 = .ok (.iinc 2 1, 3) := by decide +kernel
theorem dX7_slotOf_25 : decode cX7_slotOf 25 = .ok (.goto (-23), 3) := by decide +kernel
theorem dX7_slotOf_28 : decode cX7_slotOf 28 = .ok (.iconst 0, 1) := by decide +kernel
theorem dX7_slotOf_29 : decode cX7_slotOf 29 = .ok (.istore_n 2, 1) := by decide +kernel
theorem dX7_slotOf_30 : decode cX7_slotOf 30 = .ok (.iload_n 2, 1) := by decide +kernel
theorem dX7_slotOf_31 : decode cX7_slotOf 31 = .ok (.iconst 3, 1) := by decide +kernel
theorem dX7_slotOf_32 : decode cX7_slotOf 32 = .ok (.if_icmp .ge 36, 3) := by decide +kernel
theorem dX7_slotOf_35 : decode cX7_slotOf 35 = .ok (.aload_n 0, 1) := by decide +kernel
theorem dX7_slotOf_36 : decode cX7_slotOf 36 = .ok (.getfield 24, 3) := by decide +kernel
theorem dX7_slotOf_39 : decode cX7_slotOf 39 = .ok (.iload_n 2, 1) := by decide +kernel
theorem dX7_slotOf_40 : decode cX7_slotOf 40 = .ok (.baload, 1) := by decide +kernel
theorem dX7_slotOf_41 : decode cX7_slotOf 41 = .ok (.ifCond .eq 21, 3) := by decide +kernel
theorem dX7_slotOf_44 : decode cX7_slotOf 44 = .ok (.aload_n 0, 1) := by decide +kernel
theorem dX7_slotOf_45 : decode cX7_slotOf 45 = .ok (.getfield 11, 3) := by decide +kernel
theorem dX7_slotOf_48 : decode cX7_slotOf 48 = .ok (.iload_n 2, 1) := by decide +kernel
theorem dX7_slotOf_49 : decode cX7_slotOf 49 = .ok (.invokestatic 41, 3) := by decide +kernel
theorem dX7_slotOf_52 : decode cX7_slotOf 52 = .ok (.iaload, 1) := by decide +kernel
theorem dX7_slotOf_53 : decode cX7_slotOf 53 = .ok (.iload_n 1, 1) := by decide +kernel
theorem dX7_slotOf_54 : decode cX7_slotOf 54 = .ok (.if_icmp .ne 8, 3) := by decide +kernel
theorem dX7_slotOf_57 : decode cX7_slotOf 57 = .ok (.iload_n 2, 1) := by decide +kernel
theorem dX7_slotOf_58 : decode cX7_slotOf 58 = .ok (.invokestatic 41, 3) := by decide +kernel
theorem dX7_slotOf_61 : decode cX7_slotOf 61 = .ok (.ireturn, 1) := by decide +kernel
theorem dX7_slotOf_62 : decode cX7_slotOf 62 = .ok (.iinc 2 1, 3) := by decide +kernel
theorem dX7_slotOf_65 : decode cX7_slotOf 65 = .ok (.goto (-35), 3) := by decide +kernel
theorem dX7_slotOf_68 : decode cX7_slotOf 68 = .ok (.iconst (-1), 1) := by decide +kernel
theorem dX7_slotOf_69 : decode cX7_slotOf 69 = .ok (.ireturn, 1) := by decide +kernel
theorem dX7_append_0 : decode cX7_append 0 = .ok (.aload_n 0, 1) := by decide +kernel
theorem dX7_append_1 : decode cX7_append 1 = .ok (.invokevirtual 45, 3) := by decide +kernel
theorem dX7_append_4 : decode cX7_append 4 = .ok (.ifCond .eq 5, 3) := by decide +kernel
theorem dX7_append_7 : decode cX7_append 7 = .ok (.iconst (-1), 1) := by decide +kernel
theorem dX7_append_8 : decode cX7_append 8 = .ok (.ireturn, 1) := by decide +kernel
theorem dX7_append_9 : decode cX7_append 9 = .ok (.aload_n 0, 1) := by decide +kernel
theorem dX7_append_10 : decode cX7_append 10 = .ok (.getfield 32, 3) := by decide +kernel
theorem dX7_append_13 : decode cX7_append 13 = .ok (.istore 4, 2) := by decide +kernel
theorem dX7_append_15 : decode cX7_append 15 = .ok (.aload_n 0, 1) := by decide +kernel
theorem dX7_append_16 : decode cX7_append 16 = .ok (.getfield 11, 3) := by decide +kernel
theorem dX7_append_19 : decode cX7_append 19 = .ok (.aload_n 0, 1) := by decide +kernel
theorem dX7_append_20 : decode cX7_append 20 = .ok (.getfield 28, 3) := by decide +kernel
theorem dX7_append_23 : decode cX7_append 23 = .ok (.iload 4, 2) := by decide +kernel
theorem dX7_append_25 : decode cX7_append 25 = .ok (.iastore, 1) := by decide +kernel
theorem dX7_append_26 : decode cX7_append 26 = .ok (.aload_n 0, 1) := by decide +kernel
theorem dX7_append_27 : decode cX7_append 27 = .ok (.getfield 15, 3) := by decide +kernel
theorem dX7_append_30 : decode cX7_append 30 = .ok (.aload_n 0, 1) := by decide +kernel
theorem dX7_append_31 : decode cX7_append 31 = .ok (.getfield 28, 3) := by decide +kernel
theorem dX7_append_34 : decode cX7_append 34 = .ok (.iload_n 1, 1) := by decide +kernel
theorem dX7_append_35 : decode cX7_append 35 = .ok (.iastore, 1) := by decide +kernel
theorem dX7_append_36 : decode cX7_append 36 = .ok (.aload_n 0, 1) := by decide +kernel
theorem dX7_append_37 : decode cX7_append 37 = .ok (.getfield 18, 3) := by decide +kernel
theorem dX7_append_40 : decode cX7_append 40 = .ok (.aload_n 0, 1) := by decide +kernel
theorem dX7_append_41 : decode cX7_append 41 = .ok (.getfield 28, 3) := by decide +kernel
theorem dX7_append_44 : decode cX7_append 44 = .ok (.iload_n 2, 1) := by decide +kernel
theorem dX7_append_45 : decode cX7_append 45 = .ok (.iastore, 1) := by decide +kernel
theorem dX7_append_46 : decode cX7_append 46 = .ok (.aload_n 0, 1) := by decide +kernel
theorem dX7_append_47 : decode cX7_append 47 = .ok (.getfield 21, 3) := by decide +kernel
theorem dX7_append_50 : decode cX7_append 50 = .ok (.aload_n 0, 1) := by decide +kernel
theorem dX7_append_51 : decode cX7_append 51 = .ok (.getfield 28, 3) := by decide +kernel
theorem dX7_append_54 : decode cX7_append 54 = .ok (.iload_n 3, 1) := by decide +kernel
theorem dX7_append_55 : decode cX7_append 55 = .ok (.iastore, 1) := by decide +kernel
theorem dX7_append_56 : decode cX7_append 56 = .ok (.aload_n 0, 1) := by decide +kernel
theorem dX7_append_57 : decode cX7_append 57 = .ok (.dup, 1) := by decide +kernel
theorem dX7_append_58 : decode cX7_append 58 = .ok (.getfield 28, 3) := by decide +kernel
theorem dX7_append_61 : decode cX7_append 61 = .ok (.iconst 1, 1) := by decide +kernel
theorem dX7_append_62 : decode cX7_append 62 = .ok (.iadd, 1) := by decide +kernel
theorem dX7_append_63 : decode cX7_append 63 = .ok (.putfield 28, 3) := by decide +kernel
theorem dX7_append_66 : decode cX7_append 66 = .ok (.aload_n 0, 1) := by decide +kernel
theorem dX7_append_67 : decode cX7_append 67 = .ok (.dup, 1) := by decide +kernel
theorem dX7_append_68 : decode cX7_append 68 = .ok (.getfield 32, 3) := by decide +kernel
theorem dX7_append_71 : decode cX7_append 71 = .ok (.iconst 1, 1) := by decide +kernel
theorem dX7_append_72 : decode cX7_append 72 = .ok (.iadd, 1) := by decide +kernel
theorem dX7_append_73 : decode cX7_append 73 = .ok (.putfield 32, 3) := by decide +kernel
theorem dX7_append_76 : decode cX7_append 76 = .ok (.iload 4, 2) := by decide +kernel
theorem dX7_append_78 : decode cX7_append 78 = .ok (.ireturn, 1) := by decide +kernel
theorem dX7_removeWaiting_0 : decode cX7_removeWaiting 0 = .ok (.iload_n 1, 1) := by decide +kernel
theorem dX7_removeWaiting_1 : decode cX7_removeWaiting 1 = .ok (.aload_n 0, 1) := by decide +kernel
theorem dX7_removeWaiting_2 : decode cX7_removeWaiting 2 = .ok (.getfield 28, 3) := by decide +kernel
theorem dX7_removeWaiting_5 : decode cX7_removeWaiting 5 = .ok (.if_icmp .lt 4, 3) := by decide +kernel
theorem dX7_removeWaiting_8 : decode cX7_removeWaiting 8 = .ok (.return_, 1) := by decide +kernel
theorem dX7_removeWaiting_9 : decode cX7_removeWaiting 9 = .ok (.aload_n 0, 1) := by decide +kernel
theorem dX7_removeWaiting_10 : decode cX7_removeWaiting 10 = .ok (.aload_n 0, 1) := by decide +kernel
theorem dX7_removeWaiting_11 : decode cX7_removeWaiting 11 = .ok (.getfield 28, 3) := by decide +kernel
theorem dX7_removeWaiting_14 : decode cX7_removeWaiting 14 = .ok (.iconst 1, 1) := by decide +kernel
theorem dX7_removeWaiting_15 : decode cX7_removeWaiting 15 = .ok (.isub, 1) := by decide +kernel
theorem dX7_removeWaiting_16 : decode cX7_removeWaiting 16 = .ok (.iload_n 1, 1) := by decide +kernel
theorem dX7_removeWaiting_17 : decode cX7_removeWaiting 17 = .ok (.invokevirtual 49, 3) := by decide +kernel
theorem dX7_removeWaiting_20 : decode cX7_removeWaiting 20 = .ok (.aload_n 0, 1) := by decide +kernel
theorem dX7_removeWaiting_21 : decode cX7_removeWaiting 21 = .ok (.dup, 1) := by decide +kernel
theorem dX7_removeWaiting_22 : decode cX7_removeWaiting 22 = .ok (.getfield 28, 3) := by decide +kernel
theorem dX7_removeWaiting_25 : decode cX7_removeWaiting 25 = .ok (.iconst 1, 1) := by decide +kernel
theorem dX7_removeWaiting_26 : decode cX7_removeWaiting 26 = .ok (.isub, 1) := by decide +kernel
theorem dX7_removeWaiting_27 : decode cX7_removeWaiting 27 = .ok (.putfield 28, 3) := by decide +kernel
theorem dX7_removeWaiting_30 : decode cX7_removeWaiting 30 = .ok (.return_, 1) := by decide +kernel
theorem dX7_takeFirst_0 : decode cX7_takeFirst 0 = .ok (.aload_n 0, 1) := by decide +kernel
theorem dX7_takeFirst_1 : decode cX7_takeFirst 1 = .ok (.invokevirtual 53, 3) := by decide +kernel
theorem dX7_takeFirst_4 : decode cX7_takeFirst 4 = .ok (.istore_n 2, 1) := by decide +kernel
theorem dX7_takeFirst_5 : decode cX7_takeFirst 5 = .ok (.iload_n 2, 1) := by decide +kernel
theorem dX7_takeFirst_6 : decode cX7_takeFirst 6 = .ok (.iconst (-1), 1) := by decide +kernel
theorem dX7_takeFirst_7 : decode cX7_takeFirst 7 = .ok (.if_icmp .ne 4, 3) := by decide +kernel
theorem dX7_takeFirst_10 : decode cX7_takeFirst 10 = .ok (.return_, 1) := by decide +kernel
theorem dX7_takeFirst_11 : decode cX7_takeFirst 11 = .ok (.aload_n 0, 1) := by decide +kernel
theorem dX7_takeFirst_12 : decode cX7_takeFirst 12 = .ok (.iload_n 2, 1) := by decide +kernel
theorem dX7_takeFirst_13 : decode cX7_takeFirst 13 = .ok (.iload_n 1, 1) := by decide +kernel
theorem dX7_takeFirst_14 : decode cX7_takeFirst 14 = .ok (.invokestatic 41, 3) := by decide +kernel
theorem dX7_takeFirst_17 : decode cX7_takeFirst 17 = .ok (.invokevirtual 49, 3) := by decide +kernel
theorem dX7_takeFirst_20 : decode cX7_takeFirst 20 = .ok (.aload_n 0, 1) := by decide +kernel
theorem dX7_takeFirst_21 : decode cX7_takeFirst 21 = .ok (.getfield 24, 3) := by decide +kernel
theorem dX7_takeFirst_24 : decode cX7_takeFirst 24 = .ok (.iload_n 1, 1) := by decide +kernel
theorem dX7_takeFirst_25 : decode cX7_takeFirst 25 = .ok (.iconst 1, 1) := by decide +kernel
theorem dX7_takeFirst_26 : decode cX7_takeFirst 26 = .ok (.bastore, 1) := by decide +kernel
theorem dX7_takeFirst_27 : decode cX7_takeFirst 27 = .ok (.aload_n 0, 1) := by decide +kernel
theorem dX7_takeFirst_28 : decode cX7_takeFirst 28 = .ok (.iload_n 2, 1) := by decide +kernel
theorem dX7_takeFirst_29 : decode cX7_takeFirst 29 = .ok (.invokevirtual 57, 3) := by decide +kernel
theorem dX7_takeFirst_32 : decode cX7_takeFirst 32 = .ok (.return_, 1) := by decide +kernel
theorem dX7_putBack_0 : decode cX7_putBack 0 = .ok (.aload_n 0, 1) := by decide +kernel
theorem dX7_putBack_1 : decode cX7_putBack 1 = .ok (.invokevirtual 45, 3) := by decide +kernel
theorem dX7_putBack_4 : decode cX7_putBack 4 = .ok (.ifCond .eq 5, 3) := by decide +kernel
theorem dX7_putBack_7 : decode cX7_putBack 7 = .ok (.iconst (-1), 1) := by decide +kernel
theorem dX7_putBack_8 : decode cX7_putBack 8 = .ok (.ireturn, 1) := by decide +kernel
theorem dX7_putBack_9 : decode cX7_putBack 9 = .ok (.aload_n 0, 1) := by decide +kernel
theorem dX7_putBack_10 : decode cX7_putBack 10 = .ok (.iload_n 1, 1) := by decide +kernel
theorem dX7_putBack_11 : decode cX7_putBack 11 = .ok (.invokestatic 41, 3) := by decide +kernel
theorem dX7_putBack_14 : decode cX7_putBack 14 = .ok (.aload_n 0, 1) := by decide +kernel
theorem dX7_putBack_15 : decode cX7_putBack 15 = .ok (.getfield 28, 3) := by decide +kernel
theorem dX7_putBack_18 : decode cX7_putBack 18 = .ok (.invokevirtual 49, 3) := by decide +kernel
theorem dX7_putBack_21 : decode cX7_putBack 21 = .ok (.aload_n 0, 1) := by decide +kernel
theorem dX7_putBack_22 : decode cX7_putBack 22 = .ok (.getfield 24, 3) := by decide +kernel
theorem dX7_putBack_25 : decode cX7_putBack 25 = .ok (.iload_n 1, 1) := by decide +kernel
theorem dX7_putBack_26 : decode cX7_putBack 26 = .ok (.iconst 0, 1) := by decide +kernel
theorem dX7_putBack_27 : decode cX7_putBack 27 = .ok (.bastore, 1) := by decide +kernel
theorem dX7_putBack_28 : decode cX7_putBack 28 = .ok (.aload_n 0, 1) := by decide +kernel
theorem dX7_putBack_29 : decode cX7_putBack 29 = .ok (.dup, 1) := by decide +kernel
theorem dX7_putBack_30 : decode cX7_putBack 30 = .ok (.getfield 28, 3) := by decide +kernel
theorem dX7_putBack_33 : decode cX7_putBack 33 = .ok (.iconst 1, 1) := by decide +kernel
theorem dX7_putBack_34 : decode cX7_putBack 34 = .ok (.iadd, 1) := by decide +kernel
theorem dX7_putBack_35 : decode cX7_putBack 35 = .ok (.putfield 28, 3) := by decide +kernel
theorem dX7_putBack_38 : decode cX7_putBack 38 = .ok (.aload_n 0, 1) := by decide +kernel
theorem dX7_putBack_39 : decode cX7_putBack 39 = .ok (.getfield 11, 3) := by decide +kernel
theorem dX7_putBack_42 : decode cX7_putBack 42 = .ok (.iload_n 1, 1) := by decide +kernel
theorem dX7_putBack_43 : decode cX7_putBack 43 = .ok (.invokestatic 41, 3) := by decide +kernel
theorem dX7_putBack_46 : decode cX7_putBack 46 = .ok (.iaload, 1) := by decide +kernel
theorem dX7_putBack_47 : decode cX7_putBack 47 = .ok (.ireturn, 1) := by decide +kernel
theorem dX7_leave_0 : decode cX7_leave 0 = .ok (.aload_n 0, 1) := by decide +kernel
theorem dX7_leave_1 : decode cX7_leave 1 = .ok (.getfield 24, 3) := by decide +kernel
theorem dX7_leave_4 : decode cX7_leave 4 = .ok (.iload_n 1, 1) := by decide +kernel
theorem dX7_leave_5 : decode cX7_leave 5 = .ok (.iconst 0, 1) := by decide +kernel
theorem dX7_leave_6 : decode cX7_leave 6 = .ok (.bastore, 1) := by decide +kernel
theorem dX7_leave_7 : decode cX7_leave 7 = .ok (.return_, 1) := by decide +kernel
theorem dX7_move_0 : decode cX7_move 0 = .ok (.aload_n 0, 1) := by decide +kernel
theorem dX7_move_1 : decode cX7_move 1 = .ok (.getfield 11, 3) := by decide +kernel
theorem dX7_move_4 : decode cX7_move 4 = .ok (.iload_n 2, 1) := by decide +kernel
theorem dX7_move_5 : decode cX7_move 5 = .ok (.aload_n 0, 1) := by decide +kernel
theorem dX7_move_6 : decode cX7_move 6 = .ok (.getfield 11, 3) := by decide +kernel
theorem dX7_move_9 : decode cX7_move 9 = .ok (.iload_n 1, 1) := by decide +kernel
theorem dX7_move_10 : decode cX7_move 10 = .ok (.iaload, 1) := by decide +kernel
theorem dX7_move_11 : decode cX7_move 11 = .ok (.iastore, 1) := by decide +kernel
theorem dX7_move_12 : decode cX7_move 12 = .ok (.aload_n 0, 1) := by decide +kernel
theorem dX7_move_13 : decode cX7_move 13 = .ok (.getfield 15, 3) := by decide +kernel
theorem dX7_move_16 : decode cX7_move 16 = .ok (.iload_n 2, 1) := by decide +kernel
theorem dX7_move_17 : decode cX7_move 17 = .ok (.aload_n 0, 1) := by decide +kernel
theorem dX7_move_18 : decode cX7_move 18 = .ok (.getfield 15, 3) := by decide +kernel
theorem dX7_move_21 : decode cX7_move 21 = .ok (.iload_n 1, 1) := by decide +kernel
theorem dX7_move_22 : decode cX7_move 22 = .ok (.iaload, 1) := by decide +kernel
theorem dX7_move_23 : decode cX7_move 23 = .ok (.iastore, 1) := by decide +kernel
theorem dX7_move_24 : decode cX7_move 24 = .ok (.aload_n 0, 1) := by decide +kernel
theorem dX7_move_25 : decode cX7_move 25 = .ok (.getfield 18, 3) := by decide +kernel
theorem dX7_move_28 : decode cX7_move 28 = .ok (.iload_n 2, 1) := by decide +kernel
theorem dX7_move_29 : decode cX7_move 29 = .ok (.aload_n 0, 1) := by decide +kernel
theorem dX7_move_30 : decode cX7_move 30 = .ok (.getfield 18, 3) := by decide +kernel
theorem dX7_move_33 : decode cX7_move 33 = .ok (.iload_n 1, 1) := by decide +kernel
theorem dX7_move_34 : decode cX7_move 34 = .ok (.iaload, 1) := by decide +kernel
theorem dX7_move_35 : decode cX7_move 35 = .ok (.iastore, 1) := by decide +kernel
theorem dX7_move_36 : decode cX7_move 36 = .ok (.aload_n 0, 1) := by decide +kernel
theorem dX7_move_37 : decode cX7_move 37 = .ok (.getfield 21, 3) := by decide +kernel
theorem dX7_move_40 : decode cX7_move 40 = .ok (.iload_n 2, 1) := by decide +kernel
theorem dX7_move_41 : decode cX7_move 41 = .ok (.aload_n 0, 1) := by decide +kernel
theorem dX7_move_42 : decode cX7_move 42 = .ok (.getfield 21, 3) := by decide +kernel
theorem dX7_move_45 : decode cX7_move 45 = .ok (.iload_n 1, 1) := by decide +kernel
theorem dX7_move_46 : decode cX7_move 46 = .ok (.iaload, 1) := by decide +kernel
theorem dX7_move_47 : decode cX7_move 47 = .ok (.iastore, 1) := by decide +kernel
theorem dX7_move_48 : decode cX7_move 48 = .ok (.return_, 1) := by decide +kernel
theorem dX7_firstWaiting_0 : decode cX7_firstWaiting 0 = .ok (.iconst (-1), 1) := by decide +kernel
theorem dX7_firstWaiting_1 : decode cX7_firstWaiting 1 = .ok (.istore_n 1, 1) := by decide +kernel
theorem dX7_firstWaiting_2 : decode cX7_firstWaiting 2 = .ok (.iconst 0, 1) := by decide +kernel
theorem dX7_firstWaiting_3 : decode cX7_firstWaiting 3 = .ok (.istore_n 2, 1) := by decide +kernel
theorem dX7_firstWaiting_4 : decode cX7_firstWaiting 4 = .ok (.iload_n 2, 1) := by decide +kernel
theorem dX7_firstWaiting_5 : decode cX7_firstWaiting 5 = .ok (.aload_n 0, 1) := by decide +kernel
theorem dX7_firstWaiting_6 : decode cX7_firstWaiting 6 = .ok (.getfield 28, 3) := by decide +kernel
theorem dX7_firstWaiting_9 : decode cX7_firstWaiting 9 = .ok (.if_icmp .ge 25, 3) := by decide +kernel
theorem dX7_firstWaiting_12 : decode cX7_firstWaiting 12 = .ok (.iload_n 1, 1) := by decide +kernel
theorem dX7_firstWaiting_13 : decode cX7_firstWaiting 13 = .ok (.iconst (-1), 1) := by decide +kernel
theorem dX7_firstWaiting_14 : decode cX7_firstWaiting 14 = .ok (.if_icmp .eq 12, 3) := by decide +kernel
theorem dX7_firstWaiting_17 : decode cX7_firstWaiting 17 = .ok (.aload_n 0, 1) := by decide +kernel
theorem dX7_firstWaiting_18 : decode cX7_firstWaiting 18 = .ok (.iload_n 2, 1) := by decide +kernel
theorem dX7_firstWaiting_19 : decode cX7_firstWaiting 19 = .ok (.iload_n 1, 1) := by decide +kernel
theorem dX7_firstWaiting_20 : decode cX7_firstWaiting 20 = .ok (.invokevirtual 61, 3) := by decide +kernel
theorem dX7_firstWaiting_23 : decode cX7_firstWaiting 23 = .ok (.ifCond .eq 5, 3) := by decide +kernel
theorem dX7_firstWaiting_26 : decode cX7_firstWaiting 26 = .ok (.iload_n 2, 1) := by decide +kernel
theorem dX7_firstWaiting_27 : decode cX7_firstWaiting 27 = .ok (.istore_n 1, 1) := by decide +kernel
theorem dX7_firstWaiting_28 : decode cX7_firstWaiting 28 = .ok (.iinc 2 1, 3) := by decide +kernel
theorem dX7_firstWaiting_31 : decode cX7_firstWaiting 31 = .ok (.goto (-27), 3) := by decide +kernel
theorem dX7_firstWaiting_34 : decode cX7_firstWaiting 34 = .ok (.iload_n 1, 1) := by decide +kernel
theorem dX7_firstWaiting_35 : decode cX7_firstWaiting 35 = .ok (.ireturn, 1) := by decide +kernel
theorem dX7_isBefore_0 : decode cX7_isBefore 0 = .ok (.aload_n 0, 1) := by decide +kernel
theorem dX7_isBefore_1 : decode cX7_isBefore 1 = .ok (.getfield 18, 3) := by decide +kernel
theorem dX7_isBefore_4 : decode cX7_isBefore 4 = .ok (.iload_n 1, 1) := by decide +kernel
theorem dX7_isBefore_5 : decode cX7_isBefore 5 = .ok (.iaload, 1) := by decide +kernel
theorem dX7_isBefore_6 : decode cX7_isBefore 6 = .ok (.aload_n 0, 1) := by decide +kernel
theorem dX7_isBefore_7 : decode cX7_isBefore 7 = .ok (.getfield 18, 3) := by decide +kernel
theorem dX7_isBefore_10 : decode cX7_isBefore 10 = .ok (.iload_n 2, 1) := by decide +kernel
theorem dX7_isBefore_11 : decode cX7_isBefore 11 = .ok (.iaload, 1) := by decide +kernel
theorem dX7_isBefore_12 : decode cX7_isBefore 12 = .ok (.if_icmp .eq 24, 3) := by decide +kernel
theorem dX7_isBefore_15 : decode cX7_isBefore 15 = .ok (.aload_n 0, 1) := by decide +kernel
theorem dX7_isBefore_16 : decode cX7_isBefore 16 = .ok (.getfield 18, 3) := by decide +kernel
theorem dX7_isBefore_19 : decode cX7_isBefore 19 = .ok (.iload_n 1, 1) := by decide +kernel
theorem dX7_isBefore_20 : decode cX7_isBefore 20 = .ok (.iaload, 1) := by decide +kernel
theorem dX7_isBefore_21 : decode cX7_isBefore 21 = .ok (.aload_n 0, 1) := by decide +kernel
theorem dX7_isBefore_22 : decode cX7_isBefore 22 = .ok (.getfield 18, 3) := by decide +kernel
theorem dX7_isBefore_25 : decode cX7_isBefore 25 = .ok (.iload_n 2, 1) := by decide +kernel
theorem dX7_isBefore_26 : decode cX7_isBefore 26 = .ok (.iaload, 1) := by decide +kernel
theorem dX7_isBefore_27 : decode cX7_isBefore 27 = .ok (.if_icmp .le 7, 3) := by decide +kernel
theorem dX7_isBefore_30 : decode cX7_isBefore 30 = .ok (.iconst 1, 1) := by decide +kernel
theorem dX7_isBefore_31 : decode cX7_isBefore 31 = .ok (.goto 4, 3) := by decide +kernel
theorem dX7_isBefore_34 : decode cX7_isBefore 34 = .ok (.iconst 0, 1) := by decide +kernel
theorem dX7_isBefore_35 : decode cX7_isBefore 35 = .ok (.ireturn, 1) := by decide +kernel
theorem dX7_isBefore_36 : decode cX7_isBefore 36 = .ok (.aload_n 0, 1) := by decide +kernel
theorem dX7_isBefore_37 : decode cX7_isBefore 37 = .ok (.getfield 11, 3) := by decide +kernel
theorem dX7_isBefore_40 : decode cX7_isBefore 40 = .ok (.iload_n 1, 1) := by decide +kernel
theorem dX7_isBefore_41 : decode cX7_isBefore 41 = .ok (.iaload, 1) := by decide +kernel
theorem dX7_isBefore_42 : decode cX7_isBefore 42 = .ok (.aload_n 0, 1) := by decide +kernel
theorem dX7_isBefore_43 : decode cX7_isBefore 43 = .ok (.getfield 11, 3) := by decide +kernel
theorem dX7_isBefore_46 : decode cX7_isBefore 46 = .ok (.iload_n 2, 1) := by decide +kernel
theorem dX7_isBefore_47 : decode cX7_isBefore 47 = .ok (.iaload, 1) := by decide +kernel
theorem dX7_isBefore_48 : decode cX7_isBefore 48 = .ok (.if_icmp .ge 7, 3) := by decide +kernel
theorem dX7_isBefore_51 : decode cX7_isBefore 51 = .ok (.iconst 1, 1) := by decide +kernel
theorem dX7_isBefore_52 : decode cX7_isBefore 52 = .ok (.goto 4, 3) := by decide +kernel
theorem dX7_isBefore_55 : decode cX7_isBefore 55 = .ok (.iconst 0, 1) := by decide +kernel
theorem dX7_isBefore_56 : decode cX7_isBefore 56 = .ok (.ireturn, 1) := by decide +kernel
theorem dX7_countBefore_0 : decode cX7_countBefore 0 = .ok (.iload_n 1, 1) := by decide +kernel
theorem dX7_countBefore_1 : decode cX7_countBefore 1 = .ok (.iconst (-1), 1) := by decide +kernel
theorem dX7_countBefore_2 : decode cX7_countBefore 2 = .ok (.if_icmp .ne 5, 3) := by decide +kernel
theorem dX7_countBefore_5 : decode cX7_countBefore 5 = .ok (.iconst (-1), 1) := by decide +kernel
theorem dX7_countBefore_6 : decode cX7_countBefore 6 = .ok (.ireturn, 1) := by decide +kernel
theorem dX7_countBefore_7 : decode cX7_countBefore 7 = .ok (.iconst 0, 1) := by decide +kernel
theorem dX7_countBefore_8 : decode cX7_countBefore 8 = .ok (.istore_n 2, 1) := by decide +kernel
theorem dX7_countBefore_9 : decode cX7_countBefore 9 = .ok (.iconst 0, 1) := by decide +kernel
theorem dX7_countBefore_10 : decode cX7_countBefore 10 = .ok (.istore_n 3, 1) := by decide +kernel
theorem dX7_countBefore_11 : decode cX7_countBefore 11 = .ok (.iload_n 3, 1) := by decide +kernel
theorem dX7_countBefore_12 : decode cX7_countBefore 12 = .ok (.aload_n 0, 1) := by decide +kernel
theorem dX7_countBefore_13 : decode cX7_countBefore 13 = .ok (.getfield 28, 3) := by decide +kernel
theorem dX7_countBefore_16 : decode cX7_countBefore 16 = .ok (.if_icmp .ge 21, 3) := by decide +kernel
theorem dX7_countBefore_19 : decode cX7_countBefore 19 = .ok (.aload_n 0, 1) := by decide +kernel
theorem dX7_countBefore_20 : decode cX7_countBefore 20 = .ok (.iload_n 3, 1) := by decide +kernel
theorem dX7_countBefore_21 : decode cX7_countBefore 21 = .ok (.iload_n 1, 1) := by decide +kernel
theorem dX7_countBefore_22 : decode cX7_countBefore 22 = .ok (.invokevirtual 61, 3) := by decide +kernel
theorem dX7_countBefore_25 : decode cX7_countBefore 25 = .ok (.ifCond .eq 6, 3) := by decide +kernel
theorem dX7_countBefore_28 : decode cX7_countBefore 28 = .ok (.iinc 2 1, 3) := by decide +kernel
theorem dX7_countBefore_31 : decode cX7_countBefore 31 = .ok (.iinc 3 1, 3) := by decide +kernel
theorem dX7_countBefore_34 : decode cX7_countBefore 34 = .ok (.goto (-23), 3) := by decide +kernel
theorem dX7_countBefore_37 : decode cX7_countBefore 37 = .ok (.iload_n 2, 1) := by decide +kernel
theorem dX7_countBefore_38 : decode cX7_countBefore 38 = .ok (.ireturn, 1) := by decide +kernel
theorem dX7_waitingLoudness_0 : decode cX7_waitingLoudness 0 = .ok (.iconst 0, 1) := by decide +kernel
theorem dX7_waitingLoudness_1 : decode cX7_waitingLoudness 1 = .ok (.istore_n 1, 1) := by decide +kernel
theorem dX7_waitingLoudness_2 : decode cX7_waitingLoudness 2 = .ok (.iconst 0, 1) := by decide +kernel
theorem dX7_waitingLoudness_3 : decode cX7_waitingLoudness 3 = .ok (.istore_n 2, 1) := by decide +kernel
theorem dX7_waitingLoudness_4 : decode cX7_waitingLoudness 4 = .ok (.iload_n 2, 1) := by decide +kernel
theorem dX7_waitingLoudness_5 : decode cX7_waitingLoudness 5 = .ok (.aload_n 0, 1) := by decide +kernel
theorem dX7_waitingLoudness_6 : decode cX7_waitingLoudness 6 = .ok (.getfield 28, 3) := by decide +kernel
theorem dX7_waitingLoudness_9 : decode cX7_waitingLoudness 9 = .ok (.if_icmp .ge 18, 3) := by decide +kernel
theorem dX7_waitingLoudness_12 : decode cX7_waitingLoudness 12 = .ok (.iload_n 1, 1) := by decide +kernel
theorem dX7_waitingLoudness_13 : decode cX7_waitingLoudness 13 = .ok (.aload_n 0, 1) := by decide +kernel
theorem dX7_waitingLoudness_14 : decode cX7_waitingLoudness 14 = .ok (.getfield 18, 3) := by decide +kernel
theorem dX7_waitingLoudness_17 : decode cX7_waitingLoudness 17 = .ok (.iload_n 2, 1) := by decide +kernel
theorem dX7_waitingLoudness_18 : decode cX7_waitingLoudness 18 = .ok (.iaload, 1) := by decide +kernel
theorem dX7_waitingLoudness_19 : decode cX7_waitingLoudness 19 = .ok (.iadd, 1) := by decide +kernel
theorem dX7_waitingLoudness_20 : decode cX7_waitingLoudness 20 = .ok (.istore_n 1, 1) := by decide +kernel
theorem dX7_waitingLoudness_21 : decode cX7_waitingLoudness 21 = .ok (.iinc 2 1, 3) := by decide +kernel
theorem dX7_waitingLoudness_24 : decode cX7_waitingLoudness 24 = .ok (.goto (-20), 3) := by decide +kernel
theorem dX7_waitingLoudness_27 : decode cX7_waitingLoudness 27 = .ok (.iload_n 1, 1) := by decide +kernel
theorem dX7_waitingLoudness_28 : decode cX7_waitingLoudness 28 = .ok (.ireturn, 1) := by decide +kernel
theorem dX8_init_0 : decode cX8_init 0 = .ok (.aload_n 0, 1) := by decide +kernel
theorem dX8_init_1 : decode cX8_init 1 = .ok (.invokespecial 3, 3) := by decide +kernel
theorem dX8_init_4 : decode cX8_init 4 = .ok (.aload_n 0, 1) := by decide +kernel
theorem dX8_init_5 : decode cX8_init 5 = .ok (.bipush 60, 2) := by decide +kernel
theorem dX8_init_7 : decode cX8_init 7 = .ok (.newarray .char, 2) := by decide +kernel
theorem dX8_init_9 : decode cX8_init 9 = .ok (.putfield 9, 3) := by decide +kernel
theorem dX8_init_12 : decode cX8_init 12 = .ok (.aload_n 0, 1) := by decide +kernel
theorem dX8_init_13 : decode cX8_init 13 = .ok (.iconst 0, 1) := by decide +kernel
theorem dX8_init_14 : decode cX8_init 14 = .ok (.putfield 15, 3) := by decide +kernel
theorem dX8_init_17 : decode cX8_init 17 = .ok (.aload_n 0, 1) := by decide +kernel
theorem dX8_init_18 : decode cX8_init 18 = .ok (.iconst 0, 1) := by decide +kernel
theorem dX8_init_19 : decode cX8_init 19 = .ok (.putfield 19, 3) := by decide +kernel
theorem dX8_init_22 : decode cX8_init 22 = .ok (.aload_n 0, 1) := by decide +kernel
theorem dX8_init_23 : decode cX8_init 23 = .ok (.bipush 12, 2) := by decide +kernel
theorem dX8_init_25 : decode cX8_init 25 = .ok (.anewarray 22, 3) := by decide +kernel
theorem dX8_init_28 : decode cX8_init 28 = .ok (.putfield 24, 3) := by decide +kernel
theorem dX8_init_31 : decode cX8_init 31 = .ok (.aload_n 0, 1) := by decide +kernel
theorem dX8_init_32 : decode cX8_init 32 = .ok (.iconst 0, 1) := by decide +kernel
theorem dX8_init_33 : decode cX8_init 33 = .ok (.putfield 28, 3) := by decide +kernel
theorem dX8_init_36 : decode cX8_init 36 = .ok (.iconst 0, 1) := by decide +kernel
theorem dX8_init_37 : decode cX8_init 37 = .ok (.istore_n 1, 1) := by decide +kernel
theorem dX8_init_38 : decode cX8_init 38 = .ok (.iload_n 1, 1) := by decide +kernel
theorem dX8_init_39 : decode cX8_init 39 = .ok (.bipush 12, 2) := by decide +kernel
theorem dX8_init_41 : decode cX8_init 41 = .ok (.if_icmp .ge 22, 3) := by decide +kernel
theorem dX8_init_44 : decode cX8_init 44 = .ok (.aload_n 0, 1) := by decide +kernel
theorem dX8_init_45 : decode cX8_init 45 = .ok (.getfield 24, 3) := by decide +kernel
theorem dX8_init_48 : decode cX8_init 48 = .ok (.iload_n 1, 1) := by decide +kernel
theorem dX8_init_49 : decode cX8_init 49 = .ok (.new 22, 3) := by decide +kernel
theorem dX8_init_52 : decode cX8_init 52 = .ok (.dup, 1) := by decide +kernel
theorem dX8_init_53 : decode cX8_init 53 = .ok (.invokespecial 31, 3) := by decide +kernel
theorem dX8_init_56 : decode cX8_init 56 = .ok (.aastore, 1) := by decide +kernel
theorem dX8_init_57 : decode cX8_init 57 = .ok (.iinc 1 1, 3) := by decide +kernel
theorem dX8_init_60 : decode cX8_init 60 = .ok (.goto (-22), 3) := by decide +kernel
theorem dX8_init_63 : decode cX8_init 63 = .ok (.return_, 1) := by decide +kernel
theorem dX8_isFull_0 : decode cX8_isFull 0 = .ok (.aload_n 0, 1) := by decide +kernel
theorem dX8_isFull_1 : decode cX8_isFull 1 = .ok (.getfield 15, 3) := by decide +kernel
theorem dX8_isFull_4 : decode cX8_isFull 4 = .ok (.bipush 60, 2) := by decide +kernel
theorem dX8_isFull_6 : decode cX8_isFull 6 = .ok (.if_icmp .lt 7, 3) := by decide +kernel
theorem dX8_isFull_9 : decode cX8_isFull 9 = .ok (.iconst 1, 1) := by decide +kernel
theorem dX8_isFull_10 : decode cX8_isFull 10 = .ok (.goto 4, 3) := by decide +kernel
theorem dX8_isFull_13 : decode cX8_isFull 13 = .ok (.iconst 0, 1) := by decide +kernel
theorem dX8_isFull_14 : decode cX8_isFull 14 = .ok (.ireturn, 1) := by decide +kernel
theorem dX8_append_0 : decode cX8_append 0 = .ok (.aload_n 0, 1) := by decide +kernel
theorem dX8_append_1 : decode cX8_append 1 = .ok (.invokevirtual 32, 3) := by decide +kernel
theorem dX8_append_4 : decode cX8_append 4 = .ok (.ifCond .ne 23, 3) := by decide +kernel
theorem dX8_append_7 : decode cX8_append 7 = .ok (.aload_n 0, 1) := by decide +kernel
theorem dX8_append_8 : decode cX8_append 8 = .ok (.getfield 9, 3) := by decide +kernel
theorem dX8_append_11 : decode cX8_append 11 = .ok (.aload_n 0, 1) := by decide +kernel
theorem dX8_append_12 : decode cX8_append 12 = .ok (.getfield 15, 3) := by decide +kernel
theorem dX8_append_15 : decode cX8_append 15 = .ok (.iload_n 1, 1) := by decide +kernel
theorem dX8_append_16 : decode cX8_append 16 = .ok (.castore, 1) := by decide +kernel
theorem dX8_append_17 : decode cX8_append 17 = .ok (.aload_n 0, 1) := by decide +kernel
theorem dX8_append_18 : decode cX8_append 18 = .ok (.dup, 1) := by decide +kernel
theorem dX8_append_19 : decode cX8_append 19 = .ok (.getfield 15, 3) := by decide +kernel
theorem dX8_append_22 : decode cX8_append 22 = .ok (.iconst 1, 1) := by decide +kernel
theorem dX8_append_23 : decode cX8_append 23 = .ok (.iadd, 1) := by decide +kernel
theorem dX8_append_24 : decode cX8_append 24 = .ok (.putfield 15, 3) := by decide +kernel
theorem dX8_append_27 : decode cX8_append 27 = .ok (.aload_n 0, 1) := by decide +kernel
theorem dX8_append_28 : decode cX8_append 28 = .ok (.getfield 15, 3) := by decide +kernel
theorem dX8_append_31 : decode cX8_append 31 = .ok (.ireturn, 1) := by decide +kernel
theorem dX8_empty_0 : decode cX8_empty 0 = .ok (.aload_n 0, 1) := by decide +kernel
theorem dX8_empty_1 : decode cX8_empty 1 = .ok (.iconst 0, 1) := by decide +kernel
theorem dX8_empty_2 : decode cX8_empty 2 = .ok (.putfield 15, 3) := by decide +kernel
theorem dX8_empty_5 : decode cX8_empty 5 = .ok (.return_, 1) := by decide +kernel
theorem dX8_parse_0 : decode cX8_parse 0 = .ok (.aload_n 0, 1) := by decide +kernel
theorem dX8_parse_1 : decode cX8_parse 1 = .ok (.iconst 0, 1) := by decide +kernel
theorem dX8_parse_2 : decode cX8_parse 2 = .ok (.putfield 19, 3) := by decide +kernel
theorem dX8_parse_5 : decode cX8_parse 5 = .ok (.aload_n 0, 1) := by decide +kernel
theorem dX8_parse_6 : decode cX8_parse 6 = .ok (.iconst 0, 1) := by decide +kernel
theorem dX8_parse_7 : decode cX8_parse 7 = .ok (.putfield 28, 3) := by decide +kernel
theorem dX8_parse_10 : decode cX8_parse 10 = .ok (.iconst 0, 1) := by decide +kernel
theorem dX8_parse_11 : decode cX8_parse 11 = .ok (.istore_n 1, 1) := by decide +kernel
theorem dX8_parse_12 : decode cX8_parse 12 = .ok (.iload_n 1, 1) := by decide +kernel
theorem dX8_parse_13 : decode cX8_parse 13 = .ok (.bipush 12, 2) := by decide +kernel
theorem dX8_parse_15 : decode cX8_parse 15 = .ok (.if_icmp .ge 55, 3) := by decide +kernel
theorem dX8_parse_18 : decode cX8_parse 18 = .ok (.aload_n 0, 1) := by decide +kernel
theorem dX8_parse_19 : decode cX8_parse 19 = .ok (.aload_n 0, 1) := by decide +kernel
theorem dX8_parse_20 : decode cX8_parse 20 = .ok (.getfield 24, 3) := by decide +kernel
theorem dX8_parse_23 : decode cX8_parse 23 = .ok (.iload_n 1, 1) := by decide +kernel
theorem dX8_parse_24 : decode cX8_parse 24 = .ok (.aaload, 1) := by decide +kernel
theorem dX8_parse_25 : decode cX8_parse 25 = .ok (.invokevirtual 36, 3) := by decide +kernel
theorem dX8_parse_28 : decode cX8_parse 28 = .ok (.ifCond .ne 5, 3) := by decide +kernel
theorem dX8_parse_31 : decode cX8_parse 31 = .ok (.iconst 0, 1) := by decide +kernel
theorem dX8_parse_32 : decode cX8_parse 32 = .ok (.ireturn, 1) := by decide +kernel
theorem dX8_parse_33 : decode cX8_parse 33 = .ok (.aload_n 0, 1) := by decide +kernel
theorem dX8_parse_34 : decode cX8_parse 34 = .ok (.iload_n 1, 1) := by decide +kernel
theorem dX8_parse_35 : decode cX8_parse 35 = .ok (.iconst 1, 1) := by decide +kernel
theorem dX8_parse_36 : decode cX8_parse 36 = .ok (.iadd, 1) := by decide +kernel
theorem dX8_parse_37 : decode cX8_parse 37 = .ok (.putfield 28, 3) := by decide +kernel
theorem dX8_parse_40 : decode cX8_parse 40 = .ok (.aload_n 0, 1) := by decide +kernel
theorem dX8_parse_41 : decode cX8_parse 41 = .ok (.getfield 19, 3) := by decide +kernel
theorem dX8_parse_44 : decode cX8_parse 44 = .ok (.aload_n 0, 1) := by decide +kernel
theorem dX8_parse_45 : decode cX8_parse 45 = .ok (.getfield 15, 3) := by decide +kernel
theorem dX8_parse_48 : decode cX8_parse 48 = .ok (.if_icmp .lt 5, 3) := by decide +kernel
theorem dX8_parse_51 : decode cX8_parse 51 = .ok (.iconst 1, 1) := by decide +kernel
theorem dX8_parse_52 : decode cX8_parse 52 = .ok (.ireturn, 1) := by decide +kernel
theorem dX8_parse_53 : decode cX8_parse 53 = .ok (.aload_n 0, 1) := by decide +kernel
theorem dX8_parse_54 : decode cX8_parse 54 = .ok (.bipush 59, 2) := by decide +kernel
theorem dX8_parse_56 : decode cX8_parse 56 = .ok (.invokevirtual 40, 3) := by decide +kernel
theorem dX8_parse_59 : decode cX8_parse 59 = .ok (.ifCond .ne 5, 3) := by decide +kernel
theorem dX8_parse_62 : decode cX8_parse 62 = .ok (.iconst 0, 1) := by decide +kernel
theorem dX8_parse_63 : decode cX8_parse 63 = .ok (.ireturn, 1) := by decide +kernel
theorem dX8_parse_64 : decode cX8_parse 64 = .ok (.iinc 1 1, 3) := by decide +kernel
theorem dX8_parse_67 : decode cX8_parse 67 = .ok (.goto (-55), 3) := by decide +kernel
theorem dX8_parse_70 : decode cX8_parse 70 = .ok (.iconst 0, 1) := by decide +kernel
theorem dX8_parse_71 : decode cX8_parse 71 = .ok (.ireturn, 1) := by decide +kernel
theorem dX8_readCommand_0 : decode cX8_readCommand 0 = .ok (.aload_n 0, 1) := by decide +kernel
theorem dX8_readCommand_1 : decode cX8_readCommand 1 = .ok (.invokevirtual 44, 3) := by decide +kernel
theorem dX8_readCommand_4 : decode cX8_readCommand 4 = .ok (.astore_n 2, 1) := by decide +kernel
theorem dX8_readCommand_5 : decode cX8_readCommand 5 = .ok (.aload_n 2, 1) := by decide +kernel
theorem dX8_readCommand_6 : decode cX8_readCommand 6 = .ok (.ifnonnull 5, 3) := by decide +kernel
theorem dX8_readCommand_9 : decode cX8_readCommand 9 = .ok (.iconst 0, 1) := by decide +kernel
theorem dX8_readCommand_10 : decode cX8_readCommand 10 = .ok (.ireturn, 1) := by decide +kernel
theorem dX8_readCommand_11 : decode cX8_readCommand 11 = .ok (.aload_n 1, 1) := by decide +kernel
theorem dX8_readCommand_12 : decode cX8_readCommand 12 = .ok (.aload_n 2, 1) := by decide +kernel
theorem dX8_readCommand_13 : decode cX8_readCommand 13 = .ok (.putfield 48, 3) := by decide +kernel
theorem dX8_readCommand_16 : decode cX8_readCommand 16 = .ok (.iconst 0, 1) := by decide +kernel
theorem dX8_readCommand_17 : decode cX8_readCommand 17 = .ok (.istore_n 3, 1) := by decide +kernel
theorem dX8_readCommand_18 : decode cX8_readCommand 18 = .ok (.iload_n 3, 1) := by decide +kernel
theorem dX8_readCommand_19 : decode cX8_readCommand 19 = .ok (.aload_n 2, 1) := by decide +kernel
theorem dX8_readCommand_20 : decode cX8_readCommand 20 = .ok (.getfield 52, 3) := by decide +kernel
theorem dX8_readCommand_23 : decode cX8_readCommand 23 = .ok (.if_icmp .ge 42, 3) := by decide +kernel
theorem dX8_readCommand_26 : decode cX8_readCommand 26 = .ok (.iload_n 3, 1) := by decide +kernel
theorem dX8_readCommand_27 : decode cX8_readCommand 27 = .ok (.iconst 3, 1) := by decide +kernel
theorem dX8_readCommand_28 : decode cX8_readCommand 28 = .ok (.if_icmp .ge 37, 3) := by decide +kernel
theorem dX8_readCommand_31 : decode cX8_readCommand 31 = .ok (.aload_n 0, 1) := by decide +kernel
theorem dX8_readCommand_32 : decode cX8_readCommand 32 = .ok (.bipush 32, 2) := by decide +kernel
theorem dX8_readCommand_34 : decode cX8_readCommand 34 = .ok (.invokevirtual 40, 3) := by decide +kernel
theorem dX8_readCommand_37 : decode cX8_readCommand 37 = .ok (.ifCond .eq 10, 3) := by decide +kernel
theorem dX8_readCommand_40 : decode cX8_readCommand 40 = .ok (.aload_n 0, 1) := by decide +kernel
theorem dX8_readCommand_41 : decode cX8_readCommand 41 = .ok (.invokevirtual 57, 3) := by decide +kernel
theorem dX8_readCommand_44 : decode cX8_readCommand 44 = .ok (.ifCond .ne 5, 3) := by decide +kernel
theorem dX8_readCommand_47 : decode cX8_readCommand 47 = .ok (.iconst 0, 1) := by decide +kernel
theorem dX8_readCommand_48 : decode cX8_readCommand 48 = .ok (.ireturn, 1) := by decide +kernel
theorem dX8_readCommand_49 : decode cX8_readCommand 49 = .ok (.aload_n 1, 1) := by decide +kernel
theorem dX8_readCommand_50 : decode cX8_readCommand 50 = .ok (.getfield 60, 3) := by decide +kernel
theorem dX8_readCommand_53 : decode cX8_readCommand 53 = .ok (.iload_n 3, 1) := by decide +kernel
theorem dX8_readCommand_54 : decode cX8_readCommand 54 = .ok (.aload_n 0, 1) := by decide +kernel
theorem dX8_readCommand_55 : decode cX8_readCommand 55 = .ok (.invokevirtual 64, 3) := by decide +kernel
theorem dX8_readCommand_58 : decode cX8_readCommand 58 = .ok (.iastore, 1) := by decide +kernel
theorem dX8_readCommand_59 : decode cX8_readCommand 59 = .ok (.iinc 3 1, 3) := by decide +kernel
theorem dX8_readCommand_62 : decode cX8_readCommand 62 = .ok (.goto (-44), 3) := by decide +kernel
theorem dX8_readCommand_65 : decode cX8_readCommand 65 = .ok (.aload_n 2, 1) := by decide +kernel
theorem dX8_readCommand_66 : decode cX8_readCommand 66 = .ok (.getfield 68, 3) := by decide +kernel
theorem dX8_readCommand_69 : decode cX8_readCommand 69 = .ok (.ifCond .eq 12, 3) := by decide +kernel
theorem dX8_readCommand_72 : decode cX8_readCommand 72 = .ok (.aload_n 0, 1) := by decide +kernel
theorem dX8_readCommand_73 : decode cX8_readCommand 73 = .ok (.aload_n 1, 1) := by decide +kernel
theorem dX8_readCommand_74 : decode cX8_readCommand 74 = .ok (.aload_n 2, 1) := by decide +kernel
theorem dX8_readCommand_75 : decode cX8_readCommand 75 = .ok (.invokevirtual 72, 3) := by decide +kernel
theorem dX8_readCommand_78 : decode cX8_readCommand 78 = .ok (.ifCond .eq 7, 3) := by decide +kernel
theorem dX8_readCommand_81 : decode cX8_readCommand 81 = .ok (.iconst 1, 1) := by decide +kernel
theorem dX8_readCommand_82 : decode cX8_readCommand 82 = .ok (.goto 4, 3) := by decide +kernel
theorem dX8_readCommand_85 : decode cX8_readCommand 85 = .ok (.iconst 0, 1) := by decide +kernel
theorem dX8_readCommand_86 : decode cX8_readCommand 86 = .ok (.ireturn, 1) := by decide +kernel
theorem dX8_readLastNumber_0 : decode cX8_readLastNumber 0 = .ok (.aload_n 2, 1) := by decide +kernel
theorem dX8_readLastNumber_1 : decode cX8_readLastNumber 1 = .ok (.getfield 52, 3) := by decide +kernel
theorem dX8_readLastNumber_4 : decode cX8_readLastNumber 4 = .ok (.istore_n 3, 1) := by decide +kernel
theorem dX8_readLastNumber_5 : decode cX8_readLastNumber 5 = .ok (.iload_n 3, 1) := by decide +kernel
theorem dX8_readLastNumber_6 : decode cX8_readLastNumber 6 = .ok (.iconst 3, 1) := by decide +kernel
theorem dX8_readLastNumber_7 : decode cX8_readLastNumber 7 = .ok (.if_icmp .lt 5, 3) := by decide +kernel
theorem dX8_readLastNumber_10 : decode cX8_readLastNumber 10 = .ok (.iconst 0, 1) := by decide +kernel
theorem dX8_readLastNumber_11 : decode cX8_readLastNumber 11 = .ok (.ireturn, 1) := by decide +kernel
theorem dX8_readLastNumber_12 : decode cX8_readLastNumber 12 = .ok (.aload_n 0, 1) := by decide +kernel
theorem dX8_readLastNumber_13 : decode cX8_readLastNumber 13 = .ok (.bipush 32, 2) := by decide +kernel
theorem dX8_readLastNumber_15 : decode cX8_readLastNumber 15 = .ok (.invokevirtual 40, 3) := by decide +kernel
theorem dX8_readLastNumber_18 : decode cX8_readLastNumber 18 = .ok (.ifCond .ne 23, 3) := by decide +kernel
theorem dX8_readLastNumber_21 : decode cX8_readLastNumber 21 = .ok (.aload_n 1, 1) := by decide +kernel
theorem dX8_readLastNumber_22 : decode cX8_readLastNumber 22 = .ok (.getfield 60, 3) := by decide +kernel
theorem dX8_readLastNumber_25 : decode cX8_readLastNumber 25 = .ok (.iload_n 3, 1) := by decide +kernel
theorem dX8_readLastNumber_26 : decode cX8_readLastNumber 26 = .ok (.iconst 1, 1) := by decide +kernel
theorem dX8_readLastNumber_27 : decode cX8_readLastNumber 27 = .ok (.iastore, 1) := by decide +kernel
theorem dX8_readLastNumber_28 : decode cX8_readLastNumber 28 = .ok (.aload_n 2, 1) := by decide +kernel
theorem dX8_readLastNumber_29 : decode cX8_readLastNumber 29 = .ok (.getfield 76, 3) := by decide +kernel
theorem dX8_readLastNumber_32 : decode cX8_readLastNumber 32 = .ok (.ifCond .ne 7, 3) := by decide +kernel
theorem dX8_readLastNumber_35 : decode cX8_readLastNumber 35 = .ok (.iconst 1, 1) := by decide +kernel
theorem dX8_readLastNumber_36 : decode cX8_readLastNumber 36 = .ok (.goto 4, 3) := by decide +kernel
theorem dX8_readLastNumber_39 : decode cX8_readLastNumber 39 = .ok (.iconst 0, 1) := by decide +kernel
theorem dX8_readLastNumber_40 : decode cX8_readLastNumber 40 = .ok (.ireturn, 1) := by decide +kernel
theorem dX8_readLastNumber_41 : decode cX8_readLastNumber 41 = .ok (.aload_n 0, 1) := by decide +kernel
theorem dX8_readLastNumber_42 : decode cX8_readLastNumber 42 = .ok (.invokevirtual 57, 3) := by decide +kernel
theorem dX8_readLastNumber_45 : decode cX8_readLastNumber 45 = .ok (.ifCond .ne 5, 3) := by decide +kernel
theorem dX8_readLastNumber_48 : decode cX8_readLastNumber 48 = .ok (.iconst 0, 1) := by decide +kernel
theorem dX8_readLastNumber_49 : decode cX8_readLastNumber 49 = .ok (.ireturn, 1) := by decide +kernel
theorem dX8_readLastNumber_50 : decode cX8_readLastNumber 50 = .ok (.aload_n 0, 1) := by decide +kernel
theorem dX8_readLastNumber_51 : decode cX8_readLastNumber 51 = .ok (.invokevirtual 64, 3) := by decide +kernel
theorem dX8_readLastNumber_54 : decode cX8_readLastNumber 54 = .ok (.istore 4, 2) := by decide +kernel
theorem dX8_readLastNumber_56 : decode cX8_readLastNumber 56 = .ok (.aload_n 0, 1) := by decide +kernel
theorem dX8_readLastNumber_57 : decode cX8_readLastNumber 57 = .ok (.invokevirtual 57, 3) := by decide +kernel
theorem dX8_readLastNumber_60 : decode cX8_readLastNumber 60 = .ok (.ifCond .eq 15, 3) := by decide +kernel
theorem dX8_readLastNumber_63 : decode cX8_readLastNumber 63 = .ok (.iload 4, 2) := by decide +kernel
theorem dX8_readLastNumber_65 : decode cX8_readLastNumber 65 = .ok (.bipush 10, 2) := by decide +kernel
theorem dX8_readLastNumber_67 : decode cX8_readLastNumber 67 = .ok (.imul, 1) := by decide +kernel
theorem dX8_readLastNumber_68 : decode cX8_readLastNumber 68 = .ok (.aload_n 0, 1) := by decide +kernel
theorem dX8_readLastNumber_69 : decode cX8_readLastNumber 69 = .ok (.invokevirtual 64, 3) := by decide +kernel
theorem dX8_readLastNumber_72 : decode cX8_readLastNumber 72 = .ok (.iadd, 1) := by decide +kernel
theorem dX8_readLastNumber_73 : decode cX8_readLastNumber 73 = .ok (.istore 4, 2) := by decide +kernel
theorem dX8_readLastNumber_75 : decode cX8_readLastNumber 75 = .ok (.aload_n 1, 1) := by decide +kernel
theorem dX8_readLastNumber_76 : decode cX8_readLastNumber 76 = .ok (.getfield 60, 3) := by decide +kernel
theorem dX8_readLastNumber_79 : decode cX8_readLastNumber 79 = .ok (.iload_n 3, 1) := by decide +kernel
theorem dX8_readLastNumber_80 : decode cX8_readLastNumber 80 = .ok (.iload 4, 2) := by decide +kernel
theorem dX8_readLastNumber_82 : decode cX8_readLastNumber 82 = .ok (.iastore, 1) := by decide +kernel
theorem dX8_readLastNumber_83 : decode cX8_readLastNumber 83 = .ok (.iconst 1, 1) := by decide +kernel
theorem dX8_readLastNumber_84 : decode cX8_readLastNumber 84 = .ok (.ireturn, 1) := by decide +kernel
theorem dX8_readWord_0 : decode cX8_readWord 0 = .ok (.iconst 0, 1) := by decide +kernel
theorem dX8_readWord_1 : decode cX8_readWord 1 = .ok (.istore_n 1, 1) := by decide +kernel
theorem dX8_readWord_2 : decode cX8_readWord 2 = .ok (.iconst 0, 1) := by decide +kernel
theorem dX8_readWord_3 : decode cX8_readWord 3 = .ok (.istore_n 2, 1) := by decide +kernel
theorem dX8_readWord_4 : decode cX8_readWord 4 = .ok (.iload_n 2, 1) := by decide +kernel
theorem dX8_readWord_5 : decode cX8_readWord 5 = .ok (.getstatic 79, 3) := by decide +kernel
theorem dX8_readWord_8 : decode cX8_readWord 8 = .ok (.arraylength, 1) := by decide +kernel
theorem dX8_readWord_9 : decode cX8_readWord 9 = .ok (.if_icmp .ge 57, 3) := by decide +kernel
theorem dX8_readWord_12 : decode cX8_readWord 12 = .ok (.getstatic 79, 3) := by decide +kernel
theorem dX8_readWord_15 : decode cX8_readWord 15 = .ok (.iload_n 2, 1) := by decide +kernel
theorem dX8_readWord_16 : decode cX8_readWord 16 = .ok (.aaload, 1) := by decide +kernel
theorem dX8_readWord_17 : decode cX8_readWord 17 = .ok (.astore_n 3, 1) := by decide +kernel
theorem dX8_readWord_18 : decode cX8_readWord 18 = .ok (.aload_n 0, 1) := by decide +kernel
theorem dX8_readWord_19 : decode cX8_readWord 19 = .ok (.aload_n 3, 1) := by decide +kernel
theorem dX8_readWord_20 : decode cX8_readWord 20 = .ok (.getfield 83, 3) := by decide +kernel
theorem dX8_readWord_23 : decode cX8_readWord 23 = .ok (.invokevirtual 87, 3) := by decide +kernel
theorem dX8_readWord_26 : decode cX8_readWord 26 = .ok (.istore 4, 2) := by decide +kernel
theorem dX8_readWord_28 : decode cX8_readWord 28 = .ok (.iload 4, 2) := by decide +kernel
theorem dX8_readWord_30 : decode cX8_readWord 30 = .ok (.aload_n 3, 1) := by decide +kernel
theorem dX8_readWord_31 : decode cX8_readWord 31 = .ok (.getfield 83, 3) := by decide +kernel
theorem dX8_readWord_34 : decode cX8_readWord 34 = .ok (.invokevirtual 91, 3) := by decide +kernel
theorem dX8_readWord_37 : decode cX8_readWord 37 = .ok (.if_icmp .ne 16, 3) := by decide +kernel
theorem dX8_readWord_40 : decode cX8_readWord 40 = .ok (.aload_n 0, 1) := by decide +kernel
theorem dX8_readWord_41 : decode cX8_readWord 41 = .ok (.dup, 1) := by decide +kernel
theorem dX8_readWord_42 : decode cX8_readWord 42 = .ok (.getfield 19, 3) := by decide +kernel
theorem dX8_readWord_45 : decode cX8_readWord 45 = .ok (.iload 4, 2) := by decide +kernel
theorem dX8_readWord_47 : decode cX8_readWord 47 = .ok (.iadd, 1) := by decide +kernel
theorem dX8_readWord_48 : decode cX8_readWord 48 = .ok (.putfield 19, 3) := by decide +kernel
theorem dX8_readWord_51 : decode cX8_readWord 51 = .ok (.aload_n 3, 1) := by decide +kernel
theorem dX8_readWord_52 : decode cX8_readWord 52 = .ok (.areturn, 1) := by decide +kernel
theorem dX8_readWord_53 : decode cX8_readWord 53 = .ok (.iload_n 1, 1) := by decide +kernel
theorem dX8_readWord_54 : decode cX8_readWord 54 = .ok (.iload 4, 2) := by decide +kernel
theorem dX8_readWord_56 : decode cX8_readWord 56 = .ok (.invokestatic 95, 3) := by decide +kernel
theorem dX8_readWord_59 : decode cX8_readWord 59 = .ok (.istore_n 1, 1) := by decide +kernel
theorem dX8_readWord_60 : decode cX8_readWord 60 = .ok (.iinc 2 1, 3) := by decide +kernel
theorem dX8_readWord_63 : decode cX8_readWord 63 = .ok (.goto (-59), 3) := by decide +kernel
theorem dX8_readWord_66 : decode cX8_readWord 66 = .ok (.aload_n 0, 1) := by decide +kernel
theorem dX8_readWord_67 : decode cX8_readWord 67 = .ok (.dup, 1) := by decide +kernel
theorem dX8_readWord_68 : decode cX8_readWord 68 = .ok (.getfield 19, 3) := by decide +kernel
theorem dX8_readWord_71 : decode cX8_readWord 71 = .ok (.iload_n 1, 1) := by decide +kernel
theorem dX8_readWord_72 : decode cX8_readWord 72 = .ok (.iadd, 1) := by decide +kernel
theorem dX8_readWord_73 : decode cX8_readWord 73 = .ok (.putfield 19, 3) := by decide +kernel
theorem dX8_readWord_76 : decode cX8_readWord 76 = .ok (.aconst_null, 1) := by decide +kernel
theorem dX8_readWord_77 : decode cX8_readWord 77 = .ok (.areturn, 1) := by decide +kernel
theorem dX8_matchLength_0 : decode cX8_matchLength 0 = .ok (.iconst 0, 1) := by decide +kernel
theorem dX8_matchLength_1 : decode cX8_matchLength 1 = .ok (.istore_n 2, 1) := by decide +kernel
theorem dX8_matchLength_2 : decode cX8_matchLength 2 = .ok (.iload_n 2, 1) := by decide +kernel
theorem dX8_matchLength_3 : decode cX8_matchLength 3 = .ok (.aload_n 1, 1) := by decide +kernel
theorem dX8_matchLength_4 : decode cX8_matchLength 4 = .ok (.invokevirtual 91, 3) := by decide +kernel
theorem dX8_matchLength_7 : decode cX8_matchLength 7 = .ok (.if_icmp .ge 40, 3) := by decide +kernel
theorem dX8_matchLength_10 : decode cX8_matchLength 10 = .ok (.aload_n 0, 1) := by decide +kernel
theorem dX8_matchLength_11 : decode cX8_matchLength 11 = .ok (.getfield 19, 3) := by decide +kernel
theorem dX8_matchLength_14 : decode cX8_matchLength 14 = .ok (.iload_n 2, 1) := by decide +kernel
theorem dX8_matchLength_15 : decode cX8_matchLength 15 = .ok (.iadd, 1) := by decide +kernel
theorem dX8_matchLength_16 : decode cX8_matchLength 16 = .ok (.istore_n 3, 1) := by decide +kernel
theorem dX8_matchLength_17 : decode cX8_matchLength 17 = .ok (.iload_n 3, 1) := by decide +kernel
theorem dX8_matchLength_18 : decode cX8_matchLength 18 = .ok (.aload_n 0, 1) := by decide +kernel
theorem dX8_matchLength_19 : decode cX8_matchLength 19 = .ok (.getfield 15, 3) := by decide +kernel
theorem dX8_matchLength_22 : decode cX8_matchLength 22 = .ok (.if_icmp .ge 17, 3) := by decide +kernel
theorem dX8_matchLength_25 : decode cX8_matchLength 25 = .ok (.aload_n 0, 1) := by decide +kernel
theorem dX8_matchLength_26 : decode cX8_matchLength 26 = .ok (.getfield 9, 3) := by decide +kernel
theorem dX8_matchLength_29 : decode cX8_matchLength 29 = .ok (.iload_n 3, 1) := by decide +kernel
theorem dX8_matchLength_30 : decode cX8_matchLength 30 = .ok (.caload, 1) := by decide +kernel
theorem dX8_matchLength_31 : decode cX8_matchLength 31 = .ok (.aload_n 1, 1) := by decide +kernel
theorem dX8_matchLength_32 : decode cX8_matchLength 32 = .ok (.iload_n 2, 1) := by decide +kernel
theorem dX8_matchLength_33 : decode cX8_matchLength 33 = .ok (.invokevirtual 101, 3) := by decide +kernel
theorem dX8_matchLength_36 : decode cX8_matchLength 36 = .ok (.if_icmp .eq 5, 3) := by decide +kernel
theorem dX8_matchLength_39 : decode cX8_matchLength 39 = .ok (.iload_n 2, 1) := by decide +kernel
theorem dX8_matchLength_40 : decode cX8_matchLength 40 = .ok (.ireturn, 1) := by decide +kernel
theorem dX8_matchLength_41 : decode cX8_matchLength 41 = .ok (.iinc 2 1, 3) := by decide +kernel
theorem dX8_matchLength_44 : decode cX8_matchLength 44 = .ok (.goto (-42), 3) := by decide +kernel
theorem dX8_matchLength_47 : decode cX8_matchLength 47 = .ok (.aload_n 1, 1) := by decide +kernel
theorem dX8_matchLength_48 : decode cX8_matchLength 48 = .ok (.invokevirtual 91, 3) := by decide +kernel
theorem dX8_matchLength_51 : decode cX8_matchLength 51 = .ok (.ireturn, 1) := by decide +kernel
theorem dX8_skip_0 : decode cX8_skip 0 = .ok (.aload_n 0, 1) := by decide +kernel
theorem dX8_skip_1 : decode cX8_skip 1 = .ok (.getfield 19, 3) := by decide +kernel
theorem dX8_skip_4 : decode cX8_skip 4 = .ok (.aload_n 0, 1) := by decide +kernel
theorem dX8_skip_5 : decode cX8_skip 5 = .ok (.getfield 15, 3) := by decide +kernel
theorem dX8_skip_8 : decode cX8_skip 8 = .ok (.if_icmp .ge 16, 3) := by decide +kernel
theorem dX8_skip_11 : decode cX8_skip 11 = .ok (.aload_n 0, 1) := by decide +kernel
theorem dX8_skip_12 : decode cX8_skip 12 = .ok (.getfield 9, 3) := by decide +kernel
theorem dX8_skip_15 : decode cX8_skip 15 = .ok (.aload_n 0, 1) := by decide +kernel
theorem dX8_skip_16 : decode cX8_skip 16 = .ok (.getfield 19, 3) := by decide +kernel
theorem dX8_skip_19 : decode cX8_skip 19 = .ok (.caload, 1) := by decide +kernel
theorem dX8_skip_20 : decode cX8_skip 20 = .ok (.iload_n 1, 1) := by decide +kernel
theorem dX8_skip_21 : decode cX8_skip 21 = .ok (.if_icmp .eq 5, 3) := by decide +kernel
theorem dX8_skip_24 : decode cX8_skip 24 = .ok (.iconst 0, 1) := by decide +kernel
theorem dX8_skip_25 : decode cX8_skip 25 = .ok (.ireturn, 1) := by decide +kernel
theorem dX8_skip_26 : decode cX8_skip 26 = .ok (.aload_n 0, 1) := by decide +kernel
theorem dX8_skip_27 : decode cX8_skip 27 = .ok (.dup, 1) := by decide +kernel
theorem dX8_skip_28 : decode cX8_skip 28 = .ok (.getfield 19, 3) := by decide +kernel
theorem dX8_skip_31 : decode cX8_skip 31 = .ok (.iconst 1, 1) := by decide +kernel
theorem dX8_skip_32 : decode cX8_skip 32 = .ok (.iadd, 1) := by decide +kernel
theorem dX8_skip_33 : decode cX8_skip 33 = .ok (.putfield 19, 3) := by decide +kernel
theorem dX8_skip_36 : decode cX8_skip 36 = .ok (.iconst 1, 1) := by decide +kernel
theorem dX8_skip_37 : decode cX8_skip 37 = .ok (.ireturn, 1) := by decide +kernel
theorem dX8_isDigitNext_0 : decode cX8_isDigitNext 0 = .ok (.aload_n 0, 1) := by decide +kernel
theorem dX8_isDigitNext_1 : decode cX8_isDigitNext 1 = .ok (.getfield 19, 3) := by decide +kernel
theorem dX8_isDigitNext_4 : decode cX8_isDigitNext 4 = .ok (.aload_n 0, 1) := by decide +kernel
theorem dX8_isDigitNext_5 : decode cX8_isDigitNext 5 = .ok (.getfield 15, 3) := by decide +kernel
theorem dX8_isDigitNext_8 : decode cX8_isDigitNext 8 = .ok (.if_icmp .ge 35, 3) := by decide +kernel
theorem dX8_isDigitNext_11 : decode cX8_isDigitNext 11 = .ok (.aload_n 0, 1) := by decide +kernel
theorem dX8_isDigitNext_12 : decode cX8_isDigitNext 12 = .ok (.getfield 9, 3) := by decide +kernel
theorem dX8_isDigitNext_15 : decode cX8_isDigitNext 15 = .ok (.aload_n 0, 1) := by decide +kernel
theorem dX8_isDigitNext_16 : decode cX8_isDigitNext 16 = .ok (.getfield 19, 3) := by decide +kernel
theorem dX8_isDigitNext_19 : decode cX8_isDigitNext 19 = .ok (.caload, 1) := by decide +kernel
theorem dX8_isDigitNext_20 : decode cX8_isDigitNext 20 = .ok (.bipush 48, 2) := by decide +kernel
theorem dX8_isDigitNext_22 : decode cX8_isDigitNext 22 = .ok (.if_icmp .lt 21, 3) := by decide +kernel
theorem dX8_isDigitNext_25 : decode cX8_isDigitNext 25 = .ok (.aload_n 0, 1) := by decide +kernel
theorem dX8_isDigitNext_26 : decode cX8_isDigitNext 26 = .ok (.getfield 9, 3) := by decide +kernel
theorem dX8_isDigitNext_29 : decode cX8_isDigitNext 29 = .ok (.aload_n 0, 1) := by decide +kernel
theorem dX8_isDigitNext_30 : decode cX8_isDigitNext 30 = .ok (.getfield 19, 3) := by decide +kernel
theorem dX8_isDigitNext_33 : decode cX8_isDigitNext 33 = .ok (.caload, 1) := by decide +kernel
theorem dX8_isDigitNext_34 : decode cX8_isDigitNext 34 = .ok (.bipush 57, 2) := by decide +kernel
theorem dX8_isDigitNext_36 : decode cX8_isDigitNext 36 = .ok (.if_icmp .gt 7, 3) := by decide +kernel
theorem dX8_isDigitNext_39 : decode cX8_isDigitNext 39 = .ok (.iconst 1, 1) := by decide +kernel
theorem dX8_isDigitNext_40 : decode cX8_isDigitNext 40 = .ok (.goto 4, 3) := by decide +kernel
theorem dX8_isDigitNext_43 : decode cX8_isDigitNext 43 = .ok (.iconst 0, 1) := by decide +kernel
theorem dX8_isDigitNext_44 : decode cX8_isDigitNext 44 = .ok (.ireturn, 1) := by decide +kernel
theorem dX8_readDigit_0 : decode cX8_readDigit 0 = .ok (.aload_n 0, 1) := by decide +kernel
theorem dX8_readDigit_1 : decode cX8_readDigit 1 = .ok (.getfield 19, 3) := by decide +kernel
theorem dX8_readDigit_4 : decode cX8_readDigit 4 = .ok (.aload_n 0, 1) := by decide +kernel
theorem dX8_readDigit_5 : decode cX8_readDigit 5 = .ok (.getfield 15, 3) := by decide +kernel
theorem dX8_readDigit_8 : decode cX8_readDigit 8 = .ok (.if_icmp .lt 5, 3) := by decide +kernel
theorem dX8_readDigit_11 : decode cX8_readDigit 11 = .ok (.iconst 0, 1) := by decide +kernel
theorem dX8_readDigit_12 : decode cX8_readDigit 12 = .ok (.ireturn, 1) := by decide +kernel
theorem dX8_readDigit_13 : decode cX8_readDigit 13 = .ok (.aload_n 0, 1) := by decide +kernel
theorem dX8_readDigit_14 : decode cX8_readDigit 14 = .ok (.getfield 9, 3) := by decide +kernel
theorem dX8_readDigit_17 : decode cX8_readDigit 17 = .ok (.aload_n 0, 1) := by decide +kernel
theorem dX8_readDigit_18 : decode cX8_readDigit 18 = .ok (.getfield 19, 3) := by decide +kernel
theorem dX8_readDigit_21 : decode cX8_readDigit 21 = .ok (.caload, 1) := by decide +kernel
theorem dX8_readDigit_22 : decode cX8_readDigit 22 = .ok (.bipush 48, 2) := by decide +kernel
theorem dX8_readDigit_24 : decode cX8_readDigit 24 = .ok (.isub, 1) := by decide +kernel
theorem dX8_readDigit_25 : decode cX8_readDigit 25 = .ok (.istore_n 1, 1) := by decide +kernel
theorem dX8_readDigit_26 : decode cX8_readDigit 26 = .ok (.aload_n 0, 1) := by decide +kernel
theorem dX8_readDigit_27 : decode cX8_readDigit 27 = .ok (.dup, 1) := by decide +kernel
theorem dX8_readDigit_28 : decode cX8_readDigit 28 = .ok (.getfield 19, 3) := by decide +kernel
theorem dX8_readDigit_31 : decode cX8_readDigit 31 = .ok (.iconst 1, 1) := by decide +kernel
theorem dX8_readDigit_32 : decode cX8_readDigit 32 = .ok (.iadd, 1) := by decide +kernel
theorem dX8_readDigit_33 : decode cX8_readDigit 33 = .ok (.putfield 19, 3) := by decide +kernel
theorem dX8_readDigit_36 : decode cX8_readDigit 36 = .ok (.iload_n 1, 1) := by decide +kernel
theorem dX8_readDigit_37 : decode cX8_readDigit 37 = .ok (.ireturn, 1) := by decide +kernel
theorem dX9_init_0 : decode cX9_init 0 = .ok (.aload_n 0, 1) := by decide +kernel
theorem dX9_init_1 : decode cX9_init 1 = .ok (.invokespecial 3, 3) := by decide +kernel
theorem dX9_init_4 : decode cX9_init 4 = .ok (.aload_n 0, 1) := by decide +kernel
theorem dX9_init_5 : decode cX9_init 5 = .ok (.iconst 4, 1) := by decide +kernel
theorem dX9_init_6 : decode cX9_init 6 = .ok (.newarray .int, 2) := by decide +kernel
theorem dX9_init_8 : decode cX9_init 8 = .ok (.putfield 9, 3) := by decide +kernel
theorem dX9_init_11 : decode cX9_init 11 = .ok (.aload_n 0, 1) := by decide +kernel
theorem dX9_init_12 : decode cX9_init 12 = .ok (.iconst 4, 1) := by decide +kernel
theorem dX9_init_13 : decode cX9_init 13 = .ok (.newarray .int, 2) := by decide +kernel
theorem dX9_init_15 : decode cX9_init 15 = .ok (.putfield 15, 3) := by decide +kernel
theorem dX9_init_18 : decode cX9_init 18 = .ok (.aload_n 0, 1) := by decide +kernel
theorem dX9_init_19 : decode cX9_init 19 = .ok (.bipush 32, 2) := by decide +kernel
theorem dX9_init_21 : decode cX9_init 21 = .ok (.newarray .int, 2) := by decide +kernel
theorem dX9_init_23 : decode cX9_init 23 = .ok (.putfield 18, 3) := by decide +kernel
theorem dX9_init_26 : decode cX9_init 26 = .ok (.aload_n 0, 1) := by decide +kernel
theorem dX9_init_27 : decode cX9_init 27 = .ok (.bipush 8, 2) := by decide +kernel
theorem dX9_init_29 : decode cX9_init 29 = .ok (.newarray .boolean, 2) := by decide +kernel
theorem dX9_init_31 : decode cX9_init 31 = .ok (.putfield 21, 3) := by decide +kernel
theorem dX9_init_34 : decode cX9_init 34 = .ok (.aload_n 0, 1) := by decide +kernel
theorem dX9_init_35 : decode cX9_init 35 = .ok (.iconst 0, 1) := by decide +kernel
theorem dX9_init_36 : decode cX9_init 36 = .ok (.putfield 25, 3) := by decide +kernel
theorem dX9_init_39 : decode cX9_init 39 = .ok (.aload_n 0, 1) := by decide +kernel
theorem dX9_init_40 : decode cX9_init 40 = .ok (.iconst 0, 1) := by decide +kernel
theorem dX9_init_41 : decode cX9_init 41 = .ok (.putfield 29, 3) := by decide +kernel
theorem dX9_init_44 : decode cX9_init 44 = .ok (.aload_n 0, 1) := by decide +kernel
theorem dX9_init_45 : decode cX9_init 45 = .ok (.iconst 0, 1) := by decide +kernel
theorem dX9_init_46 : decode cX9_init 46 = .ok (.putfield 32, 3) := by decide +kernel
theorem dX9_init_49 : decode cX9_init 49 = .ok (.return_, 1) := by decide +kernel
theorem dX9_copyFrom_0 : decode cX9_copyFrom 0 = .ok (.aload_n 1, 1) := by decide +kernel
theorem dX9_copyFrom_1 : decode cX9_copyFrom 1 = .ok (.getfield 9, 3) := by decide +kernel
theorem dX9_copyFrom_4 : decode cX9_copyFrom 4 = .ok (.iconst 0, 1) := by decide +kernel
theorem dX9_copyFrom_5 : decode cX9_copyFrom 5 = .ok (.aload_n 0, 1) := by decide +kernel
theorem dX9_copyFrom_6 : decode cX9_copyFrom 6 = .ok (.getfield 9, 3) := by decide +kernel
theorem dX9_copyFrom_9 : decode cX9_copyFrom 9 = .ok (.iconst 0, 1) := by decide +kernel
theorem dX9_copyFrom_10 : decode cX9_copyFrom 10 = .ok (.iconst 4, 1) := by decide +kernel
theorem dX9_copyFrom_11 : decode cX9_copyFrom 11 = .ok (.invokestatic 35, 3) := by decide +kernel
theorem dX9_copyFrom_14 : decode cX9_copyFrom 14 = .ok (.aload_n 1, 1) := by decide +kernel
theorem dX9_copyFrom_15 : decode cX9_copyFrom 15 = .ok (.getfield 15, 3) := by decide +kernel
theorem dX9_copyFrom_18 : decode cX9_copyFrom 18 = .ok (.iconst 0, 1) := by decide +kernel
theorem dX9_copyFrom_19 : decode cX9_copyFrom 19 = .ok (.aload_n 0, 1) := by decide +kernel
theorem dX9_copyFrom_20 : decode cX9_copyFrom 20 = .ok (.getfield 15, 3) := by decide +kernel
theorem dX9_copyFrom_23 : decode cX9_copyFrom 23 = .ok (.iconst 0, 1) := by decide +kernel
theorem dX9_copyFrom_24 : decode cX9_copyFrom 24 = .ok (.iconst 4, 1) := by decide +kernel
theorem dX9_copyFrom_25 : decode cX9_copyFrom 25 = .ok (.invokestatic 35, 3) := by decide +kernel
theorem dX9_copyFrom_28 : decode cX9_copyFrom 28 = .ok (.aload_n 1, 1) := by decide +kernel
theorem dX9_copyFrom_29 : decode cX9_copyFrom 29 = .ok (.getfield 18, 3) := by decide +kernel
theorem dX9_copyFrom_32 : decode cX9_copyFrom 32 = .ok (.iconst 0, 1) := by decide +kernel
theorem dX9_copyFrom_33 : decode cX9_copyFrom 33 = .ok (.aload_n 0, 1) := by decide +kernel
theorem dX9_copyFrom_34 : decode cX9_copyFrom 34 = .ok (.getfield 18, 3) := by decide +kernel
theorem dX9_copyFrom_37 : decode cX9_copyFrom 37 = .ok (.iconst 0, 1) := by decide +kernel
theorem dX9_copyFrom_38 : decode cX9_copyFrom 38 = .ok (.bipush 32, 2) := by decide +kernel
theorem dX9_copyFrom_40 : decode cX9_copyFrom 40 = .ok (.invokestatic 35, 3) := by decide +kernel
theorem dX9_copyFrom_43 : decode cX9_copyFrom 43 = .ok (.iconst 0, 1) := by decide +kernel
theorem dX9_copyFrom_44 : decode cX9_copyFrom 44 = .ok (.istore_n 2, 1) := by decide +kernel
theorem dX9_copyFrom_45 : decode cX9_copyFrom 45 = .ok (.iload_n 2, 1) := by decide +kernel
theorem dX9_copyFrom_46 : decode cX9_copyFrom 46 = .ok (.bipush 8, 2) := by decide +kernel
theorem dX9_copyFrom_48 : decode cX9_copyFrom 48 = .ok (.if_icmp .ge 21, 3) := by decide +kernel
theorem dX9_copyFrom_51 : decode cX9_copyFrom 51 = .ok (.aload_n 0, 1) := by decide +kernel
theorem dX9_copyFrom_52 : decode cX9_copyFrom 52 = .ok (.getfield 21, 3) := by decide +kernel
theorem dX9_copyFrom_55 : decode cX9_copyFrom 55 = .ok (.iload_n 2, 1) := by decide +kernel
theorem dX9_copyFrom_56 : decode cX9_copyFrom 56 = .ok (.aload_n 1, 1) := by decide +kernel
theorem dX9_copyFrom_57 : decode cX9_copyFrom 57 = .ok (.getfield 21, 3) := by decide +kernel
theorem dX9_copyFrom_60 : decode cX9_copyFrom 60 = .ok (.iload_n 2, 1) := by decide +kernel
theorem dX9_copyFrom_61 : decode cX9_copyFrom 61 = .ok (.baload, 1) := by decide +kernel
theorem dX9_copyFrom_62 : decode cX9_copyFrom 62 = .ok (.bastore, 1) := by decide +kernel
theorem dX9_copyFrom_63 : decode cX9_copyFrom 63 = .ok (.iinc 2 1, 3) := by decide +kernel
theorem dX9_copyFrom_66 : decode cX9_copyFrom 66 = .ok (.goto (-21), 3) := by decide +kernel
theorem dX9_copyFrom_69 : decode cX9_copyFrom 69 = .ok (.aload_n 0, 1) := by decide +kernel
theorem dX9_copyFrom_70 : decode cX9_copyFrom 70 = .ok (.aload_n 1, 1) := by decide +kernel
theorem dX9_copyFrom_71 : decode cX9_copyFrom 71 = .ok (.getfield 25, 3) := by decide +kernel
theorem dX9_copyFrom_74 : decode cX9_copyFrom 74 = .ok (.putfield 25, 3) := by decide +kernel
theorem dX9_copyFrom_77 : decode cX9_copyFrom 77 = .ok (.aload_n 0, 1) := by decide +kernel
theorem dX9_copyFrom_78 : decode cX9_copyFrom 78 = .ok (.aload_n 1, 1) := by decide +kernel
theorem dX9_copyFrom_79 : decode cX9_copyFrom 79 = .ok (.getfield 29, 3) := by decide +kernel
theorem dX9_copyFrom_82 : decode cX9_copyFrom 82 = .ok (.putfield 29, 3) := by decide +kernel
theorem dX9_copyFrom_85 : decode cX9_copyFrom 85 = .ok (.aload_n 0, 1) := by decide +kernel
theorem dX9_copyFrom_86 : decode cX9_copyFrom 86 = .ok (.aload_n 1, 1) := by decide +kernel
theorem dX9_copyFrom_87 : decode cX9_copyFrom 87 = .ok (.getfield 32, 3) := by decide +kernel
theorem dX9_copyFrom_90 : decode cX9_copyFrom 90 = .ok (.putfield 32, 3) := by decide +kernel
theorem dX9_copyFrom_93 : decode cX9_copyFrom 93 = .ok (.return_, 1) := by decide +kernel
theorem dX9_row_0 : decode cX9_row 0 = .ok (.iload_n 0, 1) := by decide +kernel
theorem dX9_row_1 : decode cX9_row 1 = .ok (.iconst 4, 1) := by decide +kernel
theorem dX9_row_2 : decode cX9_row 2 = .ok (.imul, 1) := by decide +kernel
theorem dX9_row_3 : decode cX9_row 3 = .ok (.iload_n 1, 1) := by decide +kernel
theorem dX9_row_4 : decode cX9_row 4 = .ok (.iadd, 1) := by decide +kernel
theorem dX9_row_5 : decode cX9_row 5 = .ok (.ireturn, 1) := by decide +kernel
theorem dX9_receive_0 : decode cX9_receive 0 = .ok (.iload_n 3, 1) := by decide +kernel
theorem dX9_receive_1 : decode cX9_receive 1 = .ok (.iload_n 2, 1) := by decide +kernel
theorem dX9_receive_2 : decode cX9_receive 2 = .ok (.imul, 1) := by decide +kernel
theorem dX9_receive_3 : decode cX9_receive 3 = .ok (.bipush 10, 2) := by decide +kernel
theorem dX9_receive_5 : decode cX9_receive 5 = .ok (.idiv, 1) := by decide +kernel
theorem dX9_receive_6 : decode cX9_receive 6 = .ok (.istore 4, 2) := by decide +kernel
theorem dX9_receive_8 : decode cX9_receive 8 = .ok (.iload_n 2, 1) := by decide +kernel
theorem dX9_receive_9 : decode cX9_receive 9 = .ok (.iconst 3, 1) := by decide +kernel
theorem dX9_receive_10 : decode cX9_receive 10 = .ok (.idiv, 1) := by decide +kernel
theorem dX9_receive_11 : decode cX9_receive 11 = .ok (.istore 5, 2) := by decide +kernel
theorem dX9_receive_13 : decode cX9_receive 13 = .ok (.iload_n 3, 1) := by decide +kernel
theorem dX9_receive_14 : decode cX9_receive 14 = .ok (.iload 4, 2) := by decide +kernel
theorem dX9_receive_16 : decode cX9_receive 16 = .ok (.isub, 1) := by decide +kernel
theorem dX9_receive_17 : decode cX9_receive 17 = .ok (.sipush 139, 3) := by decide +kernel
theorem dX9_receive_20 : decode cX9_receive 20 = .ok (.aload_n 0, 1) := by decide +kernel
theorem dX9_receive_21 : decode cX9_receive 21 = .ok (.getfield 9, 3) := by decide +kernel
theorem dX9_receive_24 : decode cX9_receive 24 = .ok (.iload 5, 2) := by decide +kernel
theorem dX9_receive_26 : decode cX9_receive 26 = .ok (.iaload, 1) := by decide +kernel
theorem dX9_receive_27 : decode cX9_receive 27 = .ok (.isub, 1) := by decide +kernel
theorem dX9_receive_28 : decode cX9_receive 28 = .ok (.invokestatic 41, 3) := by decide +kernel
theorem dX9_receive_31 : decode cX9_receive 31 = .ok (.istore 6, 2) := by decide +kernel
theorem dX9_receive_33 : decode cX9_receive 33 = .ok (.aload_n 0, 1) := by decide +kernel
theorem dX9_receive_34 : decode cX9_receive 34 = .ok (.dup, 1) := by decide +kernel
theorem dX9_receive_35 : decode cX9_receive 35 = .ok (.getfield 25, 3) := by decide +kernel
theorem dX9_receive_38 : decode cX9_receive 38 = .ok (.iload_n 3, 1) := by decide +kernel
theorem dX9_receive_39 : decode cX9_receive 39 = .ok (.iadd, 1) := by decide +kernel
theorem dX9_receive_40 : decode cX9_receive 40 = .ok (.putfield 25, 3) := by decide +kernel
theorem dX9_receive_43 : decode cX9_receive 43 = .ok (.aload_n 0, 1) := by decide +kernel
theorem dX9_receive_44 : decode cX9_receive 44 = .ok (.getfield 21, 3) := by decide +kernel
theorem dX9_receive_47 : decode cX9_receive 47 = .ok (.iload_n 1, 1) := by decide +kernel
theorem dX9_receive_48 : decode cX9_receive 48 = .ok (.iconst 1, 1) := by decide +kernel
theorem dX9_receive_49 : decode cX9_receive 49 = .ok (.bastore, 1) := by decide +kernel
theorem dX9_receive_50 : decode cX9_receive 50 = .ok (.aload_n 0, 1) := by decide +kernel
theorem dX9_receive_51 : decode cX9_receive 51 = .ok (.dup, 1) := by decide +kernel
theorem dX9_receive_52 : decode cX9_receive 52 = .ok (.getfield 29, 3) := by decide +kernel
theorem dX9_receive_55 : decode cX9_receive 55 = .ok (.iload 4, 2) := by decide +kernel
theorem dX9_receive_57 : decode cX9_receive 57 = .ok (.iadd, 1) := by decide +kernel
theorem dX9_receive_58 : decode cX9_receive 58 = .ok (.putfield 29, 3) := by decide +kernel
theorem dX9_receive_61 : decode cX9_receive 61 = .ok (.aload_n 0, 1) := by decide +kernel
theorem dX9_receive_62 : decode cX9_receive 62 = .ok (.dup, 1) := by decide +kernel
theorem dX9_receive_63 : decode cX9_receive 63 = .ok (.getfield 32, 3) := by decide +kernel
theorem dX9_receive_66 : decode cX9_receive 66 = .ok (.iload_n 3, 1) := by decide +kernel
theorem dX9_receive_67 : decode cX9_receive 67 = .ok (.iload 4, 2) := by decide +kernel
theorem dX9_receive_69 : decode cX9_receive 69 = .ok (.isub, 1) := by decide +kernel
theorem dX9_receive_70 : decode cX9_receive 70 = .ok (.iload 6, 2) := by decide +kernel
theorem dX9_receive_72 : decode cX9_receive 72 = .ok (.isub, 1) := by decide +kernel
theorem dX9_receive_73 : decode cX9_receive 73 = .ok (.iadd, 1) := by decide +kernel
theorem dX9_receive_74 : decode cX9_receive 74 = .ok (.putfield 32, 3) := by decide +kernel
theorem dX9_receive_77 : decode cX9_receive 77 = .ok (.aload_n 0, 1) := by decide +kernel
theorem dX9_receive_78 : decode cX9_receive 78 = .ok (.getfield 9, 3) := by decide +kernel
theorem dX9_receive_81 : decode cX9_receive 81 = .ok (.iload 5, 2) := by decide +kernel
theorem dX9_receive_83 : decode cX9_receive 83 = .ok (.dup2, 1) := by decide +kernel
theorem dX9_receive_84 : decode cX9_receive 84 = .ok (.iaload, 1) := by decide +kernel
theorem dX9_receive_85 : decode cX9_receive 85 = .ok (.iload 6, 2) := by decide +kernel
theorem dX9_receive_87 : decode cX9_receive 87 = .ok (.iadd, 1) := by decide +kernel
theorem dX9_receive_88 : decode cX9_receive 88 = .ok (.iastore, 1) := by decide +kernel
theorem dX9_receive_89 : decode cX9_receive 89 = .ok (.aload_n 0, 1) := by decide +kernel
theorem dX9_receive_90 : decode cX9_receive 90 = .ok (.getfield 18, 3) := by decide +kernel
theorem dX9_receive_93 : decode cX9_receive 93 = .ok (.iload_n 1, 1) := by decide +kernel
theorem dX9_receive_94 : decode cX9_receive 94 = .ok (.iload 5, 2) := by decide +kernel
theorem dX9_receive_96 : decode cX9_receive 96 = .ok (.invokestatic 47, 3) := by decide +kernel
theorem dX9_receive_99 : decode cX9_receive 99 = .ok (.dup2, 1) := by decide +kernel
theorem dX9_receive_100 : decode cX9_receive 100 = .ok (.iaload, 1) := by decide +kernel
theorem dX9_receive_101 : decode cX9_receive 101 = .ok (.iload 6, 2) := by decide +kernel
theorem dX9_receive_103 : decode cX9_receive 103 = .ok (.iadd, 1) := by decide +kernel
theorem dX9_receive_104 : decode cX9_receive 104 = .ok (.iastore, 1) := by decide +kernel
theorem dX9_receive_105 : decode cX9_receive 105 = .ok (.return_, 1) := by decide +kernel
theorem dX9_sendOff_0 : decode cX9_sendOff 0 = .ok (.aload_n 0, 1) := by decide +kernel
theorem dX9_sendOff_1 : decode cX9_sendOff 1 = .ok (.getfield 9, 3) := by decide +kernel
theorem dX9_sendOff_4 : decode cX9_sendOff 4 = .ok (.iload_n 1, 1) := by decide +kernel
theorem dX9_sendOff_5 : decode cX9_sendOff 5 = .ok (.dup2, 1) := by decide +kernel
theorem dX9_sendOff_6 : decode cX9_sendOff 6 = .ok (.iaload, 1) := by decide +kernel
theorem dX9_sendOff_7 : decode cX9_sendOff 7 = .ok (.iload_n 2, 1) := by decide +kernel
theorem dX9_sendOff_8 : decode cX9_sendOff 8 = .ok (.bipush 20, 2) := by decide +kernel
theorem dX9_sendOff_10 : decode cX9_sendOff 10 = .ok (.imul, 1) := by decide +kernel
theorem dX9_sendOff_11 : decode cX9_sendOff 11 = .ok (.isub, 1) := by decide +kernel
theorem dX9_sendOff_12 : decode cX9_sendOff 12 = .ok (.iastore, 1) := by decide +kernel
theorem dX9_sendOff_13 : decode cX9_sendOff 13 = .ok (.aload_n 0, 1) := by decide +kernel
theorem dX9_sendOff_14 : decode cX9_sendOff 14 = .ok (.getfield 15, 3) := by decide +kernel
theorem dX9_sendOff_17 : decode cX9_sendOff 17 = .ok (.iload_n 1, 1) := by decide +kernel
theorem dX9_sendOff_18 : decode cX9_sendOff 18 = .ok (.dup2, 1) := by decide +kernel
theorem dX9_sendOff_19 : decode cX9_sendOff 19 = .ok (.iaload, 1) := by decide +kernel
theorem dX9_sendOff_20 : decode cX9_sendOff 20 = .ok (.iload_n 2, 1) := by decide +kernel
theorem dX9_sendOff_21 : decode cX9_sendOff 21 = .ok (.iadd, 1) := by decide +kernel
theorem dX9_sendOff_22 : decode cX9_sendOff 22 = .ok (.iastore, 1) := by decide +kernel
theorem dX9_sendOff_23 : decode cX9_sendOff 23 = .ok (.return_, 1) := by decide +kernel
theorem dX9_full_0 : decode cX9_full 0 = .ok (.aload_n 0, 1) := by decide +kernel
theorem dX9_full_1 : decode cX9_full 1 = .ok (.getfield 9, 3) := by decide +kernel
theorem dX9_full_4 : decode cX9_full 4 = .ok (.iload_n 1, 1) := by decide +kernel
theorem dX9_full_5 : decode cX9_full 5 = .ok (.iaload, 1) := by decide +kernel
theorem dX9_full_6 : decode cX9_full 6 = .ok (.bipush 20, 2) := by decide +kernel
theorem dX9_full_8 : decode cX9_full 8 = .ok (.idiv, 1) := by decide +kernel
theorem dX9_full_9 : decode cX9_full 9 = .ok (.ireturn, 1) := by decide +kernel
theorem dX9_lost_0 : decode cX9_lost 0 = .ok (.aload_n 0, 1) := by decide +kernel
theorem dX9_lost_1 : decode cX9_lost 1 = .ok (.getfield 29, 3) := by decide +kernel
theorem dX9_lost_4 : decode cX9_lost 4 = .ok (.aload_n 0, 1) := by decide +kernel
theorem dX9_lost_5 : decode cX9_lost 5 = .ok (.getfield 32, 3) := by decide +kernel
theorem dX9_lost_8 : decode cX9_lost 8 = .ok (.iadd, 1) := by decide +kernel
theorem dX9_lost_9 : decode cX9_lost 9 = .ok (.ireturn, 1) := by decide +kernel
theorem dX9_recordedOfBand_0 : decode cX9_recordedOfBand 0 = .ok (.iconst 0, 1) := by decide +kernel
theorem dX9_recordedOfBand_1 : decode cX9_recordedOfBand 1 = .ok (.istore_n 2, 1) := by decide +kernel
theorem dX9_recordedOfBand_2 : decode cX9_recordedOfBand 2 = .ok (.iconst 0, 1) := by decide +kernel
theorem dX9_recordedOfBand_3 : decode cX9_recordedOfBand 3 = .ok (.istore_n 3, 1) := by decide +kernel
theorem dX9_recordedOfBand_4 : decode cX9_recordedOfBand 4 = .ok (.iload_n 3, 1) := by decide +kernel
theorem dX9_recordedOfBand_5 : decode cX9_recordedOfBand 5 = .ok (.iconst 4, 1) := by decide +kernel
theorem dX9_recordedOfBand_6 : decode cX9_recordedOfBand 6 = .ok (.if_icmp .ge 22, 3) := by decide +kernel
theorem dX9_recordedOfBand_9 : decode cX9_recordedOfBand 9 = .ok (.iload_n 2, 1) := by decide +kernel
theorem dX9_recordedOfBand_10 : decode cX9_recordedOfBand 10 = .ok (.aload_n 0, 1) := by decide +kernel
theorem dX9_recordedOfBand_11 : decode cX9_recordedOfBand 11 = .ok (.getfield 18, 3) := by decide +kernel
theorem dX9_recordedOfBand_14 : decode cX9_recordedOfBand 14 = .ok (.iload_n 1, 1) := by decide +kernel
theorem dX9_recordedOfBand_15 : decode cX9_recordedOfBand 15 = .ok (.iload_n 3, 1) := by decide +kernel
theorem dX9_recordedOfBand_16 : decode cX9_recordedOfBand 16 = .ok (.invokestatic 47, 3) := by decide +kernel
theorem dX9_recordedOfBand_19 : decode cX9_recordedOfBand 19 = .ok (.iaload, 1) := by decide +kernel
theorem dX9_recordedOfBand_20 : decode cX9_recordedOfBand 20 = .ok (.iadd, 1) := by decide +kernel
theorem dX9_recordedOfBand_21 : decode cX9_recordedOfBand 21 = .ok (.istore_n 2, 1) := by decide +kernel
theorem dX9_recordedOfBand_22 : decode cX9_recordedOfBand 22 = .ok (.iinc 3 1, 3) := by decide +kernel
theorem dX9_recordedOfBand_25 : decode cX9_recordedOfBand 25 = .ok (.goto (-21), 3) := by decide +kernel
theorem dX9_recordedOfBand_28 : decode cX9_recordedOfBand 28 = .ok (.iload_n 2, 1) := by decide +kernel
theorem dX9_recordedOfBand_29 : decode cX9_recordedOfBand 29 = .ok (.ireturn, 1) := by decide +kernel
theorem dX9_recordedLessShipped_0 : decode cX9_recordedLessShipped 0 = .ok (.iconst 0, 1) := by decide +kernel
theorem dX9_recordedLessShipped_1 : decode cX9_recordedLessShipped 1 = .ok (.istore_n 2, 1) := by decide +kernel
theorem dX9_recordedLessShipped_2 : decode cX9_recordedLessShipped 2 = .ok (.iconst 0, 1) := by decide +kernel
theorem dX9_recordedLessShipped_3 : decode cX9_recordedLessShipped 3 = .ok (.istore_n 3, 1) := by decide +kernel
theorem dX9_recordedLessShipped_4 : decode cX9_recordedLessShipped 4 = .ok (.iload_n 3, 1) := by decide +kernel
theorem dX9_recordedLessShipped_5 : decode cX9_recordedLessShipped 5 = .ok (.bipush 8, 2) := by decide +kernel
theorem dX9_recordedLessShipped_7 : decode cX9_recordedLessShipped 7 = .ok (.if_icmp .ge 22, 3) := by decide +kernel
theorem dX9_recordedLessShipped_10 : decode cX9_recordedLessShipped 10 = .ok (.iload_n 2, 1) := by decide +kernel
theorem dX9_recordedLessShipped_11 : decode cX9_recordedLessShipped 11 = .ok (.aload_n 0, 1) := by decide +kernel
theorem dX9_recordedLessShipped_12 : decode cX9_recordedLessShipped 12 = .ok (.getfield 18, 3) := by decide +kernel
theorem dX9_recordedLessShipped_15 : decode cX9_recordedLessShipped 15 = .ok (.iload_n 3, 1) := by decide +kernel
theorem dX9_recordedLessShipped_16 : decode cX9_recordedLessShipped 16 = .ok (.iload_n 1, 1) := by decide +kernel
theorem dX9_recordedLessShipped_17 : decode cX9_recordedLessShipped 17 = .ok (.invokestatic 47, 3) := by decide +kernel
theorem dX9_recordedLessShipped_20 : decode cX9_recordedLessShipped 20 = .ok (.iaload, 1) := by decide +kernel
theorem dX9_recordedLessShipped_21 : decode cX9_recordedLessShipped 21 = .ok (.iadd, 1) := by decide +kernel
theorem dX9_recordedLessShipped_22 : decode cX9_recordedLessShipped 22 = .ok (.istore_n 2, 1) := by decide +kernel
theorem dX9_recordedLessShipped_23 : decode cX9_recordedLessShipped 23 = .ok (.iinc 3 1, 3) := by decide +kernel
theorem dX9_recordedLessShipped_26 : decode cX9_recordedLessShipped 26 = .ok (.goto (-22), 3) := by decide +kernel
theorem dX9_recordedLessShipped_29 : decode cX9_recordedLessShipped 29 = .ok (.iload_n 2, 1) := by decide +kernel
theorem dX9_recordedLessShipped_30 : decode cX9_recordedLessShipped 30 = .ok (.aload_n 0, 1) := by decide +kernel
theorem dX9_recordedLessShipped_31 : decode cX9_recordedLessShipped 31 = .ok (.getfield 15, 3) := by decide +kernel
theorem dX9_recordedLessShipped_34 : decode cX9_recordedLessShipped 34 = .ok (.iload_n 1, 1) := by decide +kernel
theorem dX9_recordedLessShipped_35 : decode cX9_recordedLessShipped 35 = .ok (.iaload, 1) := by decide +kernel
theorem dX9_recordedLessShipped_36 : decode cX9_recordedLessShipped 36 = .ok (.bipush 20, 2) := by decide +kernel
theorem dX9_recordedLessShipped_38 : decode cX9_recordedLessShipped 38 = .ok (.imul, 1) := by decide +kernel
theorem dX9_recordedLessShipped_39 : decode cX9_recordedLessShipped 39 = .ok (.isub, 1) := by decide +kernel
theorem dX9_recordedLessShipped_40 : decode cX9_recordedLessShipped 40 = .ok (.ireturn, 1) := by decide +kernel
theorem dX9_recordedAndLost_0 : decode cX9_recordedAndLost 0 = .ok (.aload_n 0, 1) := by decide +kernel
theorem dX9_recordedAndLost_1 : decode cX9_recordedAndLost 1 = .ok (.invokevirtual 50, 3) := by decide +kernel
theorem dX9_recordedAndLost_4 : decode cX9_recordedAndLost 4 = .ok (.istore_n 1, 1) := by decide +kernel
theorem dX9_recordedAndLost_5 : decode cX9_recordedAndLost 5 = .ok (.iconst 0, 1) := by decide +kernel
theorem dX9_recordedAndLost_6 : decode cX9_recordedAndLost 6 = .ok (.istore_n 2, 1) := by decide +kernel
theorem dX9_recordedAndLost_7 : decode cX9_recordedAndLost 7 = .ok (.iload_n 2, 1) := by decide +kernel
theorem dX9_recordedAndLost_8 : decode cX9_recordedAndLost 8 = .ok (.bipush 32, 2) := by decide +kernel
theorem dX9_recordedAndLost_10 : decode cX9_recordedAndLost 10 = .ok (.if_icmp .ge 18, 3) := by decide +kernel
theorem dX9_recordedAndLost_13 : decode cX9_recordedAndLost 13 = .ok (.iload_n 1, 1) := by decide +kernel
theorem dX9_recordedAndLost_14 : decode cX9_recordedAndLost 14 = .ok (.aload_n 0, 1) := by decide +kernel
theorem dX9_recordedAndLost_15 : decode cX9_recordedAndLost 15 = .ok (.getfield 18, 3) := by decide +kernel
theorem dX9_recordedAndLost_18 : decode cX9_recordedAndLost 18 = .ok (.iload_n 2, 1) := by decide +kernel
theorem dX9_recordedAndLost_19 : decode cX9_recordedAndLost 19 = .ok (.iaload, 1) := by decide +kernel
theorem dX9_recordedAndLost_20 : decode cX9_recordedAndLost 20 = .ok (.iadd, 1) := by decide +kernel
theorem dX9_recordedAndLost_21 : decode cX9_recordedAndLost 21 = .ok (.istore_n 1, 1) := by decide +kernel
theorem dX9_recordedAndLost_22 : decode cX9_recordedAndLost 22 = .ok (.iinc 2 1, 3) := by decide +kernel
theorem dX9_recordedAndLost_25 : decode cX9_recordedAndLost 25 = .ok (.goto (-18), 3) := by decide +kernel
theorem dX9_recordedAndLost_28 : decode cX9_recordedAndLost 28 = .ok (.iload_n 1, 1) := by decide +kernel
theorem dX9_recordedAndLost_29 : decode cX9_recordedAndLost 29 = .ok (.ireturn, 1) := by decide +kernel
theorem dX10_init_0 : decode cX10_init 0 = .ok (.aload_n 0, 1) := by decide +kernel
theorem dX10_init_1 : decode cX10_init 1 = .ok (.invokespecial 3, 3) := by decide +kernel
theorem dX10_init_4 : decode cX10_init 4 = .ok (.aload_n 0, 1) := by decide +kernel
theorem dX10_init_5 : decode cX10_init 5 = .ok (.bipush 12, 2) := by decide +kernel
theorem dX10_init_7 : decode cX10_init 7 = .ok (.newarray .int, 2) := by decide +kernel
theorem dX10_init_9 : decode cX10_init 9 = .ok (.putfield 9, 3) := by decide +kernel
theorem dX10_init_12 : decode cX10_init 12 = .ok (.aload_n 0, 1) := by decide +kernel
theorem dX10_init_13 : decode cX10_init 13 = .ok (.iconst 0, 1) := by decide +kernel
theorem dX10_init_14 : decode cX10_init 14 = .ok (.putfield 15, 3) := by decide +kernel
theorem dX10_init_17 : decode cX10_init 17 = .ok (.return_, 1) := by decide +kernel
theorem dX10_fill_0 : decode cX10_fill 0 = .ok (.aload_n 0, 1) := by decide +kernel
theorem dX10_fill_1 : decode cX10_fill 1 = .ok (.aload_n 1, 1) := by decide +kernel
theorem dX10_fill_2 : decode cX10_fill 2 = .ok (.getfield 19, 3) := by decide +kernel
theorem dX10_fill_5 : decode cX10_fill 5 = .ok (.bipush 12, 2) := by decide +kernel
theorem dX10_fill_7 : decode cX10_fill 7 = .ok (.invokestatic 24, 3) := by decide +kernel
theorem dX10_fill_10 : decode cX10_fill 10 = .ok (.putfield 15, 3) := by decide +kernel
theorem dX10_fill_13 : decode cX10_fill 13 = .ok (.iconst 0, 1) := by decide +kernel
theorem dX10_fill_14 : decode cX10_fill 14 = .ok (.istore_n 2, 1) := by decide +kernel
theorem dX10_fill_15 : decode cX10_fill 15 = .ok (.iload_n 2, 1) := by decide +kernel
theorem dX10_fill_16 : decode cX10_fill 16 = .ok (.aload_n 0, 1) := by decide +kernel
theorem dX10_fill_17 : decode cX10_fill 17 = .ok (.getfield 15, 3) := by decide +kernel
theorem dX10_fill_20 : decode cX10_fill 20 = .ok (.if_icmp .ge 16, 3) := by decide +kernel
theorem dX10_fill_23 : decode cX10_fill 23 = .ok (.aload_n 0, 1) := by decide +kernel
theorem dX10_fill_24 : decode cX10_fill 24 = .ok (.getfield 9, 3) := by decide +kernel
theorem dX10_fill_27 : decode cX10_fill 27 = .ok (.iload_n 2, 1) := by decide +kernel
theorem dX10_fill_28 : decode cX10_fill 28 = .ok (.iload_n 2, 1) := by decide +kernel
theorem dX10_fill_29 : decode cX10_fill 29 = .ok (.iastore, 1) := by decide +kernel
theorem dX10_fill_30 : decode cX10_fill 30 = .ok (.iinc 2 1, 3) := by decide +kernel
theorem dX10_fill_33 : decode cX10_fill 33 = .ok (.goto (-18), 3) := by decide +kernel
theorem dX10_fill_36 : decode cX10_fill 36 = .ok (.return_, 1) := by decide +kernel
theorem dX10_take_0 : decode cX10_take 0 = .ok (.aload_n 0, 1) := by decide +kernel
theorem dX10_take_1 : decode cX10_take 1 = .ok (.getfield 15, 3) := by decide +kernel
theorem dX10_take_4 : decode cX10_take 4 = .ok (.ifCond .gt 5, 3) := by decide +kernel
theorem dX10_take_7 : decode cX10_take 7 = .ok (.iconst (-1), 1) := by decide +kernel
theorem dX10_take_8 : decode cX10_take 8 = .ok (.ireturn, 1) := by decide +kernel
theorem dX10_take_9 : decode cX10_take 9 = .ok (.iconst 0, 1) := by decide +kernel
theorem dX10_take_10 : decode cX10_take 10 = .ok (.istore_n 2, 1) := by decide +kernel
theorem dX10_take_11 : decode cX10_take 11 = .ok (.iconst 1, 1) := by decide +kernel
theorem dX10_take_12 : decode cX10_take 12 = .ok (.istore_n 3, 1) := by decide +kernel
theorem dX10_take_13 : decode cX10_take 13 = .ok (.iload_n 3, 1) := by decide +kernel
theorem dX10_take_14 : decode cX10_take 14 = .ok (.aload_n 0, 1) := by decide +kernel
theorem dX10_take_15 : decode cX10_take 15 = .ok (.getfield 15, 3) := by decide +kernel
theorem dX10_take_18 : decode cX10_take 18 = .ok (.if_icmp .ge 30, 3) := by decide +kernel
theorem dX10_take_21 : decode cX10_take 21 = .ok (.aload_n 1, 1) := by decide +kernel
theorem dX10_take_22 : decode cX10_take 22 = .ok (.aload_n 0, 1) := by decide +kernel
theorem dX10_take_23 : decode cX10_take 23 = .ok (.getfield 9, 3) := by decide +kernel
theorem dX10_take_26 : decode cX10_take 26 = .ok (.iload_n 3, 1) := by decide +kernel
theorem dX10_take_27 : decode cX10_take 27 = .ok (.iaload, 1) := by decide +kernel
theorem dX10_take_28 : decode cX10_take 28 = .ok (.aload_n 0, 1) := by decide +kernel
theorem dX10_take_29 : decode cX10_take 29 = .ok (.getfield 9, 3) := by decide +kernel
theorem dX10_take_32 : decode cX10_take 32 = .ok (.iload_n 2, 1) := by decide +kernel
theorem dX10_take_33 : decode cX10_take 33 = .ok (.iaload, 1) := by decide +kernel
theorem dX10_take_34 : decode cX10_take 34 = .ok (.invokevirtual 30, 3) := by decide +kernel
theorem dX10_take_37 : decode cX10_take 37 = .ok (.ifCond .eq 5, 3) := by decide +kernel
theorem dX10_take_40 : decode cX10_take 40 = .ok (.iload_n 3, 1) := by decide +kernel
theorem dX10_take_41 : decode cX10_take 41 = .ok (.istore_n 2, 1) := by decide +kernel
theorem dX10_take_42 : decode cX10_take 42 = .ok (.iinc 3 1, 3) := by decide +kernel
theorem dX10_take_45 : decode cX10_take 45 = .ok (.goto (-32), 3) := by decide +kernel
theorem dX10_take_48 : decode cX10_take 48 = .ok (.aload_n 0, 1) := by decide +kernel
theorem dX10_take_49 : decode cX10_take 49 = .ok (.getfield 9, 3) := by decide +kernel
theorem dX10_take_52 : decode cX10_take 52 = .ok (.iload_n 2, 1) := by decide +kernel
theorem dX10_take_53 : decode cX10_take 53 = .ok (.iaload, 1) := by decide +kernel
theorem dX10_take_54 : decode cX10_take 54 = .ok (.istore_n 3, 1) := by decide +kernel
theorem dX10_take_55 : decode cX10_take 55 = .ok (.aload_n 0, 1) := by decide +kernel
theorem dX10_take_56 : decode cX10_take 56 = .ok (.dup, 1) := by decide +kernel
theorem dX10_take_57 : decode cX10_take 57 = .ok (.getfield 15, 3) := by decide +kernel
theorem dX10_take_60 : decode cX10_take 60 = .ok (.iconst 1, 1) := by decide +kernel
theorem dX10_take_61 : decode cX10_take 61 = .ok (.isub, 1) := by decide +kernel
theorem dX10_take_62 : decode cX10_take 62 = .ok (.putfield 15, 3) := by decide +kernel
theorem dX10_take_65 : decode cX10_take 65 = .ok (.aload_n 0, 1) := by decide +kernel
theorem dX10_take_66 : decode cX10_take 66 = .ok (.getfield 9, 3) := by decide +kernel
theorem dX10_take_69 : decode cX10_take 69 = .ok (.iload_n 2, 1) := by decide +kernel
theorem dX10_take_70 : decode cX10_take 70 = .ok (.aload_n 0, 1) := by decide +kernel
theorem dX10_take_71 : decode cX10_take 71 = .ok (.getfield 9, 3) := by decide +kernel
theorem dX10_take_74 : decode cX10_take 74 = .ok (.aload_n 0, 1) := by decide +kernel
theorem dX10_take_75 : decode cX10_take 75 = .ok (.getfield 15, 3) := by decide +kernel
theorem dX10_take_78 : decode cX10_take 78 = .ok (.iaload, 1) := by decide +kernel
theorem dX10_take_79 : decode cX10_take 79 = .ok (.iastore, 1) := by decide +kernel
theorem dX10_take_80 : decode cX10_take 80 = .ok (.iload_n 3, 1) := by decide +kernel
theorem dX10_take_81 : decode cX10_take 81 = .ok (.ireturn, 1) := by decide +kernel
theorem dX11_init_0 : decode cX11_init 0 = .ok (.aload_n 0, 1) := by decide +kernel
theorem dX11_init_1 : decode cX11_init 1 = .ok (.invokespecial 1, 3) := by decide +kernel
theorem dX11_init_4 : decode cX11_init 4 = .ok (.aload_n 0, 1) := by decide +kernel
theorem dX11_init_5 : decode cX11_init 5 = .ok (.new 7, 3) := by decide +kernel
theorem dX11_init_8 : decode cX11_init 8 = .ok (.dup, 1) := by decide +kernel
theorem dX11_init_9 : decode cX11_init 9 = .ok (.invokespecial 9, 3) := by decide +kernel
theorem dX11_init_12 : decode cX11_init 12 = .ok (.putfield 10, 3) := by decide +kernel
theorem dX11_init_15 : decode cX11_init 15 = .ok (.aload_n 0, 1) := by decide +kernel
theorem dX11_init_16 : decode cX11_init 16 = .ok (.new 7, 3) := by decide +kernel
theorem dX11_init_19 : decode cX11_init 19 = .ok (.dup, 1) := by decide +kernel
theorem dX11_init_20 : decode cX11_init 20 = .ok (.invokespecial 9, 3) := by decide +kernel
theorem dX11_init_23 : decode cX11_init 23 = .ok (.putfield 16, 3) := by decide +kernel
theorem dX11_init_26 : decode cX11_init 26 = .ok (.aload_n 0, 1) := by decide +kernel
theorem dX11_init_27 : decode cX11_init 27 = .ok (.new 7, 3) := by decide +kernel
theorem dX11_init_30 : decode cX11_init 30 = .ok (.dup, 1) := by decide +kernel
theorem dX11_init_31 : decode cX11_init 31 = .ok (.invokespecial 9, 3) := by decide +kernel
theorem dX11_init_34 : decode cX11_init 34 = .ok (.putfield 19, 3) := by decide +kernel
theorem dX11_init_37 : decode cX11_init 37 = .ok (.aload_n 0, 1) := by decide +kernel
theorem dX11_init_38 : decode cX11_init 38 = .ok (.iconst 0, 1) := by decide +kernel
theorem dX11_init_39 : decode cX11_init 39 = .ok (.putfield 22, 3) := by decide +kernel
theorem dX11_init_42 : decode cX11_init 42 = .ok (.aload_n 0, 1) := by decide +kernel
theorem dX11_init_43 : decode cX11_init 43 = .ok (.new 26, 3) := by decide +kernel
theorem dX11_init_46 : decode cX11_init 46 = .ok (.dup, 1) := by decide +kernel
theorem dX11_init_47 : decode cX11_init 47 = .ok (.invokespecial 28, 3) := by decide +kernel
theorem dX11_init_50 : decode cX11_init 50 = .ok (.putfield 29, 3) := by decide +kernel
theorem dX11_init_53 : decode cX11_init 53 = .ok (.aload_n 0, 1) := by decide +kernel
theorem dX11_init_54 : decode cX11_init 54 = .ok (.new 33, 3) := by decide +kernel
theorem dX11_init_57 : decode cX11_init 57 = .ok (.dup, 1) := by decide +kernel
theorem dX11_init_58 : decode cX11_init 58 = .ok (.invokespecial 35, 3) := by decide +kernel
theorem dX11_init_61 : decode cX11_init 61 = .ok (.putfield 36, 3) := by decide +kernel
theorem dX11_init_64 : decode cX11_init 64 = .ok (.aload_n 0, 1) := by decide +kernel
theorem dX11_init_65 : decode cX11_init 65 = .ok (.new 40, 3) := by decide +kernel
theorem dX11_init_68 : decode cX11_init 68 = .ok (.dup, 1) := by decide +kernel
theorem dX11_init_69 : decode cX11_init 69 = .ok (.invokespecial 42, 3) := by decide +kernel
theorem dX11_init_72 : decode cX11_init 72 = .ok (.putfield 43, 3) := by decide +kernel
theorem dX11_init_75 : decode cX11_init 75 = .ok (.aload_n 0, 1) := by decide +kernel
theorem dX11_init_76 : decode cX11_init 76 = .ok (.new 47, 3) := by decide +kernel
theorem dX11_init_79 : decode cX11_init 79 = .ok (.dup, 1) := by decide +kernel
theorem dX11_init_80 : decode cX11_init 80 = .ok (.invokespecial 49, 3) := by decide +kernel
theorem dX11_init_83 : decode cX11_init 83 = .ok (.putfield 50, 3) := by decide +kernel
theorem dX11_init_86 : decode cX11_init 86 = .ok (.aload_n 0, 1) := by decide +kernel
theorem dX11_init_87 : decode cX11_init 87 = .ok (.iconst (-1), 1) := by decide +kernel
theorem dX11_init_88 : decode cX11_init 88 = .ok (.putfield 54, 3) := by decide +kernel
theorem dX11_init_91 : decode cX11_init 91 = .ok (.aload_n 0, 1) := by decide +kernel
theorem dX11_init_92 : decode cX11_init 92 = .ok (.iconst (-1), 1) := by decide +kernel
theorem dX11_init_93 : decode cX11_init 93 = .ok (.putfield 58, 3) := by decide +kernel
theorem dX11_init_96 : decode cX11_init 96 = .ok (.return_, 1) := by decide +kernel
theorem dX11_addNoise_0 : decode cX11_addNoise 0 = .ok (.aload_n 0, 1) := by decide +kernel
theorem dX11_addNoise_1 : decode cX11_addNoise 1 = .ok (.getfield 10, 3) := by decide +kernel
theorem dX11_addNoise_4 : decode cX11_addNoise 4 = .ok (.iload_n 1, 1) := by decide +kernel
theorem dX11_addNoise_5 : decode cX11_addNoise 5 = .ok (.iload_n 2, 1) := by decide +kernel
theorem dX11_addNoise_6 : decode cX11_addNoise 6 = .ok (.iload_n 3, 1) := by decide +kernel
theorem dX11_addNoise_7 : decode cX11_addNoise 7 = .ok (.invokevirtual 61, 3) := by decide +kernel
theorem dX11_addNoise_10 : decode cX11_addNoise 10 = .ok (.invokestatic 65, 3) := by decide +kernel
theorem dX11_addNoise_13 : decode cX11_addNoise 13 = .ok (.aload_n 0, 1) := by decide +kernel
theorem dX11_addNoise_14 : decode cX11_addNoise 14 = .ok (.getfield 29, 3) := by decide +kernel
theorem dX11_addNoise_17 : decode cX11_addNoise 17 = .ok (.aload_n 0, 1) := by decide +kernel
theorem dX11_addNoise_18 : decode cX11_addNoise 18 = .ok (.getfield 10, 3) := by decide +kernel
theorem dX11_addNoise_21 : decode cX11_addNoise 21 = .ok (.invokevirtual 69, 3) := by decide +kernel
theorem dX11_addNoise_24 : decode cX11_addNoise 24 = .ok (.aload_n 0, 1) := by decide +kernel
theorem dX11_addNoise_25 : decode cX11_addNoise 25 = .ok (.getfield 10, 3) := by decide +kernel
theorem dX11_addNoise_28 : decode cX11_addNoise 28 = .ok (.iload_n 1, 1) := by decide +kernel
theorem dX11_addNoise_29 : decode cX11_addNoise 29 = .ok (.iload_n 2, 1) := by decide +kernel
theorem dX11_addNoise_30 : decode cX11_addNoise 30 = .ok (.iload_n 3, 1) := by decide +kernel
theorem dX11_addNoise_31 : decode cX11_addNoise 31 = .ok (.invokevirtual 73, 3) := by decide +kernel
theorem dX11_addNoise_34 : decode cX11_addNoise 34 = .ok (.ireturn, 1) := by decide +kernel
theorem dX11_removeNoise_0 : decode cX11_removeNoise 0 = .ok (.aload_n 0, 1) := by decide +kernel
theorem dX11_removeNoise_1 : decode cX11_removeNoise 1 = .ok (.getfield 10, 3) := by decide +kernel
theorem dX11_removeNoise_4 : decode cX11_removeNoise 4 = .ok (.iload_n 1, 1) := by decide +kernel
theorem dX11_removeNoise_5 : decode cX11_removeNoise 5 = .ok (.invokevirtual 77, 3) := by decide +kernel
theorem dX11_removeNoise_8 : decode cX11_removeNoise 8 = .ok (.invokestatic 65, 3) := by decide +kernel
theorem dX11_removeNoise_11 : decode cX11_removeNoise 11 = .ok (.aload_n 0, 1) := by decide +kernel
theorem dX11_removeNoise_12 : decode cX11_removeNoise 12 = .ok (.getfield 29, 3) := by decide +kernel
theorem dX11_removeNoise_15 : decode cX11_removeNoise 15 = .ok (.aload_n 0, 1) := by decide +kernel
theorem dX11_removeNoise_16 : decode cX11_removeNoise 16 = .ok (.getfield 10, 3) := by decide +kernel
theorem dX11_removeNoise_19 : decode cX11_removeNoise 19 = .ok (.invokevirtual 69, 3) := by decide +kernel
theorem dX11_removeNoise_22 : decode cX11_removeNoise 22 = .ok (.aload_n 0, 1) := by decide +kernel
theorem dX11_removeNoise_23 : decode cX11_removeNoise 23 = .ok (.getfield 10, 3) := by decide +kernel
theorem dX11_removeNoise_26 : decode cX11_removeNoise 26 = .ok (.iload_n 1, 1) := by decide +kernel
theorem dX11_removeNoise_27 : decode cX11_removeNoise 27 = .ok (.invokevirtual 81, 3) := by decide +kernel
theorem dX11_removeNoise_30 : decode cX11_removeNoise 30 = .ok (.ireturn, 1) := by decide +kernel
theorem dX11_setGear_0 : decode cX11_setGear 0 = .ok (.iload_n 1, 1) := by decide +kernel
theorem dX11_setGear_1 : decode cX11_setGear 1 = .ok (.iload_n 2, 1) := by decide +kernel
theorem dX11_setGear_2 : decode cX11_setGear 2 = .ok (.invokestatic 85, 3) := by decide +kernel
theorem dX11_setGear_5 : decode cX11_setGear 5 = .ok (.invokestatic 65, 3) := by decide +kernel
theorem dX11_setGear_8 : decode cX11_setGear 8 = .ok (.aload_n 0, 1) := by decide +kernel
theorem dX11_setGear_9 : decode cX11_setGear 9 = .ok (.getfield 29, 3) := by decide +kernel
theorem dX11_setGear_12 : decode cX11_setGear 12 = .ok (.aload_n 0, 1) := by decide +kernel
theorem dX11_setGear_13 : decode cX11_setGear 13 = .ok (.getfield 10, 3) := by decide +kernel
theorem dX11_setGear_16 : decode cX11_setGear 16 = .ok (.invokevirtual 69, 3) := by decide +kernel
theorem dX11_setGear_19 : decode cX11_setGear 19 = .ok (.aload_n 0, 1) := by decide +kernel
theorem dX11_setGear_20 : decode cX11_setGear 20 = .ok (.getfield 10, 3) := by decide +kernel
theorem dX11_setGear_23 : decode cX11_setGear 23 = .ok (.iload_n 1, 1) := by decide +kernel
theorem dX11_setGear_24 : decode cX11_setGear 24 = .ok (.iload_n 2, 1) := by decide +kernel
theorem dX11_setGear_25 : decode cX11_setGear 25 = .ok (.invokevirtual 89, 3) := by decide +kernel
theorem dX11_setGear_28 : decode cX11_setGear 28 = .ok (.ireturn, 1) := by decide +kernel
theorem dX11_setMesh_0 : decode cX11_setMesh 0 = .ok (.iload_n 1, 1) := by decide +kernel
theorem dX11_setMesh_1 : decode cX11_setMesh 1 = .ok (.iload_n 2, 1) := by decide +kernel
theorem dX11_setMesh_2 : decode cX11_setMesh 2 = .ok (.invokestatic 93, 3) := by decide +kernel
theorem dX11_setMesh_5 : decode cX11_setMesh 5 = .ok (.invokestatic 65, 3) := by decide +kernel
theorem dX11_setMesh_8 : decode cX11_setMesh 8 = .ok (.aload_n 0, 1) := by decide +kernel
theorem dX11_setMesh_9 : decode cX11_setMesh 9 = .ok (.getfield 29, 3) := by decide +kernel
theorem dX11_setMesh_12 : decode cX11_setMesh 12 = .ok (.aload_n 0, 1) := by decide +kernel
theorem dX11_setMesh_13 : decode cX11_setMesh 13 = .ok (.getfield 10, 3) := by decide +kernel
theorem dX11_setMesh_16 : decode cX11_setMesh 16 = .ok (.invokevirtual 69, 3) := by decide +kernel
theorem dX11_setMesh_19 : decode cX11_setMesh 19 = .ok (.aload_n 0, 1) := by decide +kernel
theorem dX11_setMesh_20 : decode cX11_setMesh 20 = .ok (.getfield 10, 3) := by decide +kernel
theorem dX11_setMesh_23 : decode cX11_setMesh 23 = .ok (.iload_n 1, 1) := by decide +kernel
theorem dX11_setMesh_24 : decode cX11_setMesh 24 = .ok (.iload_n 2, 1) := by decide +kernel
theorem dX11_setMesh_25 : decode cX11_setMesh 25 = .ok (.invokevirtual 96, 3) := by decide +kernel
theorem dX11_setMesh_28 : decode cX11_setMesh 28 = .ok (.ireturn, 1) := by decide +kernel
theorem dX11_clearWheel_0 : decode cX11_clearWheel 0 = .ok (.iload_n 1, 1) := by decide +kernel
theorem dX11_clearWheel_1 : decode cX11_clearWheel 1 = .ok (.invokestatic 99, 3) := by decide +kernel
theorem dX11_clearWheel_4 : decode cX11_clearWheel 4 = .ok (.invokestatic 65, 3) := by decide +kernel
theorem dX11_clearWheel_7 : decode cX11_clearWheel 7 = .ok (.aload_n 0, 1) := by decide +kernel
theorem dX11_clearWheel_8 : decode cX11_clearWheel 8 = .ok (.getfield 29, 3) := by decide +kernel
theorem dX11_clearWheel_11 : decode cX11_clearWheel 11 = .ok (.aload_n 0, 1) := by decide +kernel
theorem dX11_clearWheel_12 : decode cX11_clearWheel 12 = .ok (.getfield 10, 3) := by decide +kernel
theorem dX11_clearWheel_15 : decode cX11_clearWheel 15 = .ok (.invokevirtual 69, 3) := by decide +kernel
theorem dX11_clearWheel_18 : decode cX11_clearWheel 18 = .ok (.aload_n 0, 1) := by decide +kernel
theorem dX11_clearWheel_19 : decode cX11_clearWheel 19 = .ok (.getfield 10, 3) := by decide +kernel
theorem dX11_clearWheel_22 : decode cX11_clearWheel 22 = .ok (.iload_n 1, 1) := by decide +kernel
theorem dX11_clearWheel_23 : decode cX11_clearWheel 23 = .ok (.invokevirtual 102, 3) := by decide +kernel
theorem dX11_clearWheel_26 : decode cX11_clearWheel 26 = .ok (.ireturn, 1) := by decide +kernel
theorem dX11_releaseNoise_0 : decode cX11_releaseNoise 0 = .ok (.aload_n 0, 1) := by decide +kernel
theorem dX11_releaseNoise_1 : decode cX11_releaseNoise 1 = .ok (.getfield 10, 3) := by decide +kernel
theorem dX11_releaseNoise_4 : decode cX11_releaseNoise 4 = .ok (.iload_n 1, 1) := by decide +kernel
theorem dX11_releaseNoise_5 : decode cX11_releaseNoise 5 = .ok (.invokevirtual 105, 3) := by decide +kernel
theorem dX11_releaseNoise_8 : decode cX11_releaseNoise 8 = .ok (.invokestatic 65, 3) := by decide +kernel
theorem dX11_releaseNoise_11 : decode cX11_releaseNoise 11 = .ok (.aload_n 0, 1) := by decide +kernel
theorem dX11_releaseNoise_12 : decode cX11_releaseNoise 12 = .ok (.getfield 29, 3) := by decide +kernel
theorem dX11_releaseNoise_15 : decode cX11_releaseNoise 15 = .ok (.aload_n 0, 1) := by decide +kernel
theorem dX11_releaseNoise_16 : decode cX11_releaseNoise 16 = .ok (.getfield 10, 3) := by decide +kernel
theorem dX11_releaseNoise_19 : decode cX11_releaseNoise 19 = .ok (.invokevirtual 69, 3) := by decide +kernel
theorem dX11_releaseNoise_22 : decode cX11_releaseNoise 22 = .ok (.aload_n 0, 1) := by decide +kernel
theorem dX11_releaseNoise_23 : decode cX11_releaseNoise 23 = .ok (.getfield 10, 3) := by decide +kernel
theorem dX11_releaseNoise_26 : decode cX11_releaseNoise 26 = .ok (.iload_n 1, 1) := by decide +kernel
theorem dX11_releaseNoise_27 : decode cX11_releaseNoise 27 = .ok (.invokevirtual 108, 3) := by decide +kernel
theorem dX11_releaseNoise_30 : decode cX11_releaseNoise 30 = .ok (.ireturn, 1) := by decide +kernel
theorem dX11_shipSacks_0 : decode cX11_shipSacks 0 = .ok (.aload_n 0, 1) := by decide +kernel
theorem dX11_shipSacks_1 : decode cX11_shipSacks 1 = .ok (.getfield 10, 3) := by decide +kernel
theorem dX11_shipSacks_4 : decode cX11_shipSacks 4 = .ok (.iload_n 1, 1) := by decide +kernel
theorem dX11_shipSacks_5 : decode cX11_shipSacks 5 = .ok (.iload_n 2, 1) := by decide +kernel
theorem dX11_shipSacks_6 : decode cX11_shipSacks 6 = .ok (.invokevirtual 111, 3) := by decide +kernel
theorem dX11_shipSacks_9 : decode cX11_shipSacks 9 = .ok (.invokestatic 65, 3) := by decide +kernel
theorem dX11_shipSacks_12 : decode cX11_shipSacks 12 = .ok (.aload_n 0, 1) := by decide +kernel
theorem dX11_shipSacks_13 : decode cX11_shipSacks 13 = .ok (.getfield 29, 3) := by decide +kernel
theorem dX11_shipSacks_16 : decode cX11_shipSacks 16 = .ok (.aload_n 0, 1) := by decide +kernel
theorem dX11_shipSacks_17 : decode cX11_shipSacks 17 = .ok (.getfield 10, 3) := by decide +kernel
theorem dX11_shipSacks_20 : decode cX11_shipSacks 20 = .ok (.invokevirtual 69, 3) := by decide +kernel
theorem dX11_shipSacks_23 : decode cX11_shipSacks 23 = .ok (.aload_n 0, 1) := by decide +kernel
theorem dX11_shipSacks_24 : decode cX11_shipSacks 24 = .ok (.getfield 10, 3) := by decide +kernel
theorem dX11_shipSacks_27 : decode cX11_shipSacks 27 = .ok (.iload_n 1, 1) := by decide +kernel
theorem dX11_shipSacks_28 : decode cX11_shipSacks 28 = .ok (.iload_n 2, 1) := by decide +kernel
theorem dX11_shipSacks_29 : decode cX11_shipSacks 29 = .ok (.invokevirtual 114, 3) := by decide +kernel
theorem dX11_shipSacks_32 : decode cX11_shipSacks 32 = .ok (.ireturn, 1) := by decide +kernel
theorem dX11_advance_0 : decode cX11_advance 0 = .ok (.iload_n 1, 1) := by decide +kernel
theorem dX11_advance_1 : decode cX11_advance 1 = .ok (.invokestatic 117, 3) := by decide +kernel
theorem dX11_advance_4 : decode cX11_advance 4 = .ok (.invokestatic 65, 3) := by decide +kernel
theorem dX11_advance_7 : decode cX11_advance 7 = .ok (.aload_n 0, 1) := by decide +kernel
theorem dX11_advance_8 : decode cX11_advance 8 = .ok (.getfield 29, 3) := by decide +kernel
theorem dX11_advance_11 : decode cX11_advance 11 = .ok (.aload_n 0, 1) := by decide +kernel
theorem dX11_advance_12 : decode cX11_advance 12 = .ok (.getfield 10, 3) := by decide +kernel
theorem dX11_advance_15 : decode cX11_advance 15 = .ok (.invokevirtual 69, 3) := by decide +kernel
theorem dX11_advance_18 : decode cX11_advance 18 = .ok (.aload_n 0, 1) := by decide +kernel
theorem dX11_advance_19 : decode cX11_advance 19 = .ok (.getfield 10, 3) := by decide +kernel
theorem dX11_advance_22 : decode cX11_advance 22 = .ok (.iload_n 1, 1) := by decide +kernel
theorem dX11_advance_23 : decode cX11_advance 23 = .ok (.invokevirtual 120, 3) := by decide +kernel
theorem dX11_advance_26 : decode cX11_advance 26 = .ok (.ireturn, 1) := by decide +kernel
theorem dX11_time_0 : decode cX11_time 0 = .ok (.aload_n 0, 1) := by decide +kernel
theorem dX11_time_1 : decode cX11_time 1 = .ok (.getfield 10, 3) := by decide +kernel
theorem dX11_time_4 : decode cX11_time 4 = .ok (.getfield 123, 3) := by decide +kernel
theorem dX11_time_7 : decode cX11_time 7 = .ok (.ireturn, 1) := by decide +kernel
theorem dX11_waitingCount_0 : decode cX11_waitingCount 0 = .ok (.aload_n 0, 1) := by decide +kernel
theorem dX11_waitingCount_1 : decode cX11_waitingCount 1 = .ok (.getfield 10, 3) := by decide +kernel
theorem dX11_waitingCount_4 : decode cX11_waitingCount 4 = .ok (.getfield 126, 3) := by decide +kernel
theorem dX11_waitingCount_7 : decode cX11_waitingCount 7 = .ok (.getfield 130, 3) := by decide +kernel
theorem dX11_waitingCount_10 : decode cX11_waitingCount 10 = .ok (.ireturn, 1) := by decide +kernel
theorem dX11_waitingAt_0 : decode cX11_waitingAt 0 = .ok (.aload_n 0, 1) := by decide +kernel
theorem dX11_waitingAt_1 : decode cX11_waitingAt 1 = .ok (.iload_n 1, 1) := by decide +kernel
theorem dX11_waitingAt_2 : decode cX11_waitingAt 2 = .ok (.invokevirtual 135, 3) := by decide +kernel
theorem dX11_waitingAt_5 : decode cX11_waitingAt 5 = .ok (.istore_n 2, 1) := by decide +kernel
theorem dX11_waitingAt_6 : decode cX11_waitingAt 6 = .ok (.iload_n 2, 1) := by decide +kernel
theorem dX11_waitingAt_7 : decode cX11_waitingAt 7 = .ok (.iconst (-1), 1) := by decide +kernel
theorem dX11_waitingAt_8 : decode cX11_waitingAt 8 = .ok (.if_icmp .ne 13, 3) := by decide +kernel
theorem dX11_waitingAt_11 : decode cX11_waitingAt 11 = .ok (.new 138, 3) := by decide +kernel
theorem dX11_waitingAt_14 : decode cX11_waitingAt 14 = .ok (.dup, 1) := by decide +kernel
theorem dX11_waitingAt_15 : decode cX11_waitingAt 15 = .ok (.ldc 140, 2) := by decide +kernel
theorem dX11_waitingAt_17 : decode cX11_waitingAt 17 = .ok (.invokespecial 142, 3) := by decide +kernel
theorem dX11_waitingAt_20 : decode cX11_waitingAt 20 = .ok (.athrow, 1) := by decide +kernel
theorem dX11_waitingAt_21 : decode cX11_waitingAt 21 = .ok (.aload_n 0, 1) := by decide +kernel
theorem dX11_waitingAt_22 : decode cX11_waitingAt 22 = .ok (.getfield 10, 3) := by decide +kernel
theorem dX11_waitingAt_25 : decode cX11_waitingAt 25 = .ok (.getfield 126, 3) := by decide +kernel
theorem dX11_waitingAt_28 : decode cX11_waitingAt 28 = .ok (.getfield 145, 3) := by decide +kernel
theorem dX11_waitingAt_31 : decode cX11_waitingAt 31 = .ok (.iload_n 2, 1) := by decide +kernel
theorem dX11_waitingAt_32 : decode cX11_waitingAt 32 = .ok (.iaload, 1) := by decide +kernel
theorem dX11_waitingAt_33 : decode cX11_waitingAt 33 = .ok (.ireturn, 1) := by decide +kernel
theorem dX11_rankOf_0 : decode cX11_rankOf 0 = .ok (.aload_n 0, 1) := by decide +kernel
theorem dX11_rankOf_1 : decode cX11_rankOf 1 = .ok (.iload_n 1, 1) := by decide +kernel
theorem dX11_rankOf_2 : decode cX11_rankOf 2 = .ok (.invokevirtual 149, 3) := by decide +kernel
theorem dX11_rankOf_5 : decode cX11_rankOf 5 = .ok (.istore_n 2, 1) := by decide +kernel
theorem dX11_rankOf_6 : decode cX11_rankOf 6 = .ok (.iload_n 2, 1) := by decide +kernel
theorem dX11_rankOf_7 : decode cX11_rankOf 7 = .ok (.invokestatic 152, 3) := by decide +kernel
theorem dX11_rankOf_10 : decode cX11_rankOf 10 = .ok (.ifCond .ne 13, 3) := by decide +kernel
theorem dX11_rankOf_13 : decode cX11_rankOf 13 = .ok (.new 156, 3) := by decide +kernel
theorem dX11_rankOf_16 : decode cX11_rankOf 16 = .ok (.dup, 1) := by decide +kernel
theorem dX11_rankOf_17 : decode cX11_rankOf 17 = .ok (.ldc 158, 2) := by decide +kernel
theorem dX11_rankOf_19 : decode cX11_rankOf 19 = .ok (.invokespecial 160, 3) := by decide +kernel
theorem dX11_rankOf_22 : decode cX11_rankOf 22 = .ok (.athrow, 1) := by decide +kernel
theorem dX11_rankOf_23 : decode cX11_rankOf 23 = .ok (.aload_n 0, 1) := by decide +kernel
theorem dX11_rankOf_24 : decode cX11_rankOf 24 = .ok (.getfield 10, 3) := by decide +kernel
theorem dX11_rankOf_27 : decode cX11_rankOf 27 = .ok (.getfield 126, 3) := by decide +kernel
theorem dX11_rankOf_30 : decode cX11_rankOf 30 = .ok (.iload_n 2, 1) := by decide +kernel
theorem dX11_rankOf_31 : decode cX11_rankOf 31 = .ok (.invokevirtual 161, 3) := by decide +kernel
theorem dX11_rankOf_34 : decode cX11_rankOf 34 = .ok (.ireturn, 1) := by decide +kernel
theorem dX11_exists_0 : decode cX11_exists 0 = .ok (.aload_n 0, 1) := by decide +kernel
theorem dX11_exists_1 : decode cX11_exists 1 = .ok (.getfield 10, 3) := by decide +kernel
theorem dX11_exists_4 : decode cX11_exists 4 = .ok (.getfield 126, 3) := by decide +kernel
theorem dX11_exists_7 : decode cX11_exists 7 = .ok (.iload_n 1, 1) := by decide +kernel
theorem dX11_exists_8 : decode cX11_exists 8 = .ok (.invokevirtual 164, 3) := by decide +kernel
theorem dX11_exists_11 : decode cX11_exists 11 = .ok (.iconst (-1), 1) := by decide +kernel
theorem dX11_exists_12 : decode cX11_exists 12 = .ok (.if_icmp .eq 7, 3) := by decide +kernel
theorem dX11_exists_15 : decode cX11_exists 15 = .ok (.iconst 1, 1) := by decide +kernel
theorem dX11_exists_16 : decode cX11_exists 16 = .ok (.goto 4, 3) := by decide +kernel
theorem dX11_exists_19 : decode cX11_exists 19 = .ok (.iconst 0, 1) := by decide +kernel
theorem dX11_exists_20 : decode cX11_exists 20 = .ok (.ireturn, 1) := by decide +kernel
theorem dX11_band_0 : decode cX11_band 0 = .ok (.aload_n 0, 1) := by decide +kernel
theorem dX11_band_1 : decode cX11_band 1 = .ok (.getfield 10, 3) := by decide +kernel
theorem dX11_band_4 : decode cX11_band 4 = .ok (.getfield 126, 3) := by decide +kernel
theorem dX11_band_7 : decode cX11_band 7 = .ok (.getfield 167, 3) := by decide +kernel
theorem dX11_band_10 : decode cX11_band 10 = .ok (.aload_n 0, 1) := by decide +kernel
theorem dX11_band_11 : decode cX11_band 11 = .ok (.iload_n 1, 1) := by decide +kernel
theorem dX11_band_12 : decode cX11_band 12 = .ok (.invokevirtual 149, 3) := by decide +kernel
theorem dX11_band_15 : decode cX11_band 15 = .ok (.iaload, 1) := by decide +kernel
theorem dX11_band_16 : decode cX11_band 16 = .ok (.ireturn, 1) := by decide +kernel
theorem dX11_loudness_0 : decode cX11_loudness 0 = .ok (.aload_n 0, 1) := by decide +kernel
theorem dX11_loudness_1 : decode cX11_loudness 1 = .ok (.getfield 10, 3) := by decide +kernel
theorem dX11_loudness_4 : decode cX11_loudness 4 = .ok (.getfield 126, 3) := by decide +kernel
theorem dX11_loudness_7 : decode cX11_loudness 7 = .ok (.getfield 170, 3) := by decide +kernel
theorem dX11_loudness_10 : decode cX11_loudness 10 = .ok (.aload_n 0, 1) := by decide +kernel
theorem dX11_loudness_11 : decode cX11_loudness 11 = .ok (.iload_n 1, 1) := by decide +kernel
theorem dX11_loudness_12 : decode cX11_loudness 12 = .ok (.invokevirtual 149, 3) := by decide +kernel
theorem dX11_loudness_15 : decode cX11_loudness 15 = .ok (.iaload, 1) := by decide +kernel
theorem dX11_loudness_16 : decode cX11_loudness 16 = .ok (.ireturn, 1) := by decide +kernel
theorem dX11_amount_0 : decode cX11_amount 0 = .ok (.aload_n 0, 1) := by decide +kernel
theorem dX11_amount_1 : decode cX11_amount 1 = .ok (.getfield 10, 3) := by decide +kernel
theorem dX11_amount_4 : decode cX11_amount 4 = .ok (.getfield 126, 3) := by decide +kernel
theorem dX11_amount_7 : decode cX11_amount 7 = .ok (.getfield 173, 3) := by decide +kernel
theorem dX11_amount_10 : decode cX11_amount 10 = .ok (.aload_n 0, 1) := by decide +kernel
theorem dX11_amount_11 : decode cX11_amount 11 = .ok (.iload_n 1, 1) := by decide +kernel
theorem dX11_amount_12 : decode cX11_amount 12 = .ok (.invokevirtual 149, 3) := by decide +kernel
theorem dX11_amount_15 : decode cX11_amount 15 = .ok (.iaload, 1) := by decide +kernel
theorem dX11_amount_16 : decode cX11_amount 16 = .ok (.ireturn, 1) := by decide +kernel
theorem dX11_isWaiting_0 : decode cX11_isWaiting 0 = .ok (.aload_n 0, 1) := by decide +kernel
theorem dX11_isWaiting_1 : decode cX11_isWaiting 1 = .ok (.iload_n 1, 1) := by decide +kernel
theorem dX11_isWaiting_2 : decode cX11_isWaiting 2 = .ok (.invokevirtual 149, 3) := by decide +kernel
theorem dX11_isWaiting_5 : decode cX11_isWaiting 5 = .ok (.invokestatic 152, 3) := by decide +kernel
theorem dX11_isWaiting_8 : decode cX11_isWaiting 8 = .ok (.ireturn, 1) := by decide +kernel
theorem dX11_wheelOf_0 : decode cX11_wheelOf 0 = .ok (.aload_n 0, 1) := by decide +kernel
theorem dX11_wheelOf_1 : decode cX11_wheelOf 1 = .ok (.iload_n 1, 1) := by decide +kernel
theorem dX11_wheelOf_2 : decode cX11_wheelOf 2 = .ok (.invokevirtual 149, 3) := by decide +kernel
theorem dX11_wheelOf_5 : decode cX11_wheelOf 5 = .ok (.istore_n 2, 1) := by decide +kernel
theorem dX11_wheelOf_6 : decode cX11_wheelOf 6 = .ok (.iload_n 2, 1) := by decide +kernel
theorem dX11_wheelOf_7 : decode cX11_wheelOf 7 = .ok (.invokestatic 152, 3) := by decide +kernel
theorem dX11_wheelOf_10 : decode cX11_wheelOf 10 = .ok (.ifCond .eq 13, 3) := by decide +kernel
theorem dX11_wheelOf_13 : decode cX11_wheelOf 13 = .ok (.new 138, 3) := by decide +kernel
theorem dX11_wheelOf_16 : decode cX11_wheelOf 16 = .ok (.dup, 1) := by decide +kernel
theorem dX11_wheelOf_17 : decode cX11_wheelOf 17 = .ok (.ldc 176, 2) := by decide +kernel
theorem dX11_wheelOf_19 : decode cX11_wheelOf 19 = .ok (.invokespecial 142, 3) := by decide +kernel
theorem dX11_wheelOf_22 : decode cX11_wheelOf 22 = .ok (.athrow, 1) := by decide +kernel
theorem dX11_wheelOf_23 : decode cX11_wheelOf 23 = .ok (.iload_n 2, 1) := by decide +kernel
theorem dX11_wheelOf_24 : decode cX11_wheelOf 24 = .ok (.invokestatic 178, 3) := by decide +kernel
theorem dX11_wheelOf_27 : decode cX11_wheelOf 27 = .ok (.ireturn, 1) := by decide +kernel
theorem dX11_noiseOn_0 : decode cX11_noiseOn 0 = .ok (.iload_n 1, 1) := by decide +kernel
theorem dX11_noiseOn_1 : decode cX11_noiseOn 1 = .ok (.invokestatic 181, 3) := by decide +kernel
theorem dX11_noiseOn_4 : decode cX11_noiseOn 4 = .ok (.aload_n 0, 1) := by decide +kernel
theorem dX11_noiseOn_5 : decode cX11_noiseOn 5 = .ok (.getfield 10, 3) := by decide +kernel
theorem dX11_noiseOn_8 : decode cX11_noiseOn 8 = .ok (.getfield 126, 3) := by decide +kernel
theorem dX11_noiseOn_11 : decode cX11_noiseOn 11 = .ok (.iload_n 1, 1) := by decide +kernel
theorem dX11_noiseOn_12 : decode cX11_noiseOn 12 = .ok (.invokevirtual 185, 3) := by decide +kernel
theorem dX11_noiseOn_15 : decode cX11_noiseOn 15 = .ok (.ifCond .ne 13, 3) := by decide +kernel
theorem dX11_noiseOn_18 : decode cX11_noiseOn 18 = .ok (.new 138, 3) := by decide +kernel
theorem dX11_noiseOn_21 : decode cX11_noiseOn 21 = .ok (.dup, 1) := by decide +kernel
theorem dX11_noiseOn_22 : decode cX11_noiseOn 22 = .ok (.ldc 188, 2) := by decide +kernel
theorem dX11_noiseOn_24 : decode cX11_noiseOn 24 = .ok (.invokespecial 142, 3) := by decide +kernel
theorem dX11_noiseOn_27 : decode cX11_noiseOn 27 = .ok (.athrow, 1) := by decide +kernel
theorem dX11_noiseOn_28 : decode cX11_noiseOn 28 = .ok (.aload_n 0, 1) := by decide +kernel
theorem dX11_noiseOn_29 : decode cX11_noiseOn 29 = .ok (.getfield 10, 3) := by decide +kernel
theorem dX11_noiseOn_32 : decode cX11_noiseOn 32 = .ok (.getfield 126, 3) := by decide +kernel
theorem dX11_noiseOn_35 : decode cX11_noiseOn 35 = .ok (.getfield 145, 3) := by decide +kernel
theorem dX11_noiseOn_38 : decode cX11_noiseOn 38 = .ok (.iload_n 1, 1) := by decide +kernel
theorem dX11_noiseOn_39 : decode cX11_noiseOn 39 = .ok (.invokestatic 190, 3) := by decide +kernel
theorem dX11_noiseOn_42 : decode cX11_noiseOn 42 = .ok (.iaload, 1) := by decide +kernel
theorem dX11_noiseOn_43 : decode cX11_noiseOn 43 = .ok (.ireturn, 1) := by decide +kernel
theorem dX11_gear_0 : decode cX11_gear 0 = .ok (.iload_n 1, 1) := by decide +kernel
theorem dX11_gear_1 : decode cX11_gear 1 = .ok (.invokestatic 181, 3) := by decide +kernel
theorem dX11_gear_4 : decode cX11_gear 4 = .ok (.aload_n 0, 1) := by decide +kernel
theorem dX11_gear_5 : decode cX11_gear 5 = .ok (.getfield 10, 3) := by decide +kernel
theorem dX11_gear_8 : decode cX11_gear 8 = .ok (.getfield 193, 3) := by decide +kernel
theorem dX11_gear_11 : decode cX11_gear 11 = .ok (.iload_n 1, 1) := by decide +kernel
theorem dX11_gear_12 : decode cX11_gear 12 = .ok (.iaload, 1) := by decide +kernel
theorem dX11_gear_13 : decode cX11_gear 13 = .ok (.ireturn, 1) := by decide +kernel
theorem dX11_wear_0 : decode cX11_wear 0 = .ok (.iload_n 1, 1) := by decide +kernel
theorem dX11_wear_1 : decode cX11_wear 1 = .ok (.invokestatic 181, 3) := by decide +kernel
theorem dX11_wear_4 : decode cX11_wear 4 = .ok (.aload_n 0, 1) := by decide +kernel
theorem dX11_wear_5 : decode cX11_wear 5 = .ok (.getfield 10, 3) := by decide +kernel
theorem dX11_wear_8 : decode cX11_wear 8 = .ok (.getfield 196, 3) := by decide +kernel
theorem dX11_wear_11 : decode cX11_wear 11 = .ok (.iload_n 1, 1) := by decide +kernel
theorem dX11_wear_12 : decode cX11_wear 12 = .ok (.iaload, 1) := by decide +kernel
theorem dX11_wear_13 : decode cX11_wear 13 = .ok (.ireturn, 1) := by decide +kernel
theorem dX11_isJammed_0 : decode cX11_isJammed 0 = .ok (.iload_n 1, 1) := by decide +kernel
theorem dX11_isJammed_1 : decode cX11_isJammed 1 = .ok (.invokestatic 181, 3) := by decide +kernel
theorem dX11_isJammed_4 : decode cX11_isJammed 4 = .ok (.aload_n 0, 1) := by decide +kernel
theorem dX11_isJammed_5 : decode cX11_isJammed 5 = .ok (.getfield 10, 3) := by decide +kernel
theorem dX11_isJammed_8 : decode cX11_isJammed 8 = .ok (.iload_n 1, 1) := by decide +kernel
theorem dX11_isJammed_9 : decode cX11_isJammed 9 = .ok (.invokevirtual 199, 3) := by decide +kernel
theorem dX11_isJammed_12 : decode cX11_isJammed 12 = .ok (.ireturn, 1) := by decide +kernel
theorem dX11_mesh_0 : decode cX11_mesh 0 = .ok (.iload_n 1, 1) := by decide +kernel
theorem dX11_mesh_1 : decode cX11_mesh 1 = .ok (.invokestatic 202, 3) := by decide +kernel
theorem dX11_mesh_4 : decode cX11_mesh 4 = .ok (.aload_n 0, 1) := by decide +kernel
theorem dX11_mesh_5 : decode cX11_mesh 5 = .ok (.getfield 10, 3) := by decide +kernel
theorem dX11_mesh_8 : decode cX11_mesh 8 = .ok (.getfield 205, 3) := by decide +kernel
theorem dX11_mesh_11 : decode cX11_mesh 11 = .ok (.iload_n 1, 1) := by decide +kernel
theorem dX11_mesh_12 : decode cX11_mesh 12 = .ok (.iaload, 1) := by decide +kernel
theorem dX11_mesh_13 : decode cX11_mesh 13 = .ok (.ireturn, 1) := by decide +kernel
theorem dX11_flour_0 : decode cX11_flour 0 = .ok (.iload_n 1, 1) := by decide +kernel
theorem dX11_flour_1 : decode cX11_flour 1 = .ok (.invokestatic 222, 3) := by decide +kernel
theorem dX11_flour_4 : decode cX11_flour 4 = .ok (.aload_n 0, 1) := by decide +kernel
theorem dX11_flour_5 : decode cX11_flour 5 = .ok (.getfield 10, 3) := by decide +kernel
theorem dX11_flour_8 : decode cX11_flour 8 = .ok (.getfield 208, 3) := by decide +kernel
theorem dX11_flour_11 : decode cX11_flour 11 = .ok (.getfield 225, 3) := by decide +kernel
theorem dX11_flour_14 : decode cX11_flour 14 = .ok (.iload_n 1, 1) := by decide +kernel
theorem dX11_flour_15 : decode cX11_flour 15 = .ok (.iaload, 1) := by decide +kernel
theorem dX11_flour_16 : decode cX11_flour 16 = .ok (.ireturn, 1) := by decide +kernel
theorem dX11_flourByRecords_0 : decode cX11_flourByRecords 0 = .ok (.iload_n 1, 1) := by decide +kernel
theorem dX11_flourByRecords_1 : decode cX11_flourByRecords 1 = .ok (.invokestatic 222, 3) := by decide +kernel
theorem dX11_flourByRecords_4 : decode cX11_flourByRecords 4 = .ok (.aload_n 0, 1) := by decide +kernel
theorem dX11_flourByRecords_5 : decode cX11_flourByRecords 5 = .ok (.getfield 10, 3) := by decide +kernel
theorem dX11_flourByRecords_8 : decode cX11_flourByRecords 8 = .ok (.getfield 208, 3) := by decide +kernel
theorem dX11_flourByRecords_11 : decode cX11_flourByRecords 11 = .ok (.iload_n 1, 1) := by decide +kernel
theorem dX11_flourByRecords_12 : decode cX11_flourByRecords 12 = .ok (.invokevirtual 228, 3) := by decide +kernel
theorem dX11_flourByRecords_15 : decode cX11_flourByRecords 15 = .ok (.ireturn, 1) := by decide +kernel
theorem dX11_shippedSacks_0 : decode cX11_shippedSacks 0 = .ok (.iload_n 1, 1) := by decide +kernel
theorem dX11_shippedSacks_1 : decode cX11_shippedSacks 1 = .ok (.invokestatic 222, 3) := by decide +kernel
theorem dX11_shippedSacks_4 : decode cX11_shippedSacks 4 = .ok (.aload_n 0, 1) := by decide +kernel
theorem dX11_shippedSacks_5 : decode cX11_shippedSacks 5 = .ok (.getfield 10, 3) := by decide +kernel
theorem dX11_shippedSacks_8 : decode cX11_shippedSacks 8 = .ok (.getfield 208, 3) := by decide +kernel
theorem dX11_shippedSacks_11 : decode cX11_shippedSacks 11 = .ok (.getfield 237, 3) := by decide +kernel
theorem dX11_shippedSacks_14 : decode cX11_shippedSacks 14 = .ok (.iload_n 1, 1) := by decide +kernel
theorem dX11_shippedSacks_15 : decode cX11_shippedSacks 15 = .ok (.iaload, 1) := by decide +kernel
theorem dX11_shippedSacks_16 : decode cX11_shippedSacks 16 = .ok (.ireturn, 1) := by decide +kernel
theorem dX11_recorded_0 : decode cX11_recorded 0 = .ok (.iload_n 1, 1) := by decide +kernel
theorem dX11_recorded_1 : decode cX11_recorded 1 = .ok (.invokestatic 202, 3) := by decide +kernel
theorem dX11_recorded_4 : decode cX11_recorded 4 = .ok (.iload_n 2, 1) := by decide +kernel
theorem dX11_recorded_5 : decode cX11_recorded 5 = .ok (.invokestatic 222, 3) := by decide +kernel
theorem dX11_recorded_8 : decode cX11_recorded 8 = .ok (.aload_n 0, 1) := by decide +kernel
theorem dX11_recorded_9 : decode cX11_recorded 9 = .ok (.getfield 10, 3) := by decide +kernel
theorem dX11_recorded_12 : decode cX11_recorded 12 = .ok (.getfield 208, 3) := by decide +kernel
theorem dX11_recorded_15 : decode cX11_recorded 15 = .ok (.getfield 240, 3) := by decide +kernel
theorem dX11_recorded_18 : decode cX11_recorded 18 = .ok (.iload_n 1, 1) := by decide +kernel
theorem dX11_recorded_19 : decode cX11_recorded 19 = .ok (.iload_n 2, 1) := by decide +kernel
theorem dX11_recorded_20 : decode cX11_recorded 20 = .ok (.invokestatic 243, 3) := by decide +kernel
theorem dX11_recorded_23 : decode cX11_recorded 23 = .ok (.iaload, 1) := by decide +kernel
theorem dX11_recorded_24 : decode cX11_recorded 24 = .ok (.ireturn, 1) := by decide +kernel
theorem dX11_groundTotal_0 : decode cX11_groundTotal 0 = .ok (.aload_n 0, 1) := by decide +kernel
theorem dX11_groundTotal_1 : decode cX11_groundTotal 1 = .ok (.getfield 10, 3) := by decide +kernel
theorem dX11_groundTotal_4 : decode cX11_groundTotal 4 = .ok (.getfield 208, 3) := by decide +kernel
theorem dX11_groundTotal_7 : decode cX11_groundTotal 7 = .ok (.getfield 246, 3) := by decide +kernel
theorem dX11_groundTotal_10 : decode cX11_groundTotal 10 = .ok (.ireturn, 1) := by decide +kernel
theorem dX11_groundByParts_0 : decode cX11_groundByParts 0 = .ok (.aload_n 0, 1) := by decide +kernel
theorem dX11_groundByParts_1 : decode cX11_groundByParts 1 = .ok (.getfield 10, 3) := by decide +kernel
theorem dX11_groundByParts_4 : decode cX11_groundByParts 4 = .ok (.getfield 208, 3) := by decide +kernel
theorem dX11_groundByParts_7 : decode cX11_groundByParts 7 = .ok (.invokevirtual 249, 3) := by decide +kernel
theorem dX11_groundByParts_10 : decode cX11_groundByParts 10 = .ok (.ireturn, 1) := by decide +kernel
theorem dX11_lostInSieves_0 : decode cX11_lostInSieves 0 = .ok (.aload_n 0, 1) := by decide +kernel
theorem dX11_lostInSieves_1 : decode cX11_lostInSieves 1 = .ok (.getfield 10, 3) := by decide +kernel
theorem dX11_lostInSieves_4 : decode cX11_lostInSieves 4 = .ok (.getfield 208, 3) := by decide +kernel
theorem dX11_lostInSieves_7 : decode cX11_lostInSieves 7 = .ok (.getfield 252, 3) := by decide +kernel
theorem dX11_lostInSieves_10 : decode cX11_lostInSieves 10 = .ok (.ireturn, 1) := by decide +kernel
theorem dX11_lostForRoom_0 : decode cX11_lostForRoom 0 = .ok (.aload_n 0, 1) := by decide +kernel
theorem dX11_lostForRoom_1 : decode cX11_lostForRoom 1 = .ok (.getfield 10, 3) := by decide +kernel
theorem dX11_lostForRoom_4 : decode cX11_lostForRoom 4 = .ok (.getfield 208, 3) := by decide +kernel
theorem dX11_lostForRoom_7 : decode cX11_lostForRoom 7 = .ok (.getfield 255, 3) := by decide +kernel
theorem dX11_lostForRoom_10 : decode cX11_lostForRoom 10 = .ok (.ireturn, 1) := by decide +kernel
theorem dX11_stepsUntilDone_0 : decode cX11_stepsUntilDone 0 = .ok (.iload_n 1, 1) := by decide +kernel
theorem dX11_stepsUntilDone_1 : decode cX11_stepsUntilDone 1 = .ok (.invokestatic 181, 3) := by decide +kernel
theorem dX11_stepsUntilDone_4 : decode cX11_stepsUntilDone 4 = .ok (.aload_n 0, 1) := by decide +kernel
theorem dX11_stepsUntilDone_5 : decode cX11_stepsUntilDone 5 = .ok (.iload_n 1, 1) := by decide +kernel
theorem dX11_stepsUntilDone_6 : decode cX11_stepsUntilDone 6 = .ok (.invokevirtual 258, 3) := by decide +kernel
theorem dX11_stepsUntilDone_9 : decode cX11_stepsUntilDone 9 = .ok (.invokestatic 261, 3) := by decide +kernel
theorem dX11_stepsUntilDone_12 : decode cX11_stepsUntilDone 12 = .ok (.ireturn, 1) := by decide +kernel
theorem dX11_stepsUntilJam_0 : decode cX11_stepsUntilJam 0 = .ok (.iload_n 1, 1) := by decide +kernel
theorem dX11_stepsUntilJam_1 : decode cX11_stepsUntilJam 1 = .ok (.invokestatic 181, 3) := by decide +kernel
theorem dX11_stepsUntilJam_4 : decode cX11_stepsUntilJam 4 = .ok (.aload_n 0, 1) := by decide +kernel
theorem dX11_stepsUntilJam_5 : decode cX11_stepsUntilJam 5 = .ok (.iload_n 1, 1) := by decide +kernel
theorem dX11_stepsUntilJam_6 : decode cX11_stepsUntilJam 6 = .ok (.invokevirtual 267, 3) := by decide +kernel
theorem dX11_stepsUntilJam_9 : decode cX11_stepsUntilJam 9 = .ok (.invokestatic 261, 3) := by decide +kernel
theorem dX11_stepsUntilJam_12 : decode cX11_stepsUntilJam 12 = .ok (.ireturn, 1) := by decide +kernel
theorem dX11_groundWithin_0 : decode cX11_groundWithin 0 = .ok (.iload_n 1, 1) := by decide +kernel
theorem dX11_groundWithin_1 : decode cX11_groundWithin 1 = .ok (.ifCond .lt 9, 3) := by decide +kernel
theorem dX11_groundWithin_4 : decode cX11_groundWithin 4 = .ok (.iload_n 1, 1) := by decide +kernel
theorem dX11_groundWithin_5 : decode cX11_groundWithin 5 = .ok (.bipush 60, 2) := by decide +kernel
theorem dX11_groundWithin_7 : decode cX11_groundWithin 7 = .ok (.if_icmp .le 14, 3) := by decide +kernel
theorem dX11_groundWithin_10 : decode cX11_groundWithin 10 = .ok (.new 270, 3) := by decide +kernel
theorem dX11_groundWithin_13 : decode cX11_groundWithin 13 = .ok (.dup, 1) := by decide +kernel
theorem dX11_groundWithin_14 : decode cX11_groundWithin 14 = .ok (.ldc_w 272, 3) := by decide +kernel
theorem dX11_groundWithin_17 : decode cX11_groundWithin 17 = .ok (.invokespecial 274, 3) := by decide +kernel
theorem dX11_groundWithin_20 : decode cX11_groundWithin 20 = .ok (.athrow, 1) := by decide +kernel
theorem dX11_groundWithin_21 : decode cX11_groundWithin 21 = .ok (.aload_n 0, 1) := by decide +kernel
theorem dX11_groundWithin_22 : decode cX11_groundWithin 22 = .ok (.getfield 16, 3) := by decide +kernel
theorem dX11_groundWithin_25 : decode cX11_groundWithin 25 = .ok (.aload_n 0, 1) := by decide +kernel
theorem dX11_groundWithin_26 : decode cX11_groundWithin 26 = .ok (.getfield 10, 3) := by decide +kernel
theorem dX11_groundWithin_29 : decode cX11_groundWithin 29 = .ok (.invokevirtual 275, 3) := by decide +kernel
theorem dX11_groundWithin_32 : decode cX11_groundWithin 32 = .ok (.aload_n 0, 1) := by decide +kernel
theorem dX11_groundWithin_33 : decode cX11_groundWithin 33 = .ok (.getfield 16, 3) := by decide +kernel
theorem dX11_groundWithin_36 : decode cX11_groundWithin 36 = .ok (.iload_n 1, 1) := by decide +kernel
theorem dX11_groundWithin_37 : decode cX11_groundWithin 37 = .ok (.invokevirtual 120, 3) := by decide +kernel
theorem dX11_groundWithin_40 : decode cX11_groundWithin 40 = .ok (.ireturn, 1) := by decide +kernel
theorem dX11_doneCount_0 : decode cX11_doneCount 0 = .ok (.aload_n 0, 1) := by decide +kernel
theorem dX11_doneCount_1 : decode cX11_doneCount 1 = .ok (.getfield 10, 3) := by decide +kernel
theorem dX11_doneCount_4 : decode cX11_doneCount 4 = .ok (.getfield 278, 3) := by decide +kernel
theorem dX11_doneCount_7 : decode cX11_doneCount 7 = .ok (.getfield 282, 3) := by decide +kernel
theorem dX11_doneCount_10 : decode cX11_doneCount 10 = .ok (.ireturn, 1) := by decide +kernel
theorem dX11_doneNumber_0 : decode cX11_doneNumber 0 = .ok (.aload_n 0, 1) := by decide +kernel
theorem dX11_doneNumber_1 : decode cX11_doneNumber 1 = .ok (.getfield 10, 3) := by decide +kernel
theorem dX11_doneNumber_4 : decode cX11_doneNumber 4 = .ok (.getfield 278, 3) := by decide +kernel
theorem dX11_doneNumber_7 : decode cX11_doneNumber 7 = .ok (.getfield 287, 3) := by decide +kernel
theorem dX11_doneNumber_10 : decode cX11_doneNumber 10 = .ok (.aload_n 0, 1) := by decide +kernel
theorem dX11_doneNumber_11 : decode cX11_doneNumber 11 = .ok (.iload_n 1, 1) := by decide +kernel
theorem dX11_doneNumber_12 : decode cX11_doneNumber 12 = .ok (.invokevirtual 288, 3) := by decide +kernel
theorem dX11_doneNumber_15 : decode cX11_doneNumber 15 = .ok (.iaload, 1) := by decide +kernel
theorem dX11_doneNumber_16 : decode cX11_doneNumber 16 = .ok (.ireturn, 1) := by decide +kernel
theorem dX11_doneWheel_0 : decode cX11_doneWheel 0 = .ok (.aload_n 0, 1) := by decide +kernel
theorem dX11_doneWheel_1 : decode cX11_doneWheel 1 = .ok (.getfield 10, 3) := by decide +kernel
theorem dX11_doneWheel_4 : decode cX11_doneWheel 4 = .ok (.getfield 278, 3) := by decide +kernel
theorem dX11_doneWheel_7 : decode cX11_doneWheel 7 = .ok (.getfield 291, 3) := by decide +kernel
theorem dX11_doneWheel_10 : decode cX11_doneWheel 10 = .ok (.aload_n 0, 1) := by decide +kernel
theorem dX11_doneWheel_11 : decode cX11_doneWheel 11 = .ok (.iload_n 1, 1) := by decide +kernel
theorem dX11_doneWheel_12 : decode cX11_doneWheel 12 = .ok (.invokevirtual 288, 3) := by decide +kernel
theorem dX11_doneWheel_15 : decode cX11_doneWheel 15 = .ok (.iaload, 1) := by decide +kernel
theorem dX11_doneWheel_16 : decode cX11_doneWheel 16 = .ok (.ireturn, 1) := by decide +kernel
theorem dX11_doneTime_0 : decode cX11_doneTime 0 = .ok (.aload_n 0, 1) := by decide +kernel
theorem dX11_doneTime_1 : decode cX11_doneTime 1 = .ok (.getfield 10, 3) := by decide +kernel
theorem dX11_doneTime_4 : decode cX11_doneTime 4 = .ok (.getfield 278, 3) := by decide +kernel
theorem dX11_doneTime_7 : decode cX11_doneTime 7 = .ok (.getfield 294, 3) := by decide +kernel
theorem dX11_doneTime_10 : decode cX11_doneTime 10 = .ok (.aload_n 0, 1) := by decide +kernel
theorem dX11_doneTime_11 : decode cX11_doneTime 11 = .ok (.iload_n 1, 1) := by decide +kernel
theorem dX11_doneTime_12 : decode cX11_doneTime 12 = .ok (.invokevirtual 288, 3) := by decide +kernel
theorem dX11_doneTime_15 : decode cX11_doneTime 15 = .ok (.iaload, 1) := by decide +kernel
theorem dX11_doneTime_16 : decode cX11_doneTime 16 = .ok (.ireturn, 1) := by decide +kernel
theorem dX11_wheelByWear_0 : decode cX11_wheelByWear 0 = .ok (.iconst 0, 1) := by decide +kernel
theorem dX11_wheelByWear_1 : decode cX11_wheelByWear 1 = .ok (.istore_n 2, 1) := by decide +kernel
theorem dX11_wheelByWear_2 : decode cX11_wheelByWear 2 = .ok (.iload_n 2, 1) := by decide +kernel
theorem dX11_wheelByWear_3 : decode cX11_wheelByWear 3 = .ok (.iconst 3, 1) := by decide +kernel
theorem dX11_wheelByWear_4 : decode cX11_wheelByWear 4 = .ok (.if_icmp .ge 23, 3) := by decide +kernel
theorem dX11_wheelByWear_7 : decode cX11_wheelByWear 7 = .ok (.aload_n 0, 1) := by decide +kernel
theorem dX11_wheelByWear_8 : decode cX11_wheelByWear 8 = .ok (.getfield 10, 3) := by decide +kernel
theorem dX11_wheelByWear_11 : decode cX11_wheelByWear 11 = .ok (.iload_n 2, 1) := by decide +kernel
theorem dX11_wheelByWear_12 : decode cX11_wheelByWear 12 = .ok (.invokevirtual 297, 3) := by decide +kernel
theorem dX11_wheelByWear_15 : decode cX11_wheelByWear 15 = .ok (.iload_n 1, 1) := by decide +kernel
theorem dX11_wheelByWear_16 : decode cX11_wheelByWear 16 = .ok (.if_icmp .ne 5, 3) := by decide +kernel
theorem dX11_wheelByWear_19 : decode cX11_wheelByWear 19 = .ok (.iload_n 2, 1) := by decide +kernel
theorem dX11_wheelByWear_20 : decode cX11_wheelByWear 20 = .ok (.ireturn, 1) := by decide +kernel
theorem dX11_wheelByWear_21 : decode cX11_wheelByWear 21 = .ok (.iinc 2 1, 3) := by decide +kernel
theorem dX11_wheelByWear_24 : decode cX11_wheelByWear 24 = .ok (.goto (-22), 3) := by decide +kernel
theorem dX11_wheelByWear_27 : decode cX11_wheelByWear 27 = .ok (.new 138, 3) := by decide +kernel
theorem dX11_wheelByWear_30 : decode cX11_wheelByWear 30 = .ok (.dup, 1) := by decide +kernel
theorem dX11_wheelByWear_31 : decode cX11_wheelByWear 31 = .ok (.ldc 140, 2) := by decide +kernel
theorem dX11_wheelByWear_33 : decode cX11_wheelByWear 33 = .ok (.invokespecial 142, 3) := by decide +kernel
theorem dX11_wheelByWear_36 : decode cX11_wheelByWear 36 = .ok (.athrow, 1) := by decide +kernel
theorem dX11_bandByGrains_0 : decode cX11_bandByGrains 0 = .ok (.iconst 0, 1) := by decide +kernel
theorem dX11_bandByGrains_1 : decode cX11_bandByGrains 1 = .ok (.istore_n 2, 1) := by decide +kernel
theorem dX11_bandByGrains_2 : decode cX11_bandByGrains 2 = .ok (.iload_n 2, 1) := by decide +kernel
theorem dX11_bandByGrains_3 : decode cX11_bandByGrains 3 = .ok (.bipush 8, 2) := by decide +kernel
theorem dX11_bandByGrains_5 : decode cX11_bandByGrains 5 = .ok (.if_icmp .ge 23, 3) := by decide +kernel
theorem dX11_bandByGrains_8 : decode cX11_bandByGrains 8 = .ok (.aload_n 0, 1) := by decide +kernel
theorem dX11_bandByGrains_9 : decode cX11_bandByGrains 9 = .ok (.getfield 10, 3) := by decide +kernel
theorem dX11_bandByGrains_12 : decode cX11_bandByGrains 12 = .ok (.iload_n 2, 1) := by decide +kernel
theorem dX11_bandByGrains_13 : decode cX11_bandByGrains 13 = .ok (.invokevirtual 300, 3) := by decide +kernel
theorem dX11_bandByGrains_16 : decode cX11_bandByGrains 16 = .ok (.iload_n 1, 1) := by decide +kernel
theorem dX11_bandByGrains_17 : decode cX11_bandByGrains 17 = .ok (.if_icmp .ne 5, 3) := by decide +kernel
theorem dX11_bandByGrains_20 : decode cX11_bandByGrains 20 = .ok (.iload_n 2, 1) := by decide +kernel
theorem dX11_bandByGrains_21 : decode cX11_bandByGrains 21 = .ok (.ireturn, 1) := by decide +kernel
theorem dX11_bandByGrains_22 : decode cX11_bandByGrains 22 = .ok (.iinc 2 1, 3) := by decide +kernel
theorem dX11_bandByGrains_25 : decode cX11_bandByGrains 25 = .ok (.goto (-23), 3) := by decide +kernel
theorem dX11_bandByGrains_28 : decode cX11_bandByGrains 28 = .ok (.new 138, 3) := by decide +kernel
theorem dX11_bandByGrains_31 : decode cX11_bandByGrains 31 = .ok (.dup, 1) := by decide +kernel
theorem dX11_bandByGrains_32 : decode cX11_bandByGrains 32 = .ok (.ldc 140, 2) := by decide +kernel
theorem dX11_bandByGrains_34 : decode cX11_bandByGrains 34 = .ok (.invokespecial 142, 3) := by decide +kernel
theorem dX11_bandByGrains_37 : decode cX11_bandByGrains 37 = .ok (.athrow, 1) := by decide +kernel
theorem dX11_meanLoudness_0 : decode cX11_meanLoudness 0 = .ok (.aload_n 0, 1) := by decide +kernel
theorem dX11_meanLoudness_1 : decode cX11_meanLoudness 1 = .ok (.getfield 10, 3) := by decide +kernel
theorem dX11_meanLoudness_4 : decode cX11_meanLoudness 4 = .ok (.getfield 126, 3) := by decide +kernel
theorem dX11_meanLoudness_7 : decode cX11_meanLoudness 7 = .ok (.getfield 130, 3) := by decide +kernel
theorem dX11_meanLoudness_10 : decode cX11_meanLoudness 10 = .ok (.istore_n 1, 1) := by decide +kernel
theorem dX11_meanLoudness_11 : decode cX11_meanLoudness 11 = .ok (.iload_n 1, 1) := by decide +kernel
theorem dX11_meanLoudness_12 : decode cX11_meanLoudness 12 = .ok (.ifCond .gt 14, 3) := by decide +kernel
theorem dX11_meanLoudness_15 : decode cX11_meanLoudness 15 = .ok (.new 303, 3) := by decide +kernel
theorem dX11_meanLoudness_18 : decode cX11_meanLoudness 18 = .ok (.dup, 1) := by decide +kernel
theorem dX11_meanLoudness_19 : decode cX11_meanLoudness 19 = .ok (.ldc_w 305, 3) := by decide +kernel
theorem dX11_meanLoudness_22 : decode cX11_meanLoudness 22 = .ok (.invokespecial 307, 3) := by decide +kernel
theorem dX11_meanLoudness_25 : decode cX11_meanLoudness 25 = .ok (.athrow, 1) := by decide +kernel
theorem dX11_meanLoudness_26 : decode cX11_meanLoudness 26 = .ok (.aload_n 0, 1) := by decide +kernel
theorem dX11_meanLoudness_27 : decode cX11_meanLoudness 27 = .ok (.getfield 10, 3) := by decide +kernel
theorem dX11_meanLoudness_30 : decode cX11_meanLoudness 30 = .ok (.getfield 126, 3) := by decide +kernel
theorem dX11_meanLoudness_33 : decode cX11_meanLoudness 33 = .ok (.invokevirtual 308, 3) := by decide +kernel
theorem dX11_meanLoudness_36 : decode cX11_meanLoudness 36 = .ok (.i2d, 1) := by decide +kernel
theorem dX11_meanLoudness_37 : decode cX11_meanLoudness 37 = .ok (.iload_n 1, 1) := by decide +kernel
theorem dX11_meanLoudness_38 : decode cX11_meanLoudness 38 = .ok (.i2d, 1) := by decide +kernel
theorem dX11_meanLoudness_39 : decode cX11_meanLoudness 39 = .ok (.ddiv, 1) := by decide +kernel
theorem dX11_meanLoudness_40 : decode cX11_meanLoudness 40 = .ok (.dreturn, 1) := by decide +kernel
theorem dX11_isConsistent_0 : decode cX11_isConsistent 0 = .ok (.aload_n 0, 1) := by decide +kernel
theorem dX11_isConsistent_1 : decode cX11_isConsistent 1 = .ok (.getfield 10, 3) := by decide +kernel
theorem dX11_isConsistent_4 : decode cX11_isConsistent 4 = .ok (.getfield 208, 3) := by decide +kernel
theorem dX11_isConsistent_7 : decode cX11_isConsistent 7 = .ok (.getfield 246, 3) := by decide +kernel
theorem dX11_isConsistent_10 : decode cX11_isConsistent 10 = .ok (.aload_n 0, 1) := by decide +kernel
theorem dX11_isConsistent_11 : decode cX11_isConsistent 11 = .ok (.getfield 10, 3) := by decide +kernel
theorem dX11_isConsistent_14 : decode cX11_isConsistent 14 = .ok (.getfield 208, 3) := by decide +kernel
theorem dX11_isConsistent_17 : decode cX11_isConsistent 17 = .ok (.invokevirtual 249, 3) := by decide +kernel
theorem dX11_isConsistent_20 : decode cX11_isConsistent 20 = .ok (.if_icmp .ne 28, 3) := by decide +kernel
theorem dX11_isConsistent_23 : decode cX11_isConsistent 23 = .ok (.aload_n 0, 1) := by decide +kernel
theorem dX11_isConsistent_24 : decode cX11_isConsistent 24 = .ok (.invokevirtual 316, 3) := by decide +kernel
theorem dX11_isConsistent_27 : decode cX11_isConsistent 27 = .ok (.ifCond .eq 21, 3) := by decide +kernel
theorem dX11_isConsistent_30 : decode cX11_isConsistent 30 = .ok (.aload_n 0, 1) := by decide +kernel
theorem dX11_isConsistent_31 : decode cX11_isConsistent 31 = .ok (.invokevirtual 320, 3) := by decide +kernel
theorem dX11_isConsistent_34 : decode cX11_isConsistent 34 = .ok (.ifCond .eq 14, 3) := by decide +kernel
theorem dX11_isConsistent_37 : decode cX11_isConsistent 37 = .ok (.aload_n 0, 1) := by decide +kernel
theorem dX11_isConsistent_38 : decode cX11_isConsistent 38 = .ok (.invokevirtual 323, 3) := by decide +kernel
theorem dX11_isConsistent_41 : decode cX11_isConsistent 41 = .ok (.ifCond .eq 7, 3) := by decide +kernel
theorem dX11_isConsistent_44 : decode cX11_isConsistent 44 = .ok (.iconst 1, 1) := by decide +kernel
theorem dX11_isConsistent_45 : decode cX11_isConsistent 45 = .ok (.goto 4, 3) := by decide +kernel
theorem dX11_isConsistent_48 : decode cX11_isConsistent 48 = .ok (.iconst 0, 1) := by decide +kernel
theorem dX11_isConsistent_49 : decode cX11_isConsistent 49 = .ok (.ireturn, 1) := by decide +kernel
theorem dX11_type_0 : decode cX11_type 0 = .ok (.iload_n 1, 1) := by decide +kernel
theorem dX11_type_1 : decode cX11_type 1 = .ok (.bipush 32, 2) := by decide +kernel
theorem dX11_type_3 : decode cX11_type 3 = .ok (.if_icmp .lt 9, 3) := by decide +kernel
theorem dX11_type_6 : decode cX11_type 6 = .ok (.iload_n 1, 1) := by decide +kernel
theorem dX11_type_7 : decode cX11_type 7 = .ok (.bipush 126, 2) := by decide +kernel
theorem dX11_type_9 : decode cX11_type 9 = .ok (.if_icmp .le 14, 3) := by decide +kernel
theorem dX11_type_12 : decode cX11_type 12 = .ok (.new 270, 3) := by decide +kernel
theorem dX11_type_15 : decode cX11_type 15 = .ok (.dup, 1) := by decide +kernel
theorem dX11_type_16 : decode cX11_type 16 = .ok (.ldc_w 348, 3) := by decide +kernel
theorem dX11_type_19 : decode cX11_type 19 = .ok (.invokespecial 274, 3) := by decide +kernel
theorem dX11_type_22 : decode cX11_type 22 = .ok (.athrow, 1) := by decide +kernel
theorem dX11_type_23 : decode cX11_type 23 = .ok (.aload_n 0, 1) := by decide +kernel
theorem dX11_type_24 : decode cX11_type 24 = .ok (.getfield 43, 3) := by decide +kernel
theorem dX11_type_27 : decode cX11_type 27 = .ok (.invokevirtual 350, 3) := by decide +kernel
theorem dX11_type_30 : decode cX11_type 30 = .ok (.ifCond .eq 14, 3) := by decide +kernel
theorem dX11_type_33 : decode cX11_type 33 = .ok (.new 156, 3) := by decide +kernel
theorem dX11_type_36 : decode cX11_type 36 = .ok (.dup, 1) := by decide +kernel
theorem dX11_type_37 : decode cX11_type 37 = .ok (.ldc_w 353, 3) := by decide +kernel
theorem dX11_type_40 : decode cX11_type 40 = .ok (.invokespecial 160, 3) := by decide +kernel
theorem dX11_type_43 : decode cX11_type 43 = .ok (.athrow, 1) := by decide +kernel
theorem dX11_type_44 : decode cX11_type 44 = .ok (.aload_n 0, 1) := by decide +kernel
theorem dX11_type_45 : decode cX11_type 45 = .ok (.getfield 43, 3) := by decide +kernel
theorem dX11_type_48 : decode cX11_type 48 = .ok (.iload_n 1, 1) := by decide +kernel
theorem dX11_type_49 : decode cX11_type 49 = .ok (.invokevirtual 355, 3) := by decide +kernel
theorem dX11_type_52 : decode cX11_type 52 = .ok (.ireturn, 1) := by decide +kernel
theorem dX11_runScript_0 : decode cX11_runScript 0 = .ok (.aload_n 0, 1) := by decide +kernel
theorem dX11_runScript_1 : decode cX11_runScript 1 = .ok (.getfield 43, 3) := by decide +kernel
theorem dX11_runScript_4 : decode cX11_runScript 4 = .ok (.invokevirtual 358, 3) := by decide +kernel
theorem dX11_runScript_7 : decode cX11_runScript 7 = .ok (.istore_n 1, 1) := by decide +kernel
theorem dX11_runScript_8 : decode cX11_runScript 8 = .ok (.aload_n 0, 1) := by decide +kernel
theorem dX11_runScript_9 : decode cX11_runScript 9 = .ok (.getfield 43, 3) := by decide +kernel
theorem dX11_runScript_12 : decode cX11_runScript 12 = .ok (.invokevirtual 361, 3) := by decide +kernel
theorem dX11_runScript_15 : decode cX11_runScript 15 = .ok (.iload_n 1, 1) := by decide +kernel
theorem dX11_runScript_16 : decode cX11_runScript 16 = .ok (.ifCond .ne 25, 3) := by decide +kernel
theorem dX11_runScript_19 : decode cX11_runScript 19 = .ok (.aload_n 0, 1) := by decide +kernel
theorem dX11_runScript_20 : decode cX11_runScript 20 = .ok (.aload_n 0, 1) := by decide +kernel
theorem dX11_runScript_21 : decode cX11_runScript 21 = .ok (.getfield 43, 3) := by decide +kernel
theorem dX11_runScript_24 : decode cX11_runScript 24 = .ok (.getfield 364, 3) := by decide +kernel
theorem dX11_runScript_27 : decode cX11_runScript 27 = .ok (.putfield 54, 3) := by decide +kernel
theorem dX11_runScript_30 : decode cX11_runScript 30 = .ok (.new 270, 3) := by decide +kernel
theorem dX11_runScript_33 : decode cX11_runScript 33 = .ok (.dup, 1) := by decide +kernel
theorem dX11_runScript_34 : decode cX11_runScript 34 = .ok (.ldc_w 367, 3) := by decide +kernel
theorem dX11_runScript_37 : decode cX11_runScript 37 = .ok (.invokespecial 274, 3) := by decide +kernel
theorem dX11_runScript_40 : decode cX11_runScript 40 = .ok (.athrow, 1) := by decide +kernel
theorem dX11_runScript_41 : decode cX11_runScript 41 = .ok (.aload_n 0, 1) := by decide +kernel
theorem dX11_runScript_42 : decode cX11_runScript 42 = .ok (.invokevirtual 369, 3) := by decide +kernel
theorem dX11_runScript_45 : decode cX11_runScript 45 = .ok (.istore_n 2, 1) := by decide +kernel
theorem dX11_runScript_46 : decode cX11_runScript 46 = .ok (.iload_n 2, 1) := by decide +kernel
theorem dX11_runScript_47 : decode cX11_runScript 47 = .ok (.iconst (-1), 1) := by decide +kernel
theorem dX11_runScript_48 : decode cX11_runScript 48 = .ok (.if_icmp .eq 19, 3) := by decide +kernel
theorem dX11_runScript_51 : decode cX11_runScript 51 = .ok (.aload_n 0, 1) := by decide +kernel
theorem dX11_runScript_52 : decode cX11_runScript 52 = .ok (.iload_n 2, 1) := by decide +kernel
theorem dX11_runScript_53 : decode cX11_runScript 53 = .ok (.putfield 58, 3) := by decide +kernel
theorem dX11_runScript_56 : decode cX11_runScript 56 = .ok (.new 156, 3) := by decide +kernel
theorem dX11_runScript_59 : decode cX11_runScript 59 = .ok (.dup, 1) := by decide +kernel
theorem dX11_runScript_60 : decode cX11_runScript 60 = .ok (.ldc_w 372, 3) := by decide +kernel
theorem dX11_runScript_63 : decode cX11_runScript 63 = .ok (.invokespecial 160, 3) := by decide +kernel
theorem dX11_runScript_66 : decode cX11_runScript 66 = .ok (.athrow, 1) := by decide +kernel
theorem dX11_runScript_67 : decode cX11_runScript 67 = .ok (.aload_n 0, 1) := by decide +kernel
theorem dX11_runScript_68 : decode cX11_runScript 68 = .ok (.getfield 29, 3) := by decide +kernel
theorem dX11_runScript_71 : decode cX11_runScript 71 = .ok (.aload_n 0, 1) := by decide +kernel
theorem dX11_runScript_72 : decode cX11_runScript 72 = .ok (.getfield 10, 3) := by decide +kernel
theorem dX11_runScript_75 : decode cX11_runScript 75 = .ok (.invokevirtual 69, 3) := by decide +kernel
theorem dX11_runScript_78 : decode cX11_runScript 78 = .ok (.aload_n 0, 1) := by decide +kernel
theorem dX11_runScript_79 : decode cX11_runScript 79 = .ok (.getfield 10, 3) := by decide +kernel
theorem dX11_runScript_82 : decode cX11_runScript 82 = .ok (.aload_n 0, 1) := by decide +kernel
theorem dX11_runScript_83 : decode cX11_runScript 83 = .ok (.getfield 16, 3) := by decide +kernel
theorem dX11_runScript_86 : decode cX11_runScript 86 = .ok (.invokevirtual 275, 3) := by decide +kernel
theorem dX11_runScript_89 : decode cX11_runScript 89 = .ok (.aload_n 0, 1) := by decide +kernel
theorem dX11_runScript_90 : decode cX11_runScript 90 = .ok (.getfield 43, 3) := by decide +kernel
theorem dX11_runScript_93 : decode cX11_runScript 93 = .ok (.getfield 374, 3) := by decide +kernel
theorem dX11_runScript_96 : decode cX11_runScript 96 = .ok (.ireturn, 1) := by decide +kernel
theorem dX11_errorPosition_0 : decode cX11_errorPosition 0 = .ok (.aload_n 0, 1) := by decide +kernel
theorem dX11_errorPosition_1 : decode cX11_errorPosition 1 = .ok (.getfield 54, 3) := by decide +kernel
theorem dX11_errorPosition_4 : decode cX11_errorPosition 4 = .ok (.iconst (-1), 1) := by decide +kernel
theorem dX11_errorPosition_5 : decode cX11_errorPosition 5 = .ok (.if_icmp .ne 14, 3) := by decide +kernel
theorem dX11_errorPosition_8 : decode cX11_errorPosition 8 = .ok (.new 138, 3) := by decide +kernel
theorem dX11_errorPosition_11 : decode cX11_errorPosition 11 = .ok (.dup, 1) := by decide +kernel
theorem dX11_errorPosition_12 : decode cX11_errorPosition 12 = .ok (.ldc_w 377, 3) := by decide +kernel
theorem dX11_errorPosition_15 : decode cX11_errorPosition 15 = .ok (.invokespecial 142, 3) := by decide +kernel
theorem dX11_errorPosition_18 : decode cX11_errorPosition 18 = .ok (.athrow, 1) := by decide +kernel
theorem dX11_errorPosition_19 : decode cX11_errorPosition 19 = .ok (.aload_n 0, 1) := by decide +kernel
theorem dX11_errorPosition_20 : decode cX11_errorPosition 20 = .ok (.getfield 54, 3) := by decide +kernel
theorem dX11_errorPosition_23 : decode cX11_errorPosition 23 = .ok (.ireturn, 1) := by decide +kernel
theorem dX11_failedCommand_0 : decode cX11_failedCommand 0 = .ok (.aload_n 0, 1) := by decide +kernel
theorem dX11_failedCommand_1 : decode cX11_failedCommand 1 = .ok (.getfield 58, 3) := by decide +kernel
theorem dX11_failedCommand_4 : decode cX11_failedCommand 4 = .ok (.iconst (-1), 1) := by decide +kernel
theorem dX11_failedCommand_5 : decode cX11_failedCommand 5 = .ok (.if_icmp .ne 14, 3) := by decide +kernel
theorem dX11_failedCommand_8 : decode cX11_failedCommand 8 = .ok (.new 138, 3) := by decide +kernel
theorem dX11_failedCommand_11 : decode cX11_failedCommand 11 = .ok (.dup, 1) := by decide +kernel
theorem dX11_failedCommand_12 : decode cX11_failedCommand 12 = .ok (.ldc_w 377, 3) := by decide +kernel
theorem dX11_failedCommand_15 : decode cX11_failedCommand 15 = .ok (.invokespecial 142, 3) := by decide +kernel
theorem dX11_failedCommand_18 : decode cX11_failedCommand 18 = .ok (.athrow, 1) := by decide +kernel
theorem dX11_failedCommand_19 : decode cX11_failedCommand 19 = .ok (.aload_n 0, 1) := by decide +kernel
theorem dX11_failedCommand_20 : decode cX11_failedCommand 20 = .ok (.getfield 58, 3) := by decide +kernel
theorem dX11_failedCommand_23 : decode cX11_failedCommand 23 = .ok (.ireturn, 1) := by decide +kernel
theorem dX11_undo_0 : decode cX11_undo 0 = .ok (.aload_n 0, 1) := by decide +kernel
theorem dX11_undo_1 : decode cX11_undo 1 = .ok (.getfield 29, 3) := by decide +kernel
theorem dX11_undo_4 : decode cX11_undo 4 = .ok (.getfield 379, 3) := by decide +kernel
theorem dX11_undo_7 : decode cX11_undo 7 = .ok (.ifCond .gt 14, 3) := by decide +kernel
theorem dX11_undo_10 : decode cX11_undo 10 = .ok (.new 156, 3) := by decide +kernel
theorem dX11_undo_13 : decode cX11_undo 13 = .ok (.dup, 1) := by decide +kernel
theorem dX11_undo_14 : decode cX11_undo 14 = .ok (.ldc_w 380, 3) := by decide +kernel
theorem dX11_undo_17 : decode cX11_undo 17 = .ok (.invokespecial 160, 3) := by decide +kernel
theorem dX11_undo_20 : decode cX11_undo 20 = .ok (.athrow, 1) := by decide +kernel
theorem dX11_undo_21 : decode cX11_undo 21 = .ok (.aload_n 0, 1) := by decide +kernel
theorem dX11_undo_22 : decode cX11_undo 22 = .ok (.getfield 29, 3) := by decide +kernel
theorem dX11_undo_25 : decode cX11_undo 25 = .ok (.aload_n 0, 1) := by decide +kernel
theorem dX11_undo_26 : decode cX11_undo 26 = .ok (.getfield 10, 3) := by decide +kernel
theorem dX11_undo_29 : decode cX11_undo 29 = .ok (.invokevirtual 382, 3) := by decide +kernel
theorem dX11_undo_32 : decode cX11_undo 32 = .ok (.aload_n 0, 1) := by decide +kernel
theorem dX11_undo_33 : decode cX11_undo 33 = .ok (.getfield 29, 3) := by decide +kernel
theorem dX11_undo_36 : decode cX11_undo 36 = .ok (.getfield 379, 3) := by decide +kernel
theorem dX11_undo_39 : decode cX11_undo 39 = .ok (.ireturn, 1) := by decide +kernel
theorem dX11_save_0 : decode cX11_save 0 = .ok (.aload_n 0, 1) := by decide +kernel
theorem dX11_save_1 : decode cX11_save 1 = .ok (.getfield 19, 3) := by decide +kernel
theorem dX11_save_4 : decode cX11_save 4 = .ok (.aload_n 0, 1) := by decide +kernel
theorem dX11_save_5 : decode cX11_save 5 = .ok (.getfield 10, 3) := by decide +kernel
theorem dX11_save_8 : decode cX11_save 8 = .ok (.invokevirtual 275, 3) := by decide +kernel
theorem dX11_save_11 : decode cX11_save 11 = .ok (.aload_n 0, 1) := by decide +kernel
theorem dX11_save_12 : decode cX11_save 12 = .ok (.iconst 1, 1) := by decide +kernel
theorem dX11_save_13 : decode cX11_save 13 = .ok (.putfield 22, 3) := by decide +kernel
theorem dX11_save_16 : decode cX11_save 16 = .ok (.aload_n 0, 1) := by decide +kernel
theorem dX11_save_17 : decode cX11_save 17 = .ok (.getfield 10, 3) := by decide +kernel
theorem dX11_save_20 : decode cX11_save 20 = .ok (.getfield 126, 3) := by decide +kernel
theorem dX11_save_23 : decode cX11_save 23 = .ok (.getfield 130, 3) := by decide +kernel
theorem dX11_save_26 : decode cX11_save 26 = .ok (.ireturn, 1) := by decide +kernel
theorem dX11_restore_0 : decode cX11_restore 0 = .ok (.aload_n 0, 1) := by decide +kernel
theorem dX11_restore_1 : decode cX11_restore 1 = .ok (.getfield 22, 3) := by decide +kernel
theorem dX11_restore_4 : decode cX11_restore 4 = .ok (.ifCond .ne 14, 3) := by decide +kernel
theorem dX11_restore_7 : decode cX11_restore 7 = .ok (.new 156, 3) := by decide +kernel
theorem dX11_restore_10 : decode cX11_restore 10 = .ok (.dup, 1) := by decide +kernel
theorem dX11_restore_11 : decode cX11_restore 11 = .ok (.ldc_w 385, 3) := by decide +kernel
theorem dX11_restore_14 : decode cX11_restore 14 = .ok (.invokespecial 160, 3) := by decide +kernel
theorem dX11_restore_17 : decode cX11_restore 17 = .ok (.athrow, 1) := by decide +kernel
theorem dX11_restore_18 : decode cX11_restore 18 = .ok (.aload_n 0, 1) := by decide +kernel
theorem dX11_restore_19 : decode cX11_restore 19 = .ok (.getfield 10, 3) := by decide +kernel
theorem dX11_restore_22 : decode cX11_restore 22 = .ok (.aload_n 0, 1) := by decide +kernel
theorem dX11_restore_23 : decode cX11_restore 23 = .ok (.getfield 19, 3) := by decide +kernel
theorem dX11_restore_26 : decode cX11_restore 26 = .ok (.invokevirtual 275, 3) := by decide +kernel
theorem dX11_restore_29 : decode cX11_restore 29 = .ok (.aload_n 0, 1) := by decide +kernel
theorem dX11_restore_30 : decode cX11_restore 30 = .ok (.getfield 29, 3) := by decide +kernel
theorem dX11_restore_33 : decode cX11_restore 33 = .ok (.invokevirtual 387, 3) := by decide +kernel
theorem dX11_restore_36 : decode cX11_restore 36 = .ok (.aload_n 0, 1) := by decide +kernel
theorem dX11_restore_37 : decode cX11_restore 37 = .ok (.getfield 10, 3) := by decide +kernel
theorem dX11_restore_40 : decode cX11_restore 40 = .ok (.getfield 126, 3) := by decide +kernel
theorem dX11_restore_43 : decode cX11_restore 43 = .ok (.getfield 130, 3) := by decide +kernel
theorem dX11_restore_46 : decode cX11_restore 46 = .ok (.ireturn, 1) := by decide +kernel
theorem dX11_refuse_0 : decode cX11_refuse 0 = .ok (.getstatic 390, 3) := by decide +kernel
theorem dX11_refuse_3 : decode cX11_refuse 3 = .ok (.aload_n 0, 1) := by decide +kernel
theorem dX11_refuse_4 : decode cX11_refuse 4 = .ok (.invokevirtual 395, 3) := by decide +kernel
theorem dX11_refuse_7 : decode cX11_refuse 7 = .ok (.iaload, 1) := by decide +kernel
theorem dX11_refuse_8 : decode cX11_refuse 8 = .ok (.tableswitch 91 1 5 #[36, 47, 58, 69, 80], 36) := by decide +kernel
theorem dX11_refuse_44 : decode cX11_refuse 44 = .ok (.new 270, 3) := by decide +kernel
theorem dX11_refuse_47 : decode cX11_refuse 47 = .ok (.dup, 1) := by decide +kernel
theorem dX11_refuse_48 : decode cX11_refuse 48 = .ok (.ldc_w 400, 3) := by decide +kernel
theorem dX11_refuse_51 : decode cX11_refuse 51 = .ok (.invokespecial 274, 3) := by decide +kernel
theorem dX11_refuse_54 : decode cX11_refuse 54 = .ok (.athrow, 1) := by decide +kernel
theorem dX11_refuse_55 : decode cX11_refuse 55 = .ok (.new 339, 3) := by decide +kernel
theorem dX11_refuse_58 : decode cX11_refuse 58 = .ok (.dup, 1) := by decide +kernel
theorem dX11_refuse_59 : decode cX11_refuse 59 = .ok (.ldc_w 402, 3) := by decide +kernel
theorem dX11_refuse_62 : decode cX11_refuse 62 = .ok (.invokespecial 343, 3) := by decide +kernel
theorem dX11_refuse_65 : decode cX11_refuse 65 = .ok (.athrow, 1) := by decide +kernel
theorem dX11_refuse_66 : decode cX11_refuse 66 = .ok (.new 138, 3) := by decide +kernel
theorem dX11_refuse_69 : decode cX11_refuse 69 = .ok (.dup, 1) := by decide +kernel
theorem dX11_refuse_70 : decode cX11_refuse 70 = .ok (.ldc_w 404, 3) := by decide +kernel
theorem dX11_refuse_73 : decode cX11_refuse 73 = .ok (.invokespecial 142, 3) := by decide +kernel
theorem dX11_refuse_76 : decode cX11_refuse 76 = .ok (.athrow, 1) := by decide +kernel
theorem dX11_refuse_77 : decode cX11_refuse 77 = .ok (.new 156, 3) := by decide +kernel
theorem dX11_refuse_80 : decode cX11_refuse 80 = .ok (.dup, 1) := by decide +kernel
theorem dX11_refuse_81 : decode cX11_refuse 81 = .ok (.ldc_w 406, 3) := by decide +kernel
theorem dX11_refuse_84 : decode cX11_refuse 84 = .ok (.invokespecial 160, 3) := by decide +kernel
theorem dX11_refuse_87 : decode cX11_refuse 87 = .ok (.athrow, 1) := by decide +kernel
theorem dX11_refuse_88 : decode cX11_refuse 88 = .ok (.new 408, 3) := by decide +kernel
theorem dX11_refuse_91 : decode cX11_refuse 91 = .ok (.dup, 1) := by decide +kernel
theorem dX11_refuse_92 : decode cX11_refuse 92 = .ok (.ldc_w 410, 3) := by decide +kernel
theorem dX11_refuse_95 : decode cX11_refuse 95 = .ok (.invokespecial 412, 3) := by decide +kernel
theorem dX11_refuse_98 : decode cX11_refuse 98 = .ok (.athrow, 1) := by decide +kernel
theorem dX11_refuse_99 : decode cX11_refuse 99 = .ok (.return_, 1) := by decide +kernel
theorem dX11_requireWheel_0 : decode cX11_requireWheel 0 = .ok (.iload_n 0, 1) := by decide +kernel
theorem dX11_requireWheel_1 : decode cX11_requireWheel 1 = .ok (.invokestatic 413, 3) := by decide +kernel
theorem dX11_requireWheel_4 : decode cX11_requireWheel 4 = .ok (.ifCond .ne 14, 3) := by decide +kernel
theorem dX11_requireWheel_7 : decode cX11_requireWheel 7 = .ok (.new 339, 3) := by decide +kernel
theorem dX11_requireWheel_10 : decode cX11_requireWheel 10 = .ok (.dup, 1) := by decide +kernel
theorem dX11_requireWheel_11 : decode cX11_requireWheel 11 = .ok (.ldc_w 402, 3) := by decide +kernel
theorem dX11_requireWheel_14 : decode cX11_requireWheel 14 = .ok (.invokespecial 343, 3) := by decide +kernel
theorem dX11_requireWheel_17 : decode cX11_requireWheel 17 = .ok (.athrow, 1) := by decide +kernel
theorem dX11_requireWheel_18 : decode cX11_requireWheel 18 = .ok (.return_, 1) := by decide +kernel
theorem dX11_requireBand_0 : decode cX11_requireBand 0 = .ok (.iload_n 0, 1) := by decide +kernel
theorem dX11_requireBand_1 : decode cX11_requireBand 1 = .ok (.invokestatic 416, 3) := by decide +kernel
theorem dX11_requireBand_4 : decode cX11_requireBand 4 = .ok (.ifCond .ne 14, 3) := by decide +kernel
theorem dX11_requireBand_7 : decode cX11_requireBand 7 = .ok (.new 270, 3) := by decide +kernel
theorem dX11_requireBand_10 : decode cX11_requireBand 10 = .ok (.dup, 1) := by decide +kernel
theorem dX11_requireBand_11 : decode cX11_requireBand 11 = .ok (.ldc_w 419, 3) := by decide +kernel
theorem dX11_requireBand_14 : decode cX11_requireBand 14 = .ok (.invokespecial 274, 3) := by decide +kernel
theorem dX11_requireBand_17 : decode cX11_requireBand 17 = .ok (.athrow, 1) := by decide +kernel
theorem dX11_requireBand_18 : decode cX11_requireBand 18 = .ok (.return_, 1) := by decide +kernel
theorem dX11_requireGrade_0 : decode cX11_requireGrade 0 = .ok (.iload_n 0, 1) := by decide +kernel
theorem dX11_requireGrade_1 : decode cX11_requireGrade 1 = .ok (.invokestatic 421, 3) := by decide +kernel
theorem dX11_requireGrade_4 : decode cX11_requireGrade 4 = .ok (.ifCond .ne 14, 3) := by decide +kernel
theorem dX11_requireGrade_7 : decode cX11_requireGrade 7 = .ok (.new 270, 3) := by decide +kernel
theorem dX11_requireGrade_10 : decode cX11_requireGrade 10 = .ok (.dup, 1) := by decide +kernel
theorem dX11_requireGrade_11 : decode cX11_requireGrade 11 = .ok (.ldc_w 424, 3) := by decide +kernel
theorem dX11_requireGrade_14 : decode cX11_requireGrade 14 = .ok (.invokespecial 274, 3) := by decide +kernel
theorem dX11_requireGrade_17 : decode cX11_requireGrade 17 = .ok (.athrow, 1) := by decide +kernel
theorem dX11_requireGrade_18 : decode cX11_requireGrade 18 = .ok (.return_, 1) := by decide +kernel
theorem dX11_requireNoise_0 : decode cX11_requireNoise 0 = .ok (.aload_n 0, 1) := by decide +kernel
theorem dX11_requireNoise_1 : decode cX11_requireNoise 1 = .ok (.getfield 10, 3) := by decide +kernel
theorem dX11_requireNoise_4 : decode cX11_requireNoise 4 = .ok (.getfield 126, 3) := by decide +kernel
theorem dX11_requireNoise_7 : decode cX11_requireNoise 7 = .ok (.iload_n 1, 1) := by decide +kernel
theorem dX11_requireNoise_8 : decode cX11_requireNoise 8 = .ok (.invokevirtual 164, 3) := by decide +kernel
theorem dX11_requireNoise_11 : decode cX11_requireNoise 11 = .ok (.istore_n 2, 1) := by decide +kernel
theorem dX11_requireNoise_12 : decode cX11_requireNoise 12 = .ok (.iload_n 2, 1) := by decide +kernel
theorem dX11_requireNoise_13 : decode cX11_requireNoise 13 = .ok (.iconst (-1), 1) := by decide +kernel
theorem dX11_requireNoise_14 : decode cX11_requireNoise 14 = .ok (.if_icmp .ne 14, 3) := by decide +kernel
theorem dX11_requireNoise_17 : decode cX11_requireNoise 17 = .ok (.new 138, 3) := by decide +kernel
theorem dX11_requireNoise_20 : decode cX11_requireNoise 20 = .ok (.dup, 1) := by decide +kernel
theorem dX11_requireNoise_21 : decode cX11_requireNoise 21 = .ok (.ldc_w 404, 3) := by decide +kernel
theorem dX11_requireNoise_24 : decode cX11_requireNoise 24 = .ok (.invokespecial 142, 3) := by decide +kernel
theorem dX11_requireNoise_27 : decode cX11_requireNoise 27 = .ok (.athrow, 1) := by decide +kernel
theorem dX11_requireNoise_28 : decode cX11_requireNoise 28 = .ok (.iload_n 2, 1) := by decide +kernel
theorem dX11_requireNoise_29 : decode cX11_requireNoise 29 = .ok (.ireturn, 1) := by decide +kernel
theorem dX11_requireEntry_0 : decode cX11_requireEntry 0 = .ok (.aload_n 0, 1) := by decide +kernel
theorem dX11_requireEntry_1 : decode cX11_requireEntry 1 = .ok (.getfield 10, 3) := by decide +kernel
theorem dX11_requireEntry_4 : decode cX11_requireEntry 4 = .ok (.getfield 278, 3) := by decide +kernel
theorem dX11_requireEntry_7 : decode cX11_requireEntry 7 = .ok (.iload_n 1, 1) := by decide +kernel
theorem dX11_requireEntry_8 : decode cX11_requireEntry 8 = .ok (.invokevirtual 426, 3) := by decide +kernel
theorem dX11_requireEntry_11 : decode cX11_requireEntry 11 = .ok (.istore_n 2, 1) := by decide +kernel
theorem dX11_requireEntry_12 : decode cX11_requireEntry 12 = .ok (.iload_n 2, 1) := by decide +kernel
theorem dX11_requireEntry_13 : decode cX11_requireEntry 13 = .ok (.iconst (-1), 1) := by decide +kernel
theorem dX11_requireEntry_14 : decode cX11_requireEntry 14 = .ok (.if_icmp .ne 14, 3) := by decide +kernel
theorem dX11_requireEntry_17 : decode cX11_requireEntry 17 = .ok (.new 138, 3) := by decide +kernel
theorem dX11_requireEntry_20 : decode cX11_requireEntry 20 = .ok (.dup, 1) := by decide +kernel
theorem dX11_requireEntry_21 : decode cX11_requireEntry 21 = .ok (.ldc_w 429, 3) := by decide +kernel
theorem dX11_requireEntry_24 : decode cX11_requireEntry 24 = .ok (.invokespecial 142, 3) := by decide +kernel
theorem dX11_requireEntry_27 : decode cX11_requireEntry 27 = .ok (.athrow, 1) := by decide +kernel
theorem dX11_requireEntry_28 : decode cX11_requireEntry 28 = .ok (.iload_n 2, 1) := by decide +kernel
theorem dX11_requireEntry_29 : decode cX11_requireEntry 29 = .ok (.ireturn, 1) := by decide +kernel
theorem dX11_requireSteps_0 : decode cX11_requireSteps 0 = .ok (.iload_n 0, 1) := by decide +kernel
theorem dX11_requireSteps_1 : decode cX11_requireSteps 1 = .ok (.iconst (-1), 1) := by decide +kernel
theorem dX11_requireSteps_2 : decode cX11_requireSteps 2 = .ok (.if_icmp .ne 14, 3) := by decide +kernel
theorem dX11_requireSteps_5 : decode cX11_requireSteps 5 = .ok (.new 138, 3) := by decide +kernel
theorem dX11_requireSteps_8 : decode cX11_requireSteps 8 = .ok (.dup, 1) := by decide +kernel
theorem dX11_requireSteps_9 : decode cX11_requireSteps 9 = .ok (.ldc_w 431, 3) := by decide +kernel
theorem dX11_requireSteps_12 : decode cX11_requireSteps 12 = .ok (.invokespecial 142, 3) := by decide +kernel
theorem dX11_requireSteps_15 : decode cX11_requireSteps 15 = .ok (.athrow, 1) := by decide +kernel
theorem dX11_requireSteps_16 : decode cX11_requireSteps 16 = .ok (.iload_n 0, 1) := by decide +kernel
theorem dX11_requireSteps_17 : decode cX11_requireSteps 17 = .ok (.ireturn, 1) := by decide +kernel
theorem dX11_slotAtRank_0 : decode cX11_slotAtRank 0 = .ok (.iload_n 1, 1) := by decide +kernel
theorem dX11_slotAtRank_1 : decode cX11_slotAtRank 1 = .ok (.ifCond .lt 17, 3) := by decide +kernel
theorem dX11_slotAtRank_4 : decode cX11_slotAtRank 4 = .ok (.iload_n 1, 1) := by decide +kernel
theorem dX11_slotAtRank_5 : decode cX11_slotAtRank 5 = .ok (.aload_n 0, 1) := by decide +kernel
theorem dX11_slotAtRank_6 : decode cX11_slotAtRank 6 = .ok (.getfield 10, 3) := by decide +kernel
theorem dX11_slotAtRank_9 : decode cX11_slotAtRank 9 = .ok (.getfield 126, 3) := by decide +kernel
theorem dX11_slotAtRank_12 : decode cX11_slotAtRank 12 = .ok (.getfield 130, 3) := by decide +kernel
theorem dX11_slotAtRank_15 : decode cX11_slotAtRank 15 = .ok (.if_icmp .lt 5, 3) := by decide +kernel
theorem dX11_slotAtRank_18 : decode cX11_slotAtRank 18 = .ok (.iconst (-1), 1) := by decide +kernel
theorem dX11_slotAtRank_19 : decode cX11_slotAtRank 19 = .ok (.ireturn, 1) := by decide +kernel
theorem dX11_slotAtRank_20 : decode cX11_slotAtRank 20 = .ok (.aload_n 0, 1) := by decide +kernel
theorem dX11_slotAtRank_21 : decode cX11_slotAtRank 21 = .ok (.getfield 36, 3) := by decide +kernel
theorem dX11_slotAtRank_24 : decode cX11_slotAtRank 24 = .ok (.aload_n 0, 1) := by decide +kernel
theorem dX11_slotAtRank_25 : decode cX11_slotAtRank 25 = .ok (.getfield 10, 3) := by decide +kernel
theorem dX11_slotAtRank_28 : decode cX11_slotAtRank 28 = .ok (.getfield 126, 3) := by decide +kernel
theorem dX11_slotAtRank_31 : decode cX11_slotAtRank 31 = .ok (.invokevirtual 433, 3) := by decide +kernel
theorem dX11_slotAtRank_34 : decode cX11_slotAtRank 34 = .ok (.iconst 0, 1) := by decide +kernel
theorem dX11_slotAtRank_35 : decode cX11_slotAtRank 35 = .ok (.istore_n 2, 1) := by decide +kernel
theorem dX11_slotAtRank_36 : decode cX11_slotAtRank 36 = .ok (.iload_n 2, 1) := by decide +kernel
theorem dX11_slotAtRank_37 : decode cX11_slotAtRank 37 = .ok (.iload_n 1, 1) := by decide +kernel
theorem dX11_slotAtRank_38 : decode cX11_slotAtRank 38 = .ok (.if_icmp .ge 24, 3) := by decide +kernel
theorem dX11_slotAtRank_41 : decode cX11_slotAtRank 41 = .ok (.aload_n 0, 1) := by decide +kernel
theorem dX11_slotAtRank_42 : decode cX11_slotAtRank 42 = .ok (.getfield 36, 3) := by decide +kernel
theorem dX11_slotAtRank_45 : decode cX11_slotAtRank 45 = .ok (.aload_n 0, 1) := by decide +kernel
theorem dX11_slotAtRank_46 : decode cX11_slotAtRank 46 = .ok (.getfield 10, 3) := by decide +kernel
theorem dX11_slotAtRank_49 : decode cX11_slotAtRank 49 = .ok (.getfield 126, 3) := by decide +kernel
theorem dX11_slotAtRank_52 : decode cX11_slotAtRank 52 = .ok (.invokevirtual 437, 3) := by decide +kernel
theorem dX11_slotAtRank_55 : decode cX11_slotAtRank 55 = .ok (.pop, 1) := by decide +kernel
theorem dX11_slotAtRank_56 : decode cX11_slotAtRank 56 = .ok (.iinc 2 1, 3) := by decide +kernel
theorem dX11_slotAtRank_59 : decode cX11_slotAtRank 59 = .ok (.goto (-23), 3) := by decide +kernel
theorem dX11_slotAtRank_62 : decode cX11_slotAtRank 62 = .ok (.aload_n 0, 1) := by decide +kernel
theorem dX11_slotAtRank_63 : decode cX11_slotAtRank 63 = .ok (.getfield 36, 3) := by decide +kernel
theorem dX11_slotAtRank_66 : decode cX11_slotAtRank 66 = .ok (.aload_n 0, 1) := by decide +kernel
theorem dX11_slotAtRank_67 : decode cX11_slotAtRank 67 = .ok (.getfield 10, 3) := by decide +kernel
theorem dX11_slotAtRank_70 : decode cX11_slotAtRank 70 = .ok (.getfield 126, 3) := by decide +kernel
theorem dX11_slotAtRank_73 : decode cX11_slotAtRank 73 = .ok (.invokevirtual 437, 3) := by decide +kernel
theorem dX11_slotAtRank_76 : decode cX11_slotAtRank 76 = .ok (.ireturn, 1) := by decide +kernel
theorem dX11_simulateDone_0 : decode cX11_simulateDone 0 = .ok (.aload_n 0, 1) := by decide +kernel
theorem dX11_simulateDone_1 : decode cX11_simulateDone 1 = .ok (.getfield 10, 3) := by decide +kernel
theorem dX11_simulateDone_4 : decode cX11_simulateDone 4 = .ok (.getfield 126, 3) := by decide +kernel
theorem dX11_simulateDone_7 : decode cX11_simulateDone 7 = .ok (.iload_n 1, 1) := by decide +kernel
theorem dX11_simulateDone_8 : decode cX11_simulateDone 8 = .ok (.invokevirtual 185, 3) := by decide +kernel
theorem dX11_simulateDone_11 : decode cX11_simulateDone 11 = .ok (.ifCond .ne 5, 3) := by decide +kernel
theorem dX11_simulateDone_14 : decode cX11_simulateDone 14 = .ok (.iconst (-1), 1) := by decide +kernel
theorem dX11_simulateDone_15 : decode cX11_simulateDone 15 = .ok (.ireturn, 1) := by decide +kernel
theorem dX11_simulateDone_16 : decode cX11_simulateDone 16 = .ok (.aload_n 0, 1) := by decide +kernel
theorem dX11_simulateDone_17 : decode cX11_simulateDone 17 = .ok (.getfield 16, 3) := by decide +kernel
theorem dX11_simulateDone_20 : decode cX11_simulateDone 20 = .ok (.aload_n 0, 1) := by decide +kernel
theorem dX11_simulateDone_21 : decode cX11_simulateDone 21 = .ok (.getfield 10, 3) := by decide +kernel
theorem dX11_simulateDone_24 : decode cX11_simulateDone 24 = .ok (.invokevirtual 275, 3) := by decide +kernel
theorem dX11_simulateDone_27 : decode cX11_simulateDone 27 = .ok (.iconst 1, 1) := by decide +kernel
theorem dX11_simulateDone_28 : decode cX11_simulateDone 28 = .ok (.istore_n 2, 1) := by decide +kernel
theorem dX11_simulateDone_29 : decode cX11_simulateDone 29 = .ok (.iload_n 2, 1) := by decide +kernel
theorem dX11_simulateDone_30 : decode cX11_simulateDone 30 = .ok (.bipush 60, 2) := by decide +kernel
theorem dX11_simulateDone_32 : decode cX11_simulateDone 32 = .ok (.if_icmp .gt 47, 3) := by decide +kernel
theorem dX11_simulateDone_35 : decode cX11_simulateDone 35 = .ok (.aload_n 0, 1) := by decide +kernel
theorem dX11_simulateDone_36 : decode cX11_simulateDone 36 = .ok (.getfield 16, 3) := by decide +kernel
theorem dX11_simulateDone_39 : decode cX11_simulateDone 39 = .ok (.iload_n 1, 1) := by decide +kernel
theorem dX11_simulateDone_40 : decode cX11_simulateDone 40 = .ok (.invokevirtual 199, 3) := by decide +kernel
theorem dX11_simulateDone_43 : decode cX11_simulateDone 43 = .ok (.ifCond .eq 5, 3) := by decide +kernel
theorem dX11_simulateDone_46 : decode cX11_simulateDone 46 = .ok (.iconst (-1), 1) := by decide +kernel
theorem dX11_simulateDone_47 : decode cX11_simulateDone 47 = .ok (.ireturn, 1) := by decide +kernel
theorem dX11_simulateDone_48 : decode cX11_simulateDone 48 = .ok (.aload_n 0, 1) := by decide +kernel
theorem dX11_simulateDone_49 : decode cX11_simulateDone 49 = .ok (.getfield 16, 3) := by decide +kernel
theorem dX11_simulateDone_52 : decode cX11_simulateDone 52 = .ok (.iconst 1, 1) := by decide +kernel
theorem dX11_simulateDone_53 : decode cX11_simulateDone 53 = .ok (.invokevirtual 120, 3) := by decide +kernel
theorem dX11_simulateDone_56 : decode cX11_simulateDone 56 = .ok (.pop, 1) := by decide +kernel
theorem dX11_simulateDone_57 : decode cX11_simulateDone 57 = .ok (.aload_n 0, 1) := by decide +kernel
theorem dX11_simulateDone_58 : decode cX11_simulateDone 58 = .ok (.getfield 16, 3) := by decide +kernel
theorem dX11_simulateDone_61 : decode cX11_simulateDone 61 = .ok (.getfield 126, 3) := by decide +kernel
theorem dX11_simulateDone_64 : decode cX11_simulateDone 64 = .ok (.iload_n 1, 1) := by decide +kernel
theorem dX11_simulateDone_65 : decode cX11_simulateDone 65 = .ok (.invokevirtual 185, 3) := by decide +kernel
theorem dX11_simulateDone_68 : decode cX11_simulateDone 68 = .ok (.ifCond .ne 5, 3) := by decide +kernel
theorem dX11_simulateDone_71 : decode cX11_simulateDone 71 = .ok (.iload_n 2, 1) := by decide +kernel
theorem dX11_simulateDone_72 : decode cX11_simulateDone 72 = .ok (.ireturn, 1) := by decide +kernel
theorem dX11_simulateDone_73 : decode cX11_simulateDone 73 = .ok (.iinc 2 1, 3) := by decide +kernel
theorem dX11_simulateDone_76 : decode cX11_simulateDone 76 = .ok (.goto (-47), 3) := by decide +kernel
theorem dX11_simulateDone_79 : decode cX11_simulateDone 79 = .ok (.iconst (-1), 1) := by decide +kernel
theorem dX11_simulateDone_80 : decode cX11_simulateDone 80 = .ok (.ireturn, 1) := by decide +kernel
theorem dX11_simulateJam_0 : decode cX11_simulateJam 0 = .ok (.aload_n 0, 1) := by decide +kernel
theorem dX11_simulateJam_1 : decode cX11_simulateJam 1 = .ok (.getfield 16, 3) := by decide +kernel
theorem dX11_simulateJam_4 : decode cX11_simulateJam 4 = .ok (.aload_n 0, 1) := by decide +kernel
theorem dX11_simulateJam_5 : decode cX11_simulateJam 5 = .ok (.getfield 10, 3) := by decide +kernel
theorem dX11_simulateJam_8 : decode cX11_simulateJam 8 = .ok (.invokevirtual 275, 3) := by decide +kernel
theorem dX11_simulateJam_11 : decode cX11_simulateJam 11 = .ok (.iconst 0, 1) := by decide +kernel
theorem dX11_simulateJam_12 : decode cX11_simulateJam 12 = .ok (.istore_n 2, 1) := by decide +kernel
theorem dX11_simulateJam_13 : decode cX11_simulateJam 13 = .ok (.iload_n 2, 1) := by decide +kernel
theorem dX11_simulateJam_14 : decode cX11_simulateJam 14 = .ok (.bipush 60, 2) := by decide +kernel
theorem dX11_simulateJam_16 : decode cX11_simulateJam 16 = .ok (.if_icmp .gt 31, 3) := by decide +kernel
theorem dX11_simulateJam_19 : decode cX11_simulateJam 19 = .ok (.aload_n 0, 1) := by decide +kernel
theorem dX11_simulateJam_20 : decode cX11_simulateJam 20 = .ok (.getfield 16, 3) := by decide +kernel
theorem dX11_simulateJam_23 : decode cX11_simulateJam 23 = .ok (.iload_n 1, 1) := by decide +kernel
theorem dX11_simulateJam_24 : decode cX11_simulateJam 24 = .ok (.invokevirtual 199, 3) := by decide +kernel
theorem dX11_simulateJam_27 : decode cX11_simulateJam 27 = .ok (.ifCond .eq 5, 3) := by decide +kernel
theorem dX11_simulateJam_30 : decode cX11_simulateJam 30 = .ok (.iload_n 2, 1) := by decide +kernel
theorem dX11_simulateJam_31 : decode cX11_simulateJam 31 = .ok (.ireturn, 1) := by decide +kernel
theorem dX11_simulateJam_32 : decode cX11_simulateJam 32 = .ok (.aload_n 0, 1) := by decide +kernel
theorem dX11_simulateJam_33 : decode cX11_simulateJam 33 = .ok (.getfield 16, 3) := by decide +kernel
theorem dX11_simulateJam_36 : decode cX11_simulateJam 36 = .ok (.iconst 1, 1) := by decide +kernel
theorem dX11_simulateJam_37 : decode cX11_simulateJam 37 = .ok (.invokevirtual 120, 3) := by decide +kernel
theorem dX11_simulateJam_40 : decode cX11_simulateJam 40 = .ok (.pop, 1) := by decide +kernel
theorem dX11_simulateJam_41 : decode cX11_simulateJam 41 = .ok (.iinc 2 1, 3) := by decide +kernel
theorem dX11_simulateJam_44 : decode cX11_simulateJam 44 = .ok (.goto (-31), 3) := by decide +kernel
theorem dX11_simulateJam_47 : decode cX11_simulateJam 47 = .ok (.iconst (-1), 1) := by decide +kernel
theorem dX11_simulateJam_48 : decode cX11_simulateJam 48 = .ok (.ireturn, 1) := by decide +kernel
theorem dX11_flourAgrees_0 : decode cX11_flourAgrees 0 = .ok (.iconst 0, 1) := by decide +kernel
theorem dX11_flourAgrees_1 : decode cX11_flourAgrees 1 = .ok (.istore_n 1, 1) := by decide +kernel
theorem dX11_flourAgrees_2 : decode cX11_flourAgrees 2 = .ok (.iload_n 1, 1) := by decide +kernel
theorem dX11_flourAgrees_3 : decode cX11_flourAgrees 3 = .ok (.iconst 4, 1) := by decide +kernel
theorem dX11_flourAgrees_4 : decode cX11_flourAgrees 4 = .ok (.if_icmp .ge 37, 3) := by decide +kernel
theorem dX11_flourAgrees_7 : decode cX11_flourAgrees 7 = .ok (.aload_n 0, 1) := by decide +kernel
theorem dX11_flourAgrees_8 : decode cX11_flourAgrees 8 = .ok (.getfield 10, 3) := by decide +kernel
theorem dX11_flourAgrees_11 : decode cX11_flourAgrees 11 = .ok (.getfield 208, 3) := by decide +kernel
theorem dX11_flourAgrees_14 : decode cX11_flourAgrees 14 = .ok (.getfield 225, 3) := by decide +kernel
theorem dX11_flourAgrees_17 : decode cX11_flourAgrees 17 = .ok (.iload_n 1, 1) := by decide +kernel
theorem dX11_flourAgrees_18 : decode cX11_flourAgrees 18 = .ok (.iaload, 1) := by decide +kernel
theorem dX11_flourAgrees_19 : decode cX11_flourAgrees 19 = .ok (.aload_n 0, 1) := by decide +kernel
theorem dX11_flourAgrees_20 : decode cX11_flourAgrees 20 = .ok (.getfield 10, 3) := by decide +kernel
theorem dX11_flourAgrees_23 : decode cX11_flourAgrees 23 = .ok (.getfield 208, 3) := by decide +kernel
theorem dX11_flourAgrees_26 : decode cX11_flourAgrees 26 = .ok (.iload_n 1, 1) := by decide +kernel
theorem dX11_flourAgrees_27 : decode cX11_flourAgrees 27 = .ok (.invokevirtual 228, 3) := by decide +kernel
theorem dX11_flourAgrees_30 : decode cX11_flourAgrees 30 = .ok (.if_icmp .eq 5, 3) := by decide +kernel
theorem dX11_flourAgrees_33 : decode cX11_flourAgrees 33 = .ok (.iconst 0, 1) := by decide +kernel
theorem dX11_flourAgrees_34 : decode cX11_flourAgrees 34 = .ok (.ireturn, 1) := by decide +kernel
theorem dX11_flourAgrees_35 : decode cX11_flourAgrees 35 = .ok (.iinc 1 1, 3) := by decide +kernel
theorem dX11_flourAgrees_38 : decode cX11_flourAgrees 38 = .ok (.goto (-36), 3) := by decide +kernel
theorem dX11_flourAgrees_41 : decode cX11_flourAgrees 41 = .ok (.iconst 1, 1) := by decide +kernel
theorem dX11_flourAgrees_42 : decode cX11_flourAgrees 42 = .ok (.ireturn, 1) := by decide +kernel
theorem dX11_predictionsAgree_0 : decode cX11_predictionsAgree 0 = .ok (.iconst 0, 1) := by decide +kernel
theorem dX11_predictionsAgree_1 : decode cX11_predictionsAgree 1 = .ok (.istore_n 1, 1) := by decide +kernel
theorem dX11_predictionsAgree_2 : decode cX11_predictionsAgree 2 = .ok (.iload_n 1, 1) := by decide +kernel
theorem dX11_predictionsAgree_3 : decode cX11_predictionsAgree 3 = .ok (.iconst 3, 1) := by decide +kernel
theorem dX11_predictionsAgree_4 : decode cX11_predictionsAgree 4 = .ok (.if_icmp .ge 27, 3) := by decide +kernel
theorem dX11_predictionsAgree_7 : decode cX11_predictionsAgree 7 = .ok (.aload_n 0, 1) := by decide +kernel
theorem dX11_predictionsAgree_8 : decode cX11_predictionsAgree 8 = .ok (.iload_n 1, 1) := by decide +kernel
theorem dX11_predictionsAgree_9 : decode cX11_predictionsAgree 9 = .ok (.invokevirtual 258, 3) := by decide +kernel
theorem dX11_predictionsAgree_12 : decode cX11_predictionsAgree 12 = .ok (.aload_n 0, 1) := by decide +kernel
theorem dX11_predictionsAgree_13 : decode cX11_predictionsAgree 13 = .ok (.getfield 10, 3) := by decide +kernel
theorem dX11_predictionsAgree_16 : decode cX11_predictionsAgree 16 = .ok (.iload_n 1, 1) := by decide +kernel
theorem dX11_predictionsAgree_17 : decode cX11_predictionsAgree 17 = .ok (.invokevirtual 264, 3) := by decide +kernel
theorem dX11_predictionsAgree_20 : decode cX11_predictionsAgree 20 = .ok (.if_icmp .eq 5, 3) := by decide +kernel
theorem dX11_predictionsAgree_23 : decode cX11_predictionsAgree 23 = .ok (.iconst 0, 1) := by decide +kernel
theorem dX11_predictionsAgree_24 : decode cX11_predictionsAgree 24 = .ok (.ireturn, 1) := by decide +kernel
theorem dX11_predictionsAgree_25 : decode cX11_predictionsAgree 25 = .ok (.iinc 1 1, 3) := by decide +kernel
theorem dX11_predictionsAgree_28 : decode cX11_predictionsAgree 28 = .ok (.goto (-26), 3) := by decide +kernel
theorem dX11_predictionsAgree_31 : decode cX11_predictionsAgree 31 = .ok (.iconst 1, 1) := by decide +kernel
theorem dX11_predictionsAgree_32 : decode cX11_predictionsAgree 32 = .ok (.ireturn, 1) := by decide +kernel
theorem dX11_ranksAgree_0 : decode cX11_ranksAgree 0 = .ok (.iconst 0, 1) := by decide +kernel
theorem dX11_ranksAgree_1 : decode cX11_ranksAgree 1 = .ok (.istore_n 1, 1) := by decide +kernel
theorem dX11_ranksAgree_2 : decode cX11_ranksAgree 2 = .ok (.iload_n 1, 1) := by decide +kernel
theorem dX11_ranksAgree_3 : decode cX11_ranksAgree 3 = .ok (.aload_n 0, 1) := by decide +kernel
theorem dX11_ranksAgree_4 : decode cX11_ranksAgree 4 = .ok (.getfield 10, 3) := by decide +kernel
theorem dX11_ranksAgree_7 : decode cX11_ranksAgree 7 = .ok (.getfield 126, 3) := by decide +kernel
theorem dX11_ranksAgree_10 : decode cX11_ranksAgree 10 = .ok (.getfield 130, 3) := by decide +kernel
theorem dX11_ranksAgree_13 : decode cX11_ranksAgree 13 = .ok (.if_icmp .ge 30, 3) := by decide +kernel
theorem dX11_ranksAgree_16 : decode cX11_ranksAgree 16 = .ok (.aload_n 0, 1) := by decide +kernel
theorem dX11_ranksAgree_17 : decode cX11_ranksAgree 17 = .ok (.getfield 10, 3) := by decide +kernel
theorem dX11_ranksAgree_20 : decode cX11_ranksAgree 20 = .ok (.getfield 126, 3) := by decide +kernel
theorem dX11_ranksAgree_23 : decode cX11_ranksAgree 23 = .ok (.aload_n 0, 1) := by decide +kernel
theorem dX11_ranksAgree_24 : decode cX11_ranksAgree 24 = .ok (.iload_n 1, 1) := by decide +kernel
theorem dX11_ranksAgree_25 : decode cX11_ranksAgree 25 = .ok (.invokevirtual 135, 3) := by decide +kernel
theorem dX11_ranksAgree_28 : decode cX11_ranksAgree 28 = .ok (.invokevirtual 161, 3) := by decide +kernel
theorem dX11_ranksAgree_31 : decode cX11_ranksAgree 31 = .ok (.iload_n 1, 1) := by decide +kernel
theorem dX11_ranksAgree_32 : decode cX11_ranksAgree 32 = .ok (.if_icmp .eq 5, 3) := by decide +kernel
theorem dX11_ranksAgree_35 : decode cX11_ranksAgree 35 = .ok (.iconst 0, 1) := by decide +kernel
theorem dX11_ranksAgree_36 : decode cX11_ranksAgree 36 = .ok (.ireturn, 1) := by decide +kernel
theorem dX11_ranksAgree_37 : decode cX11_ranksAgree 37 = .ok (.iinc 1 1, 3) := by decide +kernel
theorem dX11_ranksAgree_40 : decode cX11_ranksAgree 40 = .ok (.goto (-38), 3) := by decide +kernel
theorem dX11_ranksAgree_43 : decode cX11_ranksAgree 43 = .ok (.iconst 1, 1) := by decide +kernel
theorem dX11_ranksAgree_44 : decode cX11_ranksAgree 44 = .ok (.ireturn, 1) := by decide +kernel
theorem dX11_tryCommands_0 : decode cX11_tryCommands 0 = .ok (.aload_n 0, 1) := by decide +kernel
theorem dX11_tryCommands_1 : decode cX11_tryCommands 1 = .ok (.getfield 16, 3) := by decide +kernel
theorem dX11_tryCommands_4 : decode cX11_tryCommands 4 = .ok (.aload_n 0, 1) := by decide +kernel
theorem dX11_tryCommands_5 : decode cX11_tryCommands 5 = .ok (.getfield 10, 3) := by decide +kernel
theorem dX11_tryCommands_8 : decode cX11_tryCommands 8 = .ok (.invokevirtual 275, 3) := by decide +kernel
theorem dX11_tryCommands_11 : decode cX11_tryCommands 11 = .ok (.iconst 0, 1) := by decide +kernel
theorem dX11_tryCommands_12 : decode cX11_tryCommands 12 = .ok (.istore_n 1, 1) := by decide +kernel
theorem dX11_tryCommands_13 : decode cX11_tryCommands 13 = .ok (.iload_n 1, 1) := by decide +kernel
theorem dX11_tryCommands_14 : decode cX11_tryCommands 14 = .ok (.aload_n 0, 1) := by decide +kernel
theorem dX11_tryCommands_15 : decode cX11_tryCommands 15 = .ok (.getfield 43, 3) := by decide +kernel
theorem dX11_tryCommands_18 : decode cX11_tryCommands 18 = .ok (.getfield 374, 3) := by decide +kernel
theorem dX11_tryCommands_21 : decode cX11_tryCommands 21 = .ok (.if_icmp .ge 44, 3) := by decide +kernel
theorem dX11_tryCommands_24 : decode cX11_tryCommands 24 = .ok (.aload_n 0, 1) := by decide +kernel
theorem dX11_tryCommands_25 : decode cX11_tryCommands 25 = .ok (.getfield 43, 3) := by decide +kernel
theorem dX11_tryCommands_28 : decode cX11_tryCommands 28 = .ok (.getfield 441, 3) := by decide +kernel
theorem dX11_tryCommands_31 : decode cX11_tryCommands 31 = .ok (.iload_n 1, 1) := by decide +kernel
theorem dX11_tryCommands_32 : decode cX11_tryCommands 32 = .ok (.aaload, 1) := by decide +kernel
theorem dX11_tryCommands_33 : decode cX11_tryCommands 33 = .ok (.astore_n 2, 1) := by decide +kernel
theorem dX11_tryCommands_34 : decode cX11_tryCommands 34 = .ok (.aload_n 0, 1) := by decide +kernel
theorem dX11_tryCommands_35 : decode cX11_tryCommands 35 = .ok (.getfield 16, 3) := by decide +kernel
theorem dX11_tryCommands_38 : decode cX11_tryCommands 38 = .ok (.aload_n 2, 1) := by decide +kernel
theorem dX11_tryCommands_39 : decode cX11_tryCommands 39 = .ok (.invokestatic 445, 3) := by decide +kernel
theorem dX11_tryCommands_42 : decode cX11_tryCommands 42 = .ok (.getstatic 449, 3) := by decide +kernel
theorem dX11_tryCommands_45 : decode cX11_tryCommands 45 = .ok (.if_acmp .eq 5, 3) := by decide +kernel
theorem dX11_tryCommands_48 : decode cX11_tryCommands 48 = .ok (.iload_n 1, 1) := by decide +kernel
theorem dX11_tryCommands_49 : decode cX11_tryCommands 49 = .ok (.ireturn, 1) := by decide +kernel
theorem dX11_tryCommands_50 : decode cX11_tryCommands 50 = .ok (.aload_n 0, 1) := by decide +kernel
theorem dX11_tryCommands_51 : decode cX11_tryCommands 51 = .ok (.getfield 16, 3) := by decide +kernel
theorem dX11_tryCommands_54 : decode cX11_tryCommands 54 = .ok (.aload_n 2, 1) := by decide +kernel
theorem dX11_tryCommands_55 : decode cX11_tryCommands 55 = .ok (.invokestatic 453, 3) := by decide +kernel
theorem dX11_tryCommands_58 : decode cX11_tryCommands 58 = .ok (.pop, 1) := by decide +kernel
theorem dX11_tryCommands_59 : decode cX11_tryCommands 59 = .ok (.iinc 1 1, 3) := by decide +kernel
theorem dX11_tryCommands_62 : decode cX11_tryCommands 62 = .ok (.goto (-49), 3) := by decide +kernel
theorem dX11_tryCommands_65 : decode cX11_tryCommands 65 = .ok (.iconst (-1), 1) := by decide +kernel
theorem dX11_tryCommands_66 : decode cX11_tryCommands 66 = .ok (.ireturn, 1) := by decide +kernel
theorem dX11_faultOfCommand_0 : decode cX11_faultOfCommand 0 = .ok (.aload_n 1, 1) := by decide +kernel
theorem dX11_faultOfCommand_1 : decode cX11_faultOfCommand 1 = .ok (.getfield 457, 3) := by decide +kernel
theorem dX11_faultOfCommand_4 : decode cX11_faultOfCommand 4 = .ok (.iconst 0, 1) := by decide +kernel
theorem dX11_faultOfCommand_5 : decode cX11_faultOfCommand 5 = .ok (.iaload, 1) := by decide +kernel
theorem dX11_faultOfCommand_6 : decode cX11_faultOfCommand 6 = .ok (.istore_n 2, 1) := by decide +kernel
theorem dX11_faultOfCommand_7 : decode cX11_faultOfCommand 7 = .ok (.aload_n 1, 1) := by decide +kernel
theorem dX11_faultOfCommand_8 : decode cX11_faultOfCommand 8 = .ok (.getfield 457, 3) := by decide +kernel
theorem dX11_faultOfCommand_11 : decode cX11_faultOfCommand 11 = .ok (.iconst 1, 1) := by decide +kernel
theorem dX11_faultOfCommand_12 : decode cX11_faultOfCommand 12 = .ok (.iaload, 1) := by decide +kernel
theorem dX11_faultOfCommand_13 : decode cX11_faultOfCommand 13 = .ok (.istore_n 3, 1) := by decide +kernel
theorem dX11_faultOfCommand_14 : decode cX11_faultOfCommand 14 = .ok (.aload_n 1, 1) := by decide +kernel
theorem dX11_faultOfCommand_15 : decode cX11_faultOfCommand 15 = .ok (.getfield 457, 3) := by decide +kernel
theorem dX11_faultOfCommand_18 : decode cX11_faultOfCommand 18 = .ok (.iconst 2, 1) := by decide +kernel
theorem dX11_faultOfCommand_19 : decode cX11_faultOfCommand 19 = .ok (.iaload, 1) := by decide +kernel
theorem dX11_faultOfCommand_20 : decode cX11_faultOfCommand 20 = .ok (.istore 4, 2) := by decide +kernel
theorem dX11_faultOfCommand_22 : decode cX11_faultOfCommand 22 = .ok (.getstatic 462, 3) := by decide +kernel
theorem dX11_faultOfCommand_25 : decode cX11_faultOfCommand 25 = .ok (.aload_n 1, 1) := by decide +kernel
theorem dX11_faultOfCommand_26 : decode cX11_faultOfCommand 26 = .ok (.getfield 465, 3) := by decide +kernel
theorem dX11_faultOfCommand_29 : decode cX11_faultOfCommand 29 = .ok (.invokevirtual 469, 3) := by decide +kernel
theorem dX11_faultOfCommand_32 : decode cX11_faultOfCommand 32 = .ok (.iaload, 1) := by decide +kernel
theorem dX11_faultOfCommand_33 : decode cX11_faultOfCommand 33 = .ok (.tableswitch 88 1 7 #[43, 52, 58, 64, 70, 75, 81], 43) := by decide +kernel
theorem dX11_faultOfCommand_76 : decode cX11_faultOfCommand 76 = .ok (.aload_n 0, 1) := by decide +kernel
theorem dX11_faultOfCommand_77 : decode cX11_faultOfCommand 77 = .ok (.iload_n 2, 1) := by decide +kernel
theorem dX11_faultOfCommand_78 : decode cX11_faultOfCommand 78 = .ok (.iload_n 3, 1) := by decide +kernel
theorem dX11_faultOfCommand_79 : decode cX11_faultOfCommand 79 = .ok (.iload 4, 2) := by decide +kernel
theorem dX11_faultOfCommand_81 : decode cX11_faultOfCommand 81 = .ok (.invokevirtual 61, 3) := by decide +kernel
theorem dX11_faultOfCommand_84 : decode cX11_faultOfCommand 84 = .ok (.areturn, 1) := by decide +kernel
theorem dX11_faultOfCommand_85 : decode cX11_faultOfCommand 85 = .ok (.aload_n 0, 1) := by decide +kernel
theorem dX11_faultOfCommand_86 : decode cX11_faultOfCommand 86 = .ok (.iload_n 2, 1) := by decide +kernel
theorem dX11_faultOfCommand_87 : decode cX11_faultOfCommand 87 = .ok (.invokevirtual 77, 3) := by decide +kernel
theorem dX11_faultOfCommand_90 : decode cX11_faultOfCommand 90 = .ok (.areturn, 1) := by decide +kernel
theorem dX11_faultOfCommand_91 : decode cX11_faultOfCommand 91 = .ok (.iload_n 2, 1) := by decide +kernel
theorem dX11_faultOfCommand_92 : decode cX11_faultOfCommand 92 = .ok (.iload_n 3, 1) := by decide +kernel
theorem dX11_faultOfCommand_93 : decode cX11_faultOfCommand 93 = .ok (.invokestatic 85, 3) := by decide +kernel
theorem dX11_faultOfCommand_96 : decode cX11_faultOfCommand 96 = .ok (.areturn, 1) := by decide +kernel
theorem dX11_faultOfCommand_97 : decode cX11_faultOfCommand 97 = .ok (.iload_n 2, 1) := by decide +kernel
theorem dX11_faultOfCommand_98 : decode cX11_faultOfCommand 98 = .ok (.iload_n 3, 1) := by decide +kernel
theorem dX11_faultOfCommand_99 : decode cX11_faultOfCommand 99 = .ok (.invokestatic 93, 3) := by decide +kernel
theorem dX11_faultOfCommand_102 : decode cX11_faultOfCommand 102 = .ok (.areturn, 1) := by decide +kernel
theorem dX11_faultOfCommand_103 : decode cX11_faultOfCommand 103 = .ok (.iload_n 2, 1) := by decide +kernel
theorem dX11_faultOfCommand_104 : decode cX11_faultOfCommand 104 = .ok (.invokestatic 99, 3) := by decide +kernel
theorem dX11_faultOfCommand_107 : decode cX11_faultOfCommand 107 = .ok (.areturn, 1) := by decide +kernel
theorem dX11_faultOfCommand_108 : decode cX11_faultOfCommand 108 = .ok (.aload_n 0, 1) := by decide +kernel
theorem dX11_faultOfCommand_109 : decode cX11_faultOfCommand 109 = .ok (.iload_n 2, 1) := by decide +kernel
theorem dX11_faultOfCommand_110 : decode cX11_faultOfCommand 110 = .ok (.invokevirtual 105, 3) := by decide +kernel
theorem dX11_faultOfCommand_113 : decode cX11_faultOfCommand 113 = .ok (.areturn, 1) := by decide +kernel
theorem dX11_faultOfCommand_114 : decode cX11_faultOfCommand 114 = .ok (.aload_n 0, 1) := by decide +kernel
theorem dX11_faultOfCommand_115 : decode cX11_faultOfCommand 115 = .ok (.iload_n 2, 1) := by decide +kernel
theorem dX11_faultOfCommand_116 : decode cX11_faultOfCommand 116 = .ok (.iload_n 3, 1) := by decide +kernel
theorem dX11_faultOfCommand_117 : decode cX11_faultOfCommand 117 = .ok (.invokevirtual 111, 3) := by decide +kernel
theorem dX11_faultOfCommand_120 : decode cX11_faultOfCommand 120 = .ok (.areturn, 1) := by decide +kernel
theorem dX11_faultOfCommand_121 : decode cX11_faultOfCommand 121 = .ok (.iload_n 2, 1) := by decide +kernel
theorem dX11_faultOfCommand_122 : decode cX11_faultOfCommand 122 = .ok (.invokestatic 117, 3) := by decide +kernel
theorem dX11_faultOfCommand_125 : decode cX11_faultOfCommand 125 = .ok (.areturn, 1) := by decide +kernel
theorem dX11_perform_0 : decode cX11_perform 0 = .ok (.aload_n 1, 1) := by decide +kernel
theorem dX11_perform_1 : decode cX11_perform 1 = .ok (.getfield 457, 3) := by decide +kernel
theorem dX11_perform_4 : decode cX11_perform 4 = .ok (.iconst 0, 1) := by decide +kernel
theorem dX11_perform_5 : decode cX11_perform 5 = .ok (.iaload, 1) := by decide +kernel
theorem dX11_perform_6 : decode cX11_perform 6 = .ok (.istore_n 2, 1) := by decide +kernel
theorem dX11_perform_7 : decode cX11_perform 7 = .ok (.aload_n 1, 1) := by decide +kernel
theorem dX11_perform_8 : decode cX11_perform 8 = .ok (.getfield 457, 3) := by decide +kernel
theorem dX11_perform_11 : decode cX11_perform 11 = .ok (.iconst 1, 1) := by decide +kernel
theorem dX11_perform_12 : decode cX11_perform 12 = .ok (.iaload, 1) := by decide +kernel
theorem dX11_perform_13 : decode cX11_perform 13 = .ok (.istore_n 3, 1) := by decide +kernel
theorem dX11_perform_14 : decode cX11_perform 14 = .ok (.aload_n 1, 1) := by decide +kernel
theorem dX11_perform_15 : decode cX11_perform 15 = .ok (.getfield 457, 3) := by decide +kernel
theorem dX11_perform_18 : decode cX11_perform 18 = .ok (.iconst 2, 1) := by decide +kernel
theorem dX11_perform_19 : decode cX11_perform 19 = .ok (.iaload, 1) := by decide +kernel
theorem dX11_perform_20 : decode cX11_perform 20 = .ok (.istore 4, 2) := by decide +kernel
theorem dX11_perform_22 : decode cX11_perform 22 = .ok (.getstatic 462, 3) := by decide +kernel
theorem dX11_perform_25 : decode cX11_perform 25 = .ok (.aload_n 1, 1) := by decide +kernel
theorem dX11_perform_26 : decode cX11_perform 26 = .ok (.getfield 465, 3) := by decide +kernel
theorem dX11_perform_29 : decode cX11_perform 29 = .ok (.invokevirtual 469, 3) := by decide +kernel
theorem dX11_perform_32 : decode cX11_perform 32 = .ok (.iaload, 1) := by decide +kernel
theorem dX11_perform_33 : decode cX11_perform 33 = .ok (.tableswitch 91 1 7 #[43, 52, 58, 65, 72, 78, 84], 43) := by decide +kernel
theorem dX11_perform_76 : decode cX11_perform 76 = .ok (.aload_n 0, 1) := by decide +kernel
theorem dX11_perform_77 : decode cX11_perform 77 = .ok (.iload_n 2, 1) := by decide +kernel
theorem dX11_perform_78 : decode cX11_perform 78 = .ok (.iload_n 3, 1) := by decide +kernel
theorem dX11_perform_79 : decode cX11_perform 79 = .ok (.iload 4, 2) := by decide +kernel
theorem dX11_perform_81 : decode cX11_perform 81 = .ok (.invokevirtual 73, 3) := by decide +kernel
theorem dX11_perform_84 : decode cX11_perform 84 = .ok (.ireturn, 1) := by decide +kernel
theorem dX11_perform_85 : decode cX11_perform 85 = .ok (.aload_n 0, 1) := by decide +kernel
theorem dX11_perform_86 : decode cX11_perform 86 = .ok (.iload_n 2, 1) := by decide +kernel
theorem dX11_perform_87 : decode cX11_perform 87 = .ok (.invokevirtual 81, 3) := by decide +kernel
theorem dX11_perform_90 : decode cX11_perform 90 = .ok (.ireturn, 1) := by decide +kernel
theorem dX11_perform_91 : decode cX11_perform 91 = .ok (.aload_n 0, 1) := by decide +kernel
theorem dX11_perform_92 : decode cX11_perform 92 = .ok (.iload_n 2, 1) := by decide +kernel
theorem dX11_perform_93 : decode cX11_perform 93 = .ok (.iload_n 3, 1) := by decide +kernel
theorem dX11_perform_94 : decode cX11_perform 94 = .ok (.invokevirtual 89, 3) := by decide +kernel
theorem dX11_perform_97 : decode cX11_perform 97 = .ok (.ireturn, 1) := by decide +kernel
theorem dX11_perform_98 : decode cX11_perform 98 = .ok (.aload_n 0, 1) := by decide +kernel
theorem dX11_perform_99 : decode cX11_perform 99 = .ok (.iload_n 2, 1) := by decide +kernel
theorem dX11_perform_100 : decode cX11_perform 100 = .ok (.iload_n 3, 1) := by decide +kernel
theorem dX11_perform_101 : decode cX11_perform 101 = .ok (.invokevirtual 96, 3) := by decide +kernel
theorem dX11_perform_104 : decode cX11_perform 104 = .ok (.ireturn, 1) := by decide +kernel
theorem dX11_perform_105 : decode cX11_perform 105 = .ok (.aload_n 0, 1) := by decide +kernel
theorem dX11_perform_106 : decode cX11_perform 106 = .ok (.iload_n 2, 1) := by decide +kernel
theorem dX11_perform_107 : decode cX11_perform 107 = .ok (.invokevirtual 102, 3) := by decide +kernel
theorem dX11_perform_110 : decode cX11_perform 110 = .ok (.ireturn, 1) := by decide +kernel
theorem dX11_perform_111 : decode cX11_perform 111 = .ok (.aload_n 0, 1) := by decide +kernel
theorem dX11_perform_112 : decode cX11_perform 112 = .ok (.iload_n 2, 1) := by decide +kernel
theorem dX11_perform_113 : decode cX11_perform 113 = .ok (.invokevirtual 108, 3) := by decide +kernel
theorem dX11_perform_116 : decode cX11_perform 116 = .ok (.ireturn, 1) := by decide +kernel
theorem dX11_perform_117 : decode cX11_perform 117 = .ok (.aload_n 0, 1) := by decide +kernel
theorem dX11_perform_118 : decode cX11_perform 118 = .ok (.iload_n 2, 1) := by decide +kernel
theorem dX11_perform_119 : decode cX11_perform 119 = .ok (.iload_n 3, 1) := by decide +kernel
theorem dX11_perform_120 : decode cX11_perform 120 = .ok (.invokevirtual 114, 3) := by decide +kernel
theorem dX11_perform_123 : decode cX11_perform 123 = .ok (.ireturn, 1) := by decide +kernel
theorem dX11_perform_124 : decode cX11_perform 124 = .ok (.aload_n 0, 1) := by decide +kernel
theorem dX11_perform_125 : decode cX11_perform 125 = .ok (.iload_n 2, 1) := by decide +kernel
theorem dX11_perform_126 : decode cX11_perform 126 = .ok (.invokevirtual 120, 3) := by decide +kernel
theorem dX11_perform_129 : decode cX11_perform 129 = .ok (.ireturn, 1) := by decide +kernel
