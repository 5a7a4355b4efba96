theorem dX0_init_0 : decode cX0_init 0 = .ok (.aload_n 0, 1) := by decide +kernel
theorem dX0_init_1 : decode cX0_init 1 = .ok (.invokespecial 3, 3) := by decide +kernel
theorem dX0_init_4 : decode cX0_init 4 = .ok (.return_, 1) := by decide +kernel
theorem dX2_cutTo_0 : decode cX2_cutTo 0 = .ok (.iload_n 1, 1) := by decide +kernel
theorem dX2_cutTo_1 : decode cX2_cutTo 1 = .ok (.ifCond .lt 16, 3) := by decide +kernel
theorem dX2_cutTo_12 : decode cX2_cutTo 12 = .ok (.aload_n 0, 1) := by decide +kernel
theorem dX2_cutTo_13 : decode cX2_cutTo 13 = .ok (.iload_n 1, 1) := by decide +kernel
theorem dX2_cutTo_14 : decode cX2_cutTo 14 = .ok (.putfield 18, 3) := by decide +kernel
theorem dX2_cutTo_17 : decode cX2_cutTo 17 = .ok (.return_, 1) := by decide +kernel
theorem dX2_cutTo_4 : decode cX2_cutTo 4 = .ok (.iload_n 1, 1) := by decide +kernel
theorem dX2_cutTo_5 : decode cX2_cutTo 5 = .ok (.aload_n 0, 1) := by decide +kernel
theorem dX2_cutTo_6 : decode cX2_cutTo 6 = .ok (.getfield 18, 3) := by decide +kernel
theorem dX2_cutTo_9 : decode cX2_cutTo 9 = .ok (.if_icmp .gt 8, 3) := by decide +kernel
theorem dX2_init_0 : decode cX2_init 0 = .ok (.aload_n 0, 1) := by decide +kernel
theorem dX2_init_1 : decode cX2_init 1 = .ok (.invokespecial 3, 3) := by decide +kernel
theorem dX2_init_10 : decode cX2_init 10 = .ok (.putfield 11, 3) := by decide +kernel
theorem dX2_init_13 : decode cX2_init 13 = .ok (.aload_n 0, 1) := by decide +kernel
theorem dX2_init_14 : decode cX2_init 14 = .ok (.sipush 250, 3) := by decide +kernel
theorem dX2_init_17 : decode cX2_init 17 = .ok (.newarray .int, 2) := by decide +kernel
theorem dX2_init_19 : decode cX2_init 19 = .ok (.putfield 15, 3) := by decide +kernel
theorem dX2_init_22 : decode cX2_init 22 = .ok (.return_, 1) := by decide +kernel
theorem dX2_init_4 : decode cX2_init 4 = .ok (.aload_n 0, 1) := by decide +kernel
theorem dX2_init_5 : decode cX2_init 5 = .ok (.sipush 10291, 3) := by decide +kernel
theorem dX2_init_8 : decode cX2_init 8 = .ok (.newarray .int, 2) := by decide +kernel
theorem dX3_isObject_0 : decode cX3_isObject 0 = .ok (.aload_n 0, 1) := by decide +kernel
theorem dX3_isObject_1 : decode cX3_isObject 1 = .ok (.iload_n 1, 1) := by decide +kernel
theorem dX3_isObject_12 : decode cX3_isObject 12 = .ok (.iconst 0, 1) := by decide +kernel
theorem dX3_isObject_13 : decode cX3_isObject 13 = .ok (.ireturn, 1) := by decide +kernel
theorem dX3_isObject_2 : decode cX3_isObject 2 = .ok (.invokevirtual 83, 3) := by decide +kernel
theorem dX3_isObject_5 : decode cX3_isObject 5 = .ok (.ifCond .lt 7, 3) := by decide +kernel
theorem dX3_isProxy_0 : decode cX3_isProxy 0 = .ok (.aload_n 0, 1) := by decide +kernel
theorem dX3_isProxy_1 : decode cX3_isProxy 1 = .ok (.iload_n 1, 1) := by decide +kernel
theorem dX3_isProxy_13 : decode cX3_isProxy 13 = .ok (.iconst 0, 1) := by decide +kernel
theorem dX3_isProxy_14 : decode cX3_isProxy 14 = .ok (.ireturn, 1) := by decide +kernel
theorem dX3_isProxy_2 : decode cX3_isProxy 2 = .ok (.invokevirtual 87, 3) := by decide +kernel
theorem dX3_isProxy_5 : decode cX3_isProxy 5 = .ok (.iconst 4, 1) := by decide +kernel
theorem dX3_isProxy_6 : decode cX3_isProxy 6 = .ok (.if_icmp .ne 7, 3) := by decide +kernel
theorem dX3_kindOf_0 : decode cX3_kindOf 0 = .ok (.aload_n 0, 1) := by decide +kernel
theorem dX3_kindOf_1 : decode cX3_kindOf 1 = .ok (.iload_n 1, 1) := by decide +kernel
theorem dX3_kindOf_19 : decode cX3_kindOf 19 = .ok (.iconst 0, 1) := by decide +kernel
theorem dX3_kindOf_2 : decode cX3_kindOf 2 = .ok (.invokevirtual 83, 3) := by decide +kernel
theorem dX3_kindOf_20 : decode cX3_kindOf 20 = .ok (.ireturn, 1) := by decide +kernel
theorem dX3_kindOf_5 : decode cX3_kindOf 5 = .ok (.istore_n 2, 1) := by decide +kernel
theorem dX3_kindOf_6 : decode cX3_kindOf 6 = .ok (.iload_n 2, 1) := by decide +kernel
theorem dX3_kindOf_7 : decode cX3_kindOf 7 = .ok (.ifCond .lt 12, 3) := by decide +kernel
theorem dX3_rowOf_0 : decode cX3_rowOf 0 = .ok (.bipush (-2), 2) := by decide +kernel
theorem dX3_rowOf_10 : decode cX3_rowOf 10 = .ok (.aload_n 0, 1) := by decide +kernel
theorem dX3_rowOf_11 : decode cX3_rowOf 11 = .ok (.getfield 49, 3) := by decide +kernel
theorem dX3_rowOf_14 : decode cX3_rowOf 14 = .ok (.if_icmp .ge 14, 3) := by decide +kernel
theorem dX3_rowOf_17 : decode cX3_rowOf 17 = .ok (.iload_n 2, 1) := by decide +kernel
theorem dX3_rowOf_18 : decode cX3_rowOf 18 = .ok (.sipush 600, 3) := by decide +kernel
theorem dX3_rowOf_2 : decode cX3_rowOf 2 = .ok (.iload_n 1, 1) := by decide +kernel
theorem dX3_rowOf_21 : decode cX3_rowOf 21 = .ok (.if_icmp .ge 7, 3) := by decide +kernel
theorem dX3_rowOf_24 : decode cX3_rowOf 24 = .ok (.iload_n 2, 1) := by decide +kernel
theorem dX3_rowOf_25 : decode cX3_rowOf 25 = .ok (.goto 4, 3) := by decide +kernel
theorem dX3_rowOf_28 : decode cX3_rowOf 28 = .ok (.iconst (-1), 1) := by decide +kernel
theorem dX3_rowOf_29 : decode cX3_rowOf 29 = .ok (.ireturn, 1) := by decide +kernel
theorem dX3_rowOf_3 : decode cX3_rowOf 3 = .ok (.isub, 1) := by decide +kernel
theorem dX3_rowOf_4 : decode cX3_rowOf 4 = .ok (.istore_n 2, 1) := by decide +kernel
theorem dX3_rowOf_5 : decode cX3_rowOf 5 = .ok (.iload_n 2, 1) := by decide +kernel
theorem dX3_rowOf_6 : decode cX3_rowOf 6 = .ok (.ifCond .lt 22, 3) := by decide +kernel
theorem dX3_rowOf_9 : decode cX3_rowOf 9 = .ok (.iload_n 2, 1) := by decide +kernel
theorem dX3_size_0 : decode cX3_size 0 = .ok (.aload_n 0, 1) := by decide +kernel
theorem dX3_size_1 : decode cX3_size 1 = .ok (.getfield 49, 3) := by decide +kernel
theorem dX3_size_4 : decode cX3_size 4 = .ok (.ireturn, 1) := by decide +kernel
theorem dX4_forget_0 : decode cX4_forget 0 = .ok (.aload_n 0, 1) := by decide +kernel
theorem dX4_forget_1 : decode cX4_forget 1 = .ok (.dup, 1) := by decide +kernel
theorem dX4_forget_10 : decode cX4_forget 10 = .ok (.return_, 1) := by decide +kernel
theorem dX4_forget_2 : decode cX4_forget 2 = .ok (.getfield 18, 3) := by decide +kernel
theorem dX4_forget_5 : decode cX4_forget 5 = .ok (.iconst 1, 1) := by decide +kernel
theorem dX4_forget_6 : decode cX4_forget 6 = .ok (.iadd, 1) := by decide +kernel
theorem dX4_forget_7 : decode cX4_forget 7 = .ok (.putfield 18, 3) := by decide +kernel
theorem dX4_init_0 : decode cX4_init 0 = .ok (.aload_n 0, 1) := by decide +kernel
theorem dX4_init_1 : decode cX4_init 1 = .ok (.invokespecial 3, 3) := by decide +kernel
theorem dX4_init_10 : decode cX4_init 10 = .ok (.putfield 9, 3) := by decide +kernel
theorem dX4_init_13 : decode cX4_init 13 = .ok (.aload_n 0, 1) := by decide +kernel
theorem dX4_init_14 : decode cX4_init 14 = .ok (.sipush 600, 3) := by decide +kernel
theorem dX4_init_17 : decode cX4_init 17 = .ok (.newarray .int, 2) := by decide +kernel
theorem dX4_init_19 : decode cX4_init 19 = .ok (.putfield 15, 3) := by decide +kernel
theorem dX4_init_22 : decode cX4_init 22 = .ok (.aload_n 0, 1) := by decide +kernel
theorem dX4_init_23 : decode cX4_init 23 = .ok (.iconst 1, 1) := by decide +kernel
theorem dX4_init_24 : decode cX4_init 24 = .ok (.putfield 18, 3) := by decide +kernel
theorem dX4_init_27 : decode cX4_init 27 = .ok (.return_, 1) := by decide +kernel
theorem dX4_init_4 : decode cX4_init 4 = .ok (.aload_n 0, 1) := by decide +kernel
theorem dX4_init_5 : decode cX4_init 5 = .ok (.sipush 600, 3) := by decide +kernel
theorem dX4_init_8 : decode cX4_init 8 = .ok (.newarray .int, 2) := by decide +kernel
theorem dX5_begin_0 : decode cX5_begin 0 = .ok (.aload_n 0, 1) := by decide +kernel
theorem dX5_begin_1 : decode cX5_begin 1 = .ok (.iconst 0, 1) := by decide +kernel
theorem dX5_begin_10 : decode cX5_begin 10 = .ok (.aload_n 0, 1) := by decide +kernel
theorem dX5_begin_11 : decode cX5_begin 11 = .ok (.getfield 26, 3) := by decide +kernel
theorem dX5_begin_14 : decode cX5_begin 14 = .ok (.iconst 0, 1) := by decide +kernel
theorem dX5_begin_15 : decode cX5_begin 15 = .ok (.invokevirtual 210, 3) := by decide +kernel
theorem dX5_begin_18 : decode cX5_begin 18 = .ok (.aload_n 0, 1) := by decide +kernel
theorem dX5_begin_19 : decode cX5_begin 19 = .ok (.getfield 33, 3) := by decide +kernel
theorem dX5_begin_2 : decode cX5_begin 2 = .ok (.putfield 118, 3) := by decide +kernel
theorem dX5_begin_22 : decode cX5_begin 22 = .ok (.invokevirtual 213, 3) := by decide +kernel
theorem dX5_begin_25 : decode cX5_begin 25 = .ok (.return_, 1) := by decide +kernel
theorem dX5_begin_5 : decode cX5_begin 5 = .ok (.aload_n 0, 1) := by decide +kernel
theorem dX5_begin_6 : decode cX5_begin 6 = .ok (.iconst 0, 1) := by decide +kernel
theorem dX5_begin_7 : decode cX5_begin 7 = .ok (.putfield 202, 3) := by decide +kernel
theorem dX5_requireKey_0 : decode cX5_requireKey 0 = .ok (.iload_n 1, 1) := by decide +kernel
theorem dX5_requireKey_1 : decode cX5_requireKey 1 = .ok (.ifCond .lt 10, 3) := by decide +kernel
theorem dX5_requireKey_11 : decode cX5_requireKey 11 = .ok (.new 66, 3) := by decide +kernel
theorem dX5_requireKey_14 : decode cX5_requireKey 14 = .ok (.dup, 1) := by decide +kernel
theorem dX5_requireKey_15 : decode cX5_requireKey 15 = .ok (.ldc 221, 2) := by decide +kernel
theorem dX5_requireKey_17 : decode cX5_requireKey 17 = .ok (.invokespecial 70, 3) := by decide +kernel
theorem dX5_requireKey_20 : decode cX5_requireKey 20 = .ok (.athrow, 1) := by decide +kernel
theorem dX5_requireKey_21 : decode cX5_requireKey 21 = .ok (.return_, 1) := by decide +kernel
theorem dX5_requireKey_4 : decode cX5_requireKey 4 = .ok (.iload_n 1, 1) := by decide +kernel
theorem dX5_requireKey_5 : decode cX5_requireKey 5 = .ok (.sipush 250, 3) := by decide +kernel
theorem dX5_requireKey_8 : decode cX5_requireKey 8 = .ok (.if_icmp .lt 13, 3) := by decide +kernel
theorem dX5_requireObject_0 : decode cX5_requireObject 0 = .ok (.aload_n 0, 1) := by decide +kernel
theorem dX5_requireObject_1 : decode cX5_requireObject 1 = .ok (.getfield 12, 3) := by decide +kernel
theorem dX5_requireObject_11 : decode cX5_requireObject 11 = .ok (.new 66, 3) := by decide +kernel
theorem dX5_requireObject_14 : decode cX5_requireObject 14 = .ok (.dup, 1) := by decide +kernel
theorem dX5_requireObject_15 : decode cX5_requireObject 15 = .ok (.ldc 219, 2) := by decide +kernel
theorem dX5_requireObject_17 : decode cX5_requireObject 17 = .ok (.invokespecial 70, 3) := by decide +kernel
theorem dX5_requireObject_20 : decode cX5_requireObject 20 = .ok (.athrow, 1) := by decide +kernel
theorem dX5_requireObject_4 : decode cX5_requireObject 4 = .ok (.iload_n 1, 1) := by decide +kernel
theorem dX5_requireObject_5 : decode cX5_requireObject 5 = .ok (.invokevirtual 216, 3) := by decide +kernel
theorem dX5_requireObject_8 : decode cX5_requireObject 8 = .ok (.ifCond .ne 13, 3) := by decide +kernel
theorem dX5_requirePrototype_0 : decode cX5_requirePrototype 0 = .ok (.iload_n 1, 1) := by decide +kernel
theorem dX5_requirePrototype_1 : decode cX5_requirePrototype 1 = .ok (.iconst (-1), 1) := by decide +kernel
theorem dX5_requirePrototype_10 : decode cX5_requirePrototype 10 = .ok (.return_, 1) := by decide +kernel
theorem dX5_requirePrototype_2 : decode cX5_requirePrototype 2 = .ok (.if_icmp .eq 8, 3) := by decide +kernel
theorem dX5_requirePrototype_5 : decode cX5_requirePrototype 5 = .ok (.aload_n 0, 1) := by decide +kernel
theorem dX5_requirePrototype_6 : decode cX5_requirePrototype 6 = .ok (.iload_n 1, 1) := by decide +kernel
theorem dX5_requirePrototype_7 : decode cX5_requirePrototype 7 = .ok (.invokevirtual 88, 3) := by decide +kernel
