theorem dE4_0 : decode prog_13_method_5_code 0 = .ok (.aload_n 0, 1) := by decide +kernel
theorem dE4_1 : decode prog_13_method_5_code 1 = .ok (.aload_n 1, 1) := by decide +kernel
theorem dE4_2 : decode prog_13_method_5_code 2 = .ok (.aload_n 2, 1) := by decide +kernel
theorem dE4_3 : decode prog_13_method_5_code 3 = .ok (.iload_n 3, 1) := by decide +kernel
theorem dE4_4 : decode prog_13_method_5_code 4 = .ok (.iload 4, 2) := by decide +kernel
theorem dE4_6 : decode prog_13_method_5_code 6 = .ok (.invokespecial 16, 3) := by decide +kernel
theorem dE4_9 : decode prog_13_method_5_code 9 = .ok (.return_, 1) := by decide +kernel
theorem dR4_0 : decode prog_18_method_5_code 0 = .ok (.aload_n 0, 1) := by decide +kernel
theorem dR4_1 : decode prog_18_method_5_code 1 = .ok (.aload_n 1, 1) := by decide +kernel
theorem dR4_2 : decode prog_18_method_5_code 2 = .ok (.aload_n 2, 1) := by decide +kernel
theorem dR4_3 : decode prog_18_method_5_code 3 = .ok (.iload_n 3, 1) := by decide +kernel
theorem dR4_4 : decode prog_18_method_5_code 4 = .ok (.iload 4, 2) := by decide +kernel
theorem dR4_6 : decode prog_18_method_5_code 6 = .ok (.invokespecial 16, 3) := by decide +kernel
theorem dR4_9 : decode prog_18_method_5_code 9 = .ok (.return_, 1) := by decide +kernel
theorem dT4_0 : decode prog_20_method_5_code 0 = .ok (.aload_n 0, 1) := by decide +kernel
theorem dT4_1 : decode prog_20_method_5_code 1 = .ok (.invokespecial 1, 3) := by decide +kernel
theorem dT4_10 : decode prog_20_method_5_code 10 = .ok (.getstatic 13, 3) := by decide +kernel
theorem dT4_13 : decode prog_20_method_5_code 13 = .ok (.putfield 17, 3) := by decide +kernel
theorem dT4_16 : decode prog_20_method_5_code 16 = .ok (.aload_n 0, 1) := by decide +kernel
theorem dT4_17 : decode prog_20_method_5_code 17 = .ok (.getstatic 20, 3) := by decide +kernel
theorem dT4_20 : decode prog_20_method_5_code 20 = .ok (.putfield 24, 3) := by decide +kernel
theorem dT4_23 : decode prog_20_method_5_code 23 = .ok (.iload 4, 2) := by decide +kernel
theorem dT4_25 : decode prog_20_method_5_code 25 = .ok (.ifCond .eq 11, 3) := by decide +kernel
theorem dT4_36 : decode prog_20_method_5_code 36 = .ok (.aload_n 0, 1) := by decide +kernel
theorem dT4_37 : decode prog_20_method_5_code 37 = .ok (.aconst_null, 1) := by decide +kernel
theorem dT4_38 : decode prog_20_method_5_code 38 = .ok (.putfield 17, 3) := by decide +kernel
theorem dT4_4 : decode prog_20_method_5_code 4 = .ok (.aload_n 0, 1) := by decide +kernel
theorem dT4_41 : decode prog_20_method_5_code 41 = .ok (.aload_n 0, 1) := by decide +kernel
theorem dT4_42 : decode prog_20_method_5_code 42 = .ok (.aload_n 1, 1) := by decide +kernel
theorem dT4_43 : decode prog_20_method_5_code 43 = .ok (.putfield 31, 3) := by decide +kernel
theorem dT4_46 : decode prog_20_method_5_code 46 = .ok (.aload_n 0, 1) := by decide +kernel
theorem dT4_47 : decode prog_20_method_5_code 47 = .ok (.aload_n 2, 1) := by decide +kernel
theorem dT4_48 : decode prog_20_method_5_code 48 = .ok (.putfield 7, 3) := by decide +kernel
theorem dT4_5 : decode prog_20_method_5_code 5 = .ok (.aload_n 0, 1) := by decide +kernel
theorem dT4_51 : decode prog_20_method_5_code 51 = .ok (.iload_n 3, 1) := by decide +kernel
theorem dT4_52 : decode prog_20_method_5_code 52 = .ok (.ifCond .ne 8, 3) := by decide +kernel
theorem dT4_55 : decode prog_20_method_5_code 55 = .ok (.aload_n 0, 1) := by decide +kernel
theorem dT4_56 : decode prog_20_method_5_code 56 = .ok (.aconst_null, 1) := by decide +kernel
theorem dT4_57 : decode prog_20_method_5_code 57 = .ok (.putfield 24, 3) := by decide +kernel
theorem dT4_6 : decode prog_20_method_5_code 6 = .ok (.putfield 7, 3) := by decide +kernel
theorem dT4_60 : decode prog_20_method_5_code 60 = .ok (.return_, 1) := by decide +kernel
theorem dT4_9 : decode prog_20_method_5_code 9 = .ok (.aload_n 0, 1) := by decide +kernel
theorem dX0_init_0 : decode cX0_init 0 = .ok (.aload_n 0, 1) := by decide +kernel
theorem dX0_init_1 : decode cX0_init 1 = .ok (.invokespecial 3, 3) := by decide +kernel
theorem dX0_init_4 : decode cX0_init 4 = .ok (.return_, 1) := by decide +kernel
theorem dX1_init_0 : decode cX1_init 0 = .ok (.aload_n 0, 1) := by decide +kernel
theorem dX1_init_1 : decode cX1_init 1 = .ok (.invokespecial 3, 3) := by decide +kernel
theorem dX1_init_11 : decode cX1_init 11 = .ok (.putfield 13, 3) := by decide +kernel
theorem dX1_init_14 : decode cX1_init 14 = .ok (.iconst 0, 1) := by decide +kernel
theorem dX1_init_15 : decode cX1_init 15 = .ok (.istore_n 1, 1) := by decide +kernel
theorem dX1_init_16 : decode cX1_init 16 = .ok (.iload_n 1, 1) := by decide +kernel
theorem dX1_init_17 : decode cX1_init 17 = .ok (.aload_n 0, 1) := by decide +kernel
theorem dX1_init_18 : decode cX1_init 18 = .ok (.getfield 13, 3) := by decide +kernel
theorem dX1_init_21 : decode cX1_init 21 = .ok (.arraylength, 1) := by decide +kernel
theorem dX1_init_22 : decode cX1_init 22 = .ok (.if_icmp .ge 22, 3) := by decide +kernel
theorem dX1_init_25 : decode cX1_init 25 = .ok (.aload_n 0, 1) := by decide +kernel
theorem dX1_init_26 : decode cX1_init 26 = .ok (.getfield 13, 3) := by decide +kernel
theorem dX1_init_29 : decode cX1_init 29 = .ok (.iload_n 1, 1) := by decide +kernel
theorem dX1_init_30 : decode cX1_init 30 = .ok (.new 11, 3) := by decide +kernel
theorem dX1_init_33 : decode cX1_init 33 = .ok (.dup, 1) := by decide +kernel
theorem dX1_init_34 : decode cX1_init 34 = .ok (.invokespecial 17, 3) := by decide +kernel
theorem dX1_init_37 : decode cX1_init 37 = .ok (.aastore, 1) := by decide +kernel
theorem dX1_init_38 : decode cX1_init 38 = .ok (.iinc 1 1, 3) := by decide +kernel
theorem dX1_init_4 : decode cX1_init 4 = .ok (.aload_n 0, 1) := by decide +kernel
theorem dX1_init_41 : decode cX1_init 41 = .ok (.goto (-25), 3) := by decide +kernel
theorem dX1_init_44 : decode cX1_init 44 = .ok (.return_, 1) := by decide +kernel
theorem dX1_init_5 : decode cX1_init 5 = .ok (.sipush 205, 3) := by decide +kernel
theorem dX1_init_8 : decode cX1_init 8 = .ok (.anewarray 11, 3) := by decide +kernel
theorem dX2_cutTo_0 : decode cX2_cutTo 0 = .ok (.iload_n 1, 1) := by decide +kernel
theorem dX2_cutTo_1 : decode cX2_cutTo 1 = .ok (.ifCond .lt 16, 3) := by decide +kernel
theorem dX2_cutTo_12 : decode cX2_cutTo 12 = .ok (.aload_n 0, 1) := by decide +kernel
theorem dX2_cutTo_13 : decode cX2_cutTo 13 = .ok (.iload_n 1, 1) := by decide +kernel
theorem dX2_cutTo_14 : decode cX2_cutTo 14 = .ok (.putfield 18, 3) := by decide +kernel
theorem dX2_cutTo_17 : decode cX2_cutTo 17 = .ok (.return_, 1) := by decide +kernel
theorem dX2_cutTo_4 : decode cX2_cutTo 4 = .ok (.iload_n 1, 1) := by decide +kernel
theorem dX2_cutTo_5 : decode cX2_cutTo 5 = .ok (.aload_n 0, 1) := by decide +kernel
theorem dX2_cutTo_6 : decode cX2_cutTo 6 = .ok (.getfield 18, 3) := by decide +kernel
theorem dX2_cutTo_9 : decode cX2_cutTo 9 = .ok (.if_icmp .gt 8, 3) := by decide +kernel
theorem dX2_init_0 : decode cX2_init 0 = .ok (.aload_n 0, 1) := by decide +kernel
theorem dX2_init_1 : decode cX2_init 1 = .ok (.invokespecial 3, 3) := by decide +kernel
theorem dX2_init_10 : decode cX2_init 10 = .ok (.putfield 11, 3) := by decide +kernel
theorem dX2_init_13 : decode cX2_init 13 = .ok (.aload_n 0, 1) := by decide +kernel
theorem dX2_init_14 : decode cX2_init 14 = .ok (.sipush 250, 3) := by decide +kernel
theorem dX2_init_17 : decode cX2_init 17 = .ok (.newarray .int, 2) := by decide +kernel
theorem dX2_init_19 : decode cX2_init 19 = .ok (.putfield 15, 3) := by decide +kernel
theorem dX2_init_22 : decode cX2_init 22 = .ok (.return_, 1) := by decide +kernel
theorem dX2_init_4 : decode cX2_init 4 = .ok (.aload_n 0, 1) := by decide +kernel
theorem dX2_init_5 : decode cX2_init 5 = .ok (.sipush 10291, 3) := by decide +kernel
theorem dX2_init_8 : decode cX2_init 8 = .ok (.newarray .int, 2) := by decide +kernel
theorem dX3_addArray_0 : decode cX3_addArray 0 = .ok (.aload_n 0, 1) := by decide +kernel
theorem dX3_addArray_1 : decode cX3_addArray 1 = .ok (.getfield 57, 3) := by decide +kernel
theorem dX3_addArray_18 : decode cX3_addArray 18 = .ok (.aload_n 0, 1) := by decide +kernel
theorem dX3_addArray_19 : decode cX3_addArray 19 = .ok (.iconst 2, 1) := by decide +kernel
theorem dX3_addArray_20 : decode cX3_addArray 20 = .ok (.iconst (-1), 1) := by decide +kernel
theorem dX3_addArray_21 : decode cX3_addArray 21 = .ok (.invokevirtual 53, 3) := by decide +kernel
theorem dX3_addArray_24 : decode cX3_addArray 24 = .ok (.istore_n 2, 1) := by decide +kernel
theorem dX3_addArray_25 : decode cX3_addArray 25 = .ok (.aload_n 0, 1) := by decide +kernel
theorem dX3_addArray_26 : decode cX3_addArray 26 = .ok (.iload_n 2, 1) := by decide +kernel
theorem dX3_addArray_27 : decode cX3_addArray 27 = .ok (.bipush 100, 2) := by decide +kernel
theorem dX3_addArray_29 : decode cX3_addArray 29 = .ok (.invokevirtual 67, 3) := by decide +kernel
theorem dX3_addArray_32 : decode cX3_addArray 32 = .ok (.istore_n 3, 1) := by decide +kernel
theorem dX3_addArray_33 : decode cX3_addArray 33 = .ok (.aload_n 0, 1) := by decide +kernel
theorem dX3_addArray_34 : decode cX3_addArray 34 = .ok (.iload_n 3, 1) := by decide +kernel
theorem dX3_addArray_35 : decode cX3_addArray 35 = .ok (.iload_n 1, 1) := by decide +kernel
theorem dX3_addArray_36 : decode cX3_addArray 36 = .ok (.invokevirtual 70, 3) := by decide +kernel
theorem dX3_addArray_39 : decode cX3_addArray 39 = .ok (.aload_n 0, 1) := by decide +kernel
theorem dX3_addArray_4 : decode cX3_addArray 4 = .ok (.iconst (-1), 1) := by decide +kernel
theorem dX3_addArray_40 : decode cX3_addArray 40 = .ok (.iload_n 3, 1) := by decide +kernel
theorem dX3_addArray_41 : decode cX3_addArray 41 = .ok (.iconst 2, 1) := by decide +kernel
theorem dX3_addArray_42 : decode cX3_addArray 42 = .ok (.invokevirtual 74, 3) := by decide +kernel
theorem dX3_addArray_45 : decode cX3_addArray 45 = .ok (.iload_n 2, 1) := by decide +kernel
theorem dX3_addArray_46 : decode cX3_addArray 46 = .ok (.ireturn, 1) := by decide +kernel
theorem dX3_addArray_5 : decode cX3_addArray 5 = .ok (.if_icmp .ne 13, 3) := by decide +kernel
theorem dX3_addFunction_0 : decode cX3_addFunction 0 = .ok (.aload_n 0, 1) := by decide +kernel
theorem dX3_addFunction_1 : decode cX3_addFunction 1 = .ok (.iconst 3, 1) := by decide +kernel
theorem dX3_addFunction_11 : decode cX3_addFunction 11 = .ok (.iload_n 1, 1) := by decide +kernel
theorem dX3_addFunction_12 : decode cX3_addFunction 12 = .ok (.iload_n 2, 1) := by decide +kernel
theorem dX3_addFunction_13 : decode cX3_addFunction 13 = .ok (.iload_n 3, 1) := by decide +kernel
theorem dX3_addFunction_14 : decode cX3_addFunction 14 = .ok (.invokevirtual 77, 3) := by decide +kernel
theorem dX3_addFunction_17 : decode cX3_addFunction 17 = .ok (.iload 4, 2) := by decide +kernel
theorem dX3_addFunction_19 : decode cX3_addFunction 19 = .ok (.ireturn, 1) := by decide +kernel
theorem dX3_addFunction_2 : decode cX3_addFunction 2 = .ok (.iconst (-1), 1) := by decide +kernel
theorem dX3_addFunction_3 : decode cX3_addFunction 3 = .ok (.invokevirtual 53, 3) := by decide +kernel
theorem dX3_addFunction_6 : decode cX3_addFunction 6 = .ok (.istore 4, 2) := by decide +kernel
theorem dX3_addFunction_8 : decode cX3_addFunction 8 = .ok (.aload_n 0, 1) := by decide +kernel
theorem dX3_addFunction_9 : decode cX3_addFunction 9 = .ok (.iload 4, 2) := by decide +kernel
theorem dX3_addOrdinary_0 : decode cX3_addOrdinary 0 = .ok (.aload_n 0, 1) := by decide +kernel
theorem dX3_addOrdinary_1 : decode cX3_addOrdinary 1 = .ok (.iconst 1, 1) := by decide +kernel
theorem dX3_addOrdinary_2 : decode cX3_addOrdinary 2 = .ok (.iload_n 1, 1) := by decide +kernel
theorem dX3_addOrdinary_3 : decode cX3_addOrdinary 3 = .ok (.invokevirtual 53, 3) := by decide +kernel
theorem dX3_addOrdinary_6 : decode cX3_addOrdinary 6 = .ok (.ireturn, 1) := by decide +kernel
theorem dX3_add_0 : decode cX3_add 0 = .ok (.aload_n 0, 1) := by decide +kernel
theorem dX3_add_1 : decode cX3_add 1 = .ok (.getfield 49, 3) := by decide +kernel
theorem dX3_add_12 : decode cX3_add 12 = .ok (.iload_n 3, 1) := by decide +kernel
theorem dX3_add_13 : decode cX3_add 13 = .ok (.aload_n 0, 1) := by decide +kernel
theorem dX3_add_14 : decode cX3_add 14 = .ok (.getfield 9, 3) := by decide +kernel
theorem dX3_add_17 : decode cX3_add 17 = .ok (.arraylength, 1) := by decide +kernel
theorem dX3_add_18 : decode cX3_add 18 = .ok (.if_icmp .lt 13, 3) := by decide +kernel
theorem dX3_add_31 : decode cX3_add 31 = .ok (.aload_n 0, 1) := by decide +kernel
theorem dX3_add_32 : decode cX3_add 32 = .ok (.getfield 9, 3) := by decide +kernel
theorem dX3_add_35 : decode cX3_add 35 = .ok (.iload_n 3, 1) := by decide +kernel
theorem dX3_add_36 : decode cX3_add 36 = .ok (.iload_n 1, 1) := by decide +kernel
theorem dX3_add_37 : decode cX3_add 37 = .ok (.iastore, 1) := by decide +kernel
theorem dX3_add_38 : decode cX3_add 38 = .ok (.aload_n 0, 1) := by decide +kernel
theorem dX3_add_39 : decode cX3_add 39 = .ok (.getfield 15, 3) := by decide +kernel
theorem dX3_add_4 : decode cX3_add 4 = .ok (.istore_n 3, 1) := by decide +kernel
theorem dX3_add_42 : decode cX3_add 42 = .ok (.iload_n 3, 1) := by decide +kernel
theorem dX3_add_43 : decode cX3_add 43 = .ok (.iload_n 2, 1) := by decide +kernel
theorem dX3_add_44 : decode cX3_add 44 = .ok (.iastore, 1) := by decide +kernel
theorem dX3_add_45 : decode cX3_add 45 = .ok (.aload_n 0, 1) := by decide +kernel
theorem dX3_add_46 : decode cX3_add 46 = .ok (.getfield 18, 3) := by decide +kernel
theorem dX3_add_49 : decode cX3_add 49 = .ok (.iload_n 3, 1) := by decide +kernel
theorem dX3_add_5 : decode cX3_add 5 = .ok (.iload_n 3, 1) := by decide +kernel
theorem dX3_add_50 : decode cX3_add 50 = .ok (.iconst 1, 1) := by decide +kernel
theorem dX3_add_51 : decode cX3_add 51 = .ok (.bastore, 1) := by decide +kernel
theorem dX3_add_52 : decode cX3_add 52 = .ok (.aload_n 0, 1) := by decide +kernel
theorem dX3_add_53 : decode cX3_add 53 = .ok (.getfield 22, 3) := by decide +kernel
theorem dX3_add_56 : decode cX3_add 56 = .ok (.iload_n 3, 1) := by decide +kernel
theorem dX3_add_57 : decode cX3_add 57 = .ok (.iconst (-1), 1) := by decide +kernel
theorem dX3_add_58 : decode cX3_add 58 = .ok (.iastore, 1) := by decide +kernel
theorem dX3_add_59 : decode cX3_add 59 = .ok (.aload_n 0, 1) := by decide +kernel
theorem dX3_add_6 : decode cX3_add 6 = .ok (.sipush 600, 3) := by decide +kernel
theorem dX3_add_60 : decode cX3_add 60 = .ok (.dup, 1) := by decide +kernel
theorem dX3_add_61 : decode cX3_add 61 = .ok (.getfield 49, 3) := by decide +kernel
theorem dX3_add_64 : decode cX3_add 64 = .ok (.iconst 1, 1) := by decide +kernel
theorem dX3_add_65 : decode cX3_add 65 = .ok (.iadd, 1) := by decide +kernel
theorem dX3_add_66 : decode cX3_add 66 = .ok (.putfield 49, 3) := by decide +kernel
theorem dX3_add_69 : decode cX3_add 69 = .ok (.bipush (-2), 2) := by decide +kernel
theorem dX3_add_71 : decode cX3_add 71 = .ok (.iload_n 3, 1) := by decide +kernel
theorem dX3_add_72 : decode cX3_add 72 = .ok (.isub, 1) := by decide +kernel
theorem dX3_add_73 : decode cX3_add 73 = .ok (.ireturn, 1) := by decide +kernel
theorem dX3_add_9 : decode cX3_add 9 = .ok (.if_icmp .ge 12, 3) := by decide +kernel
theorem dX3_append_0 : decode cX3_append 0 = .ok (.aload_n 0, 1) := by decide +kernel
theorem dX3_append_1 : decode cX3_append 1 = .ok (.getfield 57, 3) := by decide +kernel
theorem dX3_append_10 : decode cX3_append 10 = .ok (.ifCond .ne 13, 3) := by decide +kernel
theorem dX3_append_100 : decode cX3_append 100 = .ok (.aload_n 0, 1) := by decide +kernel
theorem dX3_append_101 : decode cX3_append 101 = .ok (.iload_n 1, 1) := by decide +kernel
theorem dX3_append_102 : decode cX3_append 102 = .ok (.iload 5, 2) := by decide +kernel
theorem dX3_append_104 : decode cX3_append 104 = .ok (.iload_n 3, 1) := by decide +kernel
theorem dX3_append_105 : decode cX3_append 105 = .ok (.invokevirtual 128, 3) := by decide +kernel
theorem dX3_append_108 : decode cX3_append 108 = .ok (.iload_n 3, 1) := by decide +kernel
theorem dX3_append_109 : decode cX3_append 109 = .ok (.ireturn, 1) := by decide +kernel
theorem dX3_append_23 : decode cX3_append 23 = .ok (.aload_n 0, 1) := by decide +kernel
theorem dX3_append_24 : decode cX3_append 24 = .ok (.aload_n 0, 1) := by decide +kernel
theorem dX3_append_25 : decode cX3_append 25 = .ok (.getfield 46, 3) := by decide +kernel
theorem dX3_append_28 : decode cX3_append 28 = .ok (.iload_n 3, 1) := by decide +kernel
theorem dX3_append_29 : decode cX3_append 29 = .ok (.iaload, 1) := by decide +kernel
theorem dX3_append_30 : decode cX3_append 30 = .ok (.putfield 57, 3) := by decide +kernel
theorem dX3_append_33 : decode cX3_append 33 = .ok (.aload_n 0, 1) := by decide +kernel
theorem dX3_append_34 : decode cX3_append 34 = .ok (.getfield 34, 3) := by decide +kernel
theorem dX3_append_37 : decode cX3_append 37 = .ok (.iload_n 3, 1) := by decide +kernel
theorem dX3_append_38 : decode cX3_append 38 = .ok (.iload_n 2, 1) := by decide +kernel
theorem dX3_append_39 : decode cX3_append 39 = .ok (.iastore, 1) := by decide +kernel
theorem dX3_append_4 : decode cX3_append 4 = .ok (.istore_n 3, 1) := by decide +kernel
theorem dX3_append_40 : decode cX3_append 40 = .ok (.aload_n 0, 1) := by decide +kernel
theorem dX3_append_41 : decode cX3_append 41 = .ok (.getfield 37, 3) := by decide +kernel
theorem dX3_append_44 : decode cX3_append 44 = .ok (.iload_n 3, 1) := by decide +kernel
theorem dX3_append_45 : decode cX3_append 45 = .ok (.iconst (-1), 1) := by decide +kernel
theorem dX3_append_46 : decode cX3_append 46 = .ok (.iastore, 1) := by decide +kernel
theorem dX3_append_47 : decode cX3_append 47 = .ok (.aload_n 0, 1) := by decide +kernel
theorem dX3_append_48 : decode cX3_append 48 = .ok (.getfield 40, 3) := by decide +kernel
theorem dX3_append_5 : decode cX3_append 5 = .ok (.aload_n 0, 1) := by decide +kernel
theorem dX3_append_51 : decode cX3_append 51 = .ok (.iload_n 3, 1) := by decide +kernel
theorem dX3_append_52 : decode cX3_append 52 = .ok (.iconst (-1), 1) := by decide +kernel
theorem dX3_append_53 : decode cX3_append 53 = .ok (.iastore, 1) := by decide +kernel
theorem dX3_append_54 : decode cX3_append 54 = .ok (.aload_n 0, 1) := by decide +kernel
theorem dX3_append_55 : decode cX3_append 55 = .ok (.getfield 43, 3) := by decide +kernel
theorem dX3_append_58 : decode cX3_append 58 = .ok (.iload_n 3, 1) := by decide +kernel
theorem dX3_append_59 : decode cX3_append 59 = .ok (.iconst 0, 1) := by decide +kernel
theorem dX3_append_6 : decode cX3_append 6 = .ok (.iload_n 3, 1) := by decide +kernel
theorem dX3_append_60 : decode cX3_append 60 = .ok (.iastore, 1) := by decide +kernel
theorem dX3_append_61 : decode cX3_append 61 = .ok (.aload_n 0, 1) := by decide +kernel
theorem dX3_append_62 : decode cX3_append 62 = .ok (.iload_n 1, 1) := by decide +kernel
theorem dX3_append_63 : decode cX3_append 63 = .ok (.invokevirtual 113, 3) := by decide +kernel
theorem dX3_append_66 : decode cX3_append 66 = .ok (.istore 4, 2) := by decide +kernel
theorem dX3_append_68 : decode cX3_append 68 = .ok (.aload_n 0, 1) := by decide +kernel
theorem dX3_append_69 : decode cX3_append 69 = .ok (.iload 4, 2) := by decide +kernel
theorem dX3_append_7 : decode cX3_append 7 = .ok (.invokevirtual 107, 3) := by decide +kernel
theorem dX3_append_71 : decode cX3_append 71 = .ok (.iload_n 2, 1) := by decide +kernel
theorem dX3_append_72 : decode cX3_append 72 = .ok (.invokevirtual 122, 3) := by decide +kernel
theorem dX3_append_75 : decode cX3_append 75 = .ok (.istore 5, 2) := by decide +kernel
theorem dX3_append_77 : decode cX3_append 77 = .ok (.aload_n 0, 1) := by decide +kernel
theorem dX3_append_78 : decode cX3_append 78 = .ok (.getfield 46, 3) := by decide +kernel
theorem dX3_append_81 : decode cX3_append 81 = .ok (.iload_n 3, 1) := by decide +kernel
theorem dX3_append_82 : decode cX3_append 82 = .ok (.iload 5, 2) := by decide +kernel
theorem dX3_append_84 : decode cX3_append 84 = .ok (.iconst (-1), 1) := by decide +kernel
theorem dX3_append_85 : decode cX3_append 85 = .ok (.if_icmp .ne 8, 3) := by decide +kernel
theorem dX3_append_88 : decode cX3_append 88 = .ok (.iload 4, 2) := by decide +kernel
theorem dX3_append_90 : decode cX3_append 90 = .ok (.goto 9, 3) := by decide +kernel
theorem dX3_append_99 : decode cX3_append 99 = .ok (.iastore, 1) := by decide +kernel
theorem dX3_firstSlotOf_0 : decode cX3_firstSlotOf 0 = .ok (.aload_n 0, 1) := by decide +kernel
theorem dX3_firstSlotOf_1 : decode cX3_firstSlotOf 1 = .ok (.iload_n 1, 1) := by decide +kernel
theorem dX3_firstSlotOf_10 : decode cX3_firstSlotOf 10 = .ok (.aload_n 0, 1) := by decide +kernel
theorem dX3_firstSlotOf_11 : decode cX3_firstSlotOf 11 = .ok (.getfield 22, 3) := by decide +kernel
theorem dX3_firstSlotOf_14 : decode cX3_firstSlotOf 14 = .ok (.iload_n 2, 1) := by decide +kernel
theorem dX3_firstSlotOf_15 : decode cX3_firstSlotOf 15 = .ok (.iaload, 1) := by decide +kernel
theorem dX3_firstSlotOf_16 : decode cX3_firstSlotOf 16 = .ok (.goto 4, 3) := by decide +kernel
theorem dX3_firstSlotOf_2 : decode cX3_firstSlotOf 2 = .ok (.invokevirtual 83, 3) := by decide +kernel
theorem dX3_firstSlotOf_20 : decode cX3_firstSlotOf 20 = .ok (.ireturn, 1) := by decide +kernel
theorem dX3_firstSlotOf_5 : decode cX3_firstSlotOf 5 = .ok (.istore_n 2, 1) := by decide +kernel
theorem dX3_firstSlotOf_6 : decode cX3_firstSlotOf 6 = .ok (.iload_n 2, 1) := by decide +kernel
theorem dX3_firstSlotOf_7 : decode cX3_firstSlotOf 7 = .ok (.ifCond .lt 12, 3) := by decide +kernel
theorem dX3_init_0 : decode cX3_init 0 = .ok (.aload_n 0, 1) := by decide +kernel
theorem dX3_init_1 : decode cX3_init 1 = .ok (.invokespecial 3, 3) := by decide +kernel
theorem dX3_init_10 : decode cX3_init 10 = .ok (.putfield 9, 3) := by decide +kernel
theorem dX3_init_100 : decode cX3_init 100 = .ok (.putfield 43, 3) := by decide +kernel
theorem dX3_init_103 : decode cX3_init 103 = .ok (.aload_n 0, 1) := by decide +kernel
theorem dX3_init_104 : decode cX3_init 104 = .ok (.sipush 5999, 3) := by decide +kernel
theorem dX3_init_107 : decode cX3_init 107 = .ok (.newarray .int, 2) := by decide +kernel
theorem dX3_init_109 : decode cX3_init 109 = .ok (.putfield 46, 3) := by decide +kernel
theorem dX3_init_112 : decode cX3_init 112 = .ok (.iconst 0, 1) := by decide +kernel
theorem dX3_init_113 : decode cX3_init 113 = .ok (.istore_n 1, 1) := by decide +kernel
theorem dX3_init_114 : decode cX3_init 114 = .ok (.iload_n 1, 1) := by decide +kernel
theorem dX3_init_115 : decode cX3_init 115 = .ok (.aload_n 0, 1) := by decide +kernel
theorem dX3_init_116 : decode cX3_init 116 = .ok (.getfield 46, 3) := by decide +kernel
theorem dX3_init_119 : decode cX3_init 119 = .ok (.arraylength, 1) := by decide +kernel
theorem dX3_init_120 : decode cX3_init 120 = .ok (.if_icmp .ge 33, 3) := by decide +kernel
theorem dX3_init_123 : decode cX3_init 123 = .ok (.aload_n 0, 1) := by decide +kernel
theorem dX3_init_124 : decode cX3_init 124 = .ok (.getfield 46, 3) := by decide +kernel
theorem dX3_init_127 : decode cX3_init 127 = .ok (.iload_n 1, 1) := by decide +kernel
theorem dX3_init_128 : decode cX3_init 128 = .ok (.iload_n 1, 1) := by decide +kernel
theorem dX3_init_129 : decode cX3_init 129 = .ok (.iconst 1, 1) := by decide +kernel
theorem dX3_init_13 : decode cX3_init 13 = .ok (.aload_n 0, 1) := by decide +kernel
theorem dX3_init_130 : decode cX3_init 130 = .ok (.iadd, 1) := by decide +kernel
theorem dX3_init_131 : decode cX3_init 131 = .ok (.aload_n 0, 1) := by decide +kernel
theorem dX3_init_132 : decode cX3_init 132 = .ok (.getfield 46, 3) := by decide +kernel
theorem dX3_init_135 : decode cX3_init 135 = .ok (.arraylength, 1) := by decide +kernel
theorem dX3_init_136 : decode cX3_init 136 = .ok (.if_icmp .ge 9, 3) := by decide +kernel
theorem dX3_init_139 : decode cX3_init 139 = .ok (.iload_n 1, 1) := by decide +kernel
theorem dX3_init_14 : decode cX3_init 14 = .ok (.sipush 600, 3) := by decide +kernel
theorem dX3_init_140 : decode cX3_init 140 = .ok (.iconst 1, 1) := by decide +kernel
theorem dX3_init_141 : decode cX3_init 141 = .ok (.iadd, 1) := by decide +kernel
theorem dX3_init_142 : decode cX3_init 142 = .ok (.goto 4, 3) := by decide +kernel
theorem dX3_init_145 : decode cX3_init 145 = .ok (.iconst (-1), 1) := by decide +kernel
theorem dX3_init_146 : decode cX3_init 146 = .ok (.iastore, 1) := by decide +kernel
theorem dX3_init_147 : decode cX3_init 147 = .ok (.iinc 1 1, 3) := by decide +kernel
theorem dX3_init_150 : decode cX3_init 150 = .ok (.goto (-36), 3) := by decide +kernel
theorem dX3_init_153 : decode cX3_init 153 = .ok (.return_, 1) := by decide +kernel
theorem dX3_init_17 : decode cX3_init 17 = .ok (.newarray .int, 2) := by decide +kernel
theorem dX3_init_19 : decode cX3_init 19 = .ok (.putfield 15, 3) := by decide +kernel
theorem dX3_init_22 : decode cX3_init 22 = .ok (.aload_n 0, 1) := by decide +kernel
theorem dX3_init_23 : decode cX3_init 23 = .ok (.sipush 600, 3) := by decide +kernel
theorem dX3_init_26 : decode cX3_init 26 = .ok (.newarray .boolean, 2) := by decide +kernel
theorem dX3_init_28 : decode cX3_init 28 = .ok (.putfield 18, 3) := by decide +kernel
theorem dX3_init_31 : decode cX3_init 31 = .ok (.aload_n 0, 1) := by decide +kernel
theorem dX3_init_32 : decode cX3_init 32 = .ok (.sipush 600, 3) := by decide +kernel
theorem dX3_init_35 : decode cX3_init 35 = .ok (.newarray .int, 2) := by decide +kernel
theorem dX3_init_37 : decode cX3_init 37 = .ok (.putfield 22, 3) := by decide +kernel
theorem dX3_init_4 : decode cX3_init 4 = .ok (.aload_n 0, 1) := by decide +kernel
theorem dX3_init_40 : decode cX3_init 40 = .ok (.aload_n 0, 1) := by decide +kernel
theorem dX3_init_41 : decode cX3_init 41 = .ok (.sipush 600, 3) := by decide +kernel
theorem dX3_init_44 : decode cX3_init 44 = .ok (.newarray .int, 2) := by decide +kernel
theorem dX3_init_46 : decode cX3_init 46 = .ok (.putfield 25, 3) := by decide +kernel
theorem dX3_init_49 : decode cX3_init 49 = .ok (.aload_n 0, 1) := by decide +kernel
theorem dX3_init_5 : decode cX3_init 5 = .ok (.sipush 600, 3) := by decide +kernel
theorem dX3_init_50 : decode cX3_init 50 = .ok (.sipush 600, 3) := by decide +kernel
theorem dX3_init_53 : decode cX3_init 53 = .ok (.newarray .int, 2) := by decide +kernel
theorem dX3_init_55 : decode cX3_init 55 = .ok (.putfield 28, 3) := by decide +kernel
theorem dX3_init_58 : decode cX3_init 58 = .ok (.aload_n 0, 1) := by decide +kernel
theorem dX3_init_59 : decode cX3_init 59 = .ok (.sipush 600, 3) := by decide +kernel
theorem dX3_init_62 : decode cX3_init 62 = .ok (.newarray .int, 2) := by decide +kernel
theorem dX3_init_64 : decode cX3_init 64 = .ok (.putfield 31, 3) := by decide +kernel
theorem dX3_init_67 : decode cX3_init 67 = .ok (.aload_n 0, 1) := by decide +kernel
theorem dX3_init_68 : decode cX3_init 68 = .ok (.sipush 5999, 3) := by decide +kernel
theorem dX3_init_71 : decode cX3_init 71 = .ok (.newarray .int, 2) := by decide +kernel
theorem dX3_init_73 : decode cX3_init 73 = .ok (.putfield 34, 3) := by decide +kernel
theorem dX3_init_76 : decode cX3_init 76 = .ok (.aload_n 0, 1) := by decide +kernel
theorem dX3_init_77 : decode cX3_init 77 = .ok (.sipush 5999, 3) := by decide +kernel
theorem dX3_init_8 : decode cX3_init 8 = .ok (.newarray .int, 2) := by decide +kernel
theorem dX3_init_80 : decode cX3_init 80 = .ok (.newarray .int, 2) := by decide +kernel
theorem dX3_init_82 : decode cX3_init 82 = .ok (.putfield 37, 3) := by decide +kernel
theorem dX3_init_85 : decode cX3_init 85 = .ok (.aload_n 0, 1) := by decide +kernel
theorem dX3_init_86 : decode cX3_init 86 = .ok (.sipush 5999, 3) := by decide +kernel
theorem dX3_init_89 : decode cX3_init 89 = .ok (.newarray .int, 2) := by decide +kernel
theorem dX3_init_91 : decode cX3_init 91 = .ok (.putfield 40, 3) := by decide +kernel
theorem dX3_init_94 : decode cX3_init 94 = .ok (.aload_n 0, 1) := by decide +kernel
theorem dX3_init_95 : decode cX3_init 95 = .ok (.sipush 5999, 3) := by decide +kernel
theorem dX3_init_98 : decode cX3_init 98 = .ok (.newarray .int, 2) := by decide +kernel
theorem dX3_isObject_0 : decode cX3_isObject 0 = .ok (.aload_n 0, 1) := by decide +kernel
theorem dX3_isObject_1 : decode cX3_isObject 1 = .ok (.iload_n 1, 1) := by decide +kernel
theorem dX3_isObject_12 : decode cX3_isObject 12 = .ok (.iconst 0, 1) := by decide +kernel
theorem dX3_isObject_13 : decode cX3_isObject 13 = .ok (.ireturn, 1) := by decide +kernel
theorem dX3_isObject_2 : decode cX3_isObject 2 = .ok (.invokevirtual 83, 3) := by decide +kernel
theorem dX3_isObject_5 : decode cX3_isObject 5 = .ok (.ifCond .lt 7, 3) := by decide +kernel
theorem dX3_isProxy_0 : decode cX3_isProxy 0 = .ok (.aload_n 0, 1) := by decide +kernel
theorem dX3_isProxy_1 : decode cX3_isProxy 1 = .ok (.iload_n 1, 1) := by decide +kernel
theorem dX3_isProxy_13 : decode cX3_isProxy 13 = .ok (.iconst 0, 1) := by decide +kernel
theorem dX3_isProxy_14 : decode cX3_isProxy 14 = .ok (.ireturn, 1) := by decide +kernel
theorem dX3_isProxy_2 : decode cX3_isProxy 2 = .ok (.invokevirtual 87, 3) := by decide +kernel
theorem dX3_isProxy_5 : decode cX3_isProxy 5 = .ok (.iconst 4, 1) := by decide +kernel
theorem dX3_isProxy_6 : decode cX3_isProxy 6 = .ok (.if_icmp .ne 7, 3) := by decide +kernel
theorem dX3_isSlot_0 : decode cX3_isSlot 0 = .ok (.iload_n 1, 1) := by decide +kernel
theorem dX3_isSlot_1 : decode cX3_isSlot 1 = .ok (.ifCond .lt 14, 3) := by decide +kernel
theorem dX3_isSlot_11 : decode cX3_isSlot 11 = .ok (.iconst 1, 1) := by decide +kernel
theorem dX3_isSlot_12 : decode cX3_isSlot 12 = .ok (.goto 4, 3) := by decide +kernel
theorem dX3_isSlot_15 : decode cX3_isSlot 15 = .ok (.iconst 0, 1) := by decide +kernel
theorem dX3_isSlot_16 : decode cX3_isSlot 16 = .ok (.ireturn, 1) := by decide +kernel
theorem dX3_isSlot_4 : decode cX3_isSlot 4 = .ok (.iload_n 1, 1) := by decide +kernel
theorem dX3_isSlot_5 : decode cX3_isSlot 5 = .ok (.sipush 5999, 3) := by decide +kernel
theorem dX3_isSlot_8 : decode cX3_isSlot 8 = .ok (.if_icmp .ge 7, 3) := by decide +kernel
theorem dX3_kindOf_0 : decode cX3_kindOf 0 = .ok (.aload_n 0, 1) := by decide +kernel
theorem dX3_kindOf_1 : decode cX3_kindOf 1 = .ok (.iload_n 1, 1) := by decide +kernel
theorem dX3_kindOf_19 : decode cX3_kindOf 19 = .ok (.iconst 0, 1) := by decide +kernel
theorem dX3_kindOf_2 : decode cX3_kindOf 2 = .ok (.invokevirtual 83, 3) := by decide +kernel
theorem dX3_kindOf_20 : decode cX3_kindOf 20 = .ok (.ireturn, 1) := by decide +kernel
theorem dX3_kindOf_5 : decode cX3_kindOf 5 = .ok (.istore_n 2, 1) := by decide +kernel
theorem dX3_kindOf_6 : decode cX3_kindOf 6 = .ok (.iload_n 2, 1) := by decide +kernel
theorem dX3_kindOf_7 : decode cX3_kindOf 7 = .ok (.ifCond .lt 12, 3) := by decide +kernel
theorem dX3_link_0 : decode cX3_link 0 = .ok (.aload_n 0, 1) := by decide +kernel
theorem dX3_link_1 : decode cX3_link 1 = .ok (.iload_n 1, 1) := by decide +kernel
theorem dX3_link_12 : decode cX3_link 12 = .ok (.ifCond .eq 13, 3) := by decide +kernel
theorem dX3_link_2 : decode cX3_link 2 = .ok (.invokevirtual 83, 3) := by decide +kernel
theorem dX3_link_25 : decode cX3_link 25 = .ok (.iload 4, 2) := by decide +kernel
theorem dX3_link_27 : decode cX3_link 27 = .ok (.ifCond .lt 11, 3) := by decide +kernel
theorem dX3_link_30 : decode cX3_link 30 = .ok (.aload_n 0, 1) := by decide +kernel
theorem dX3_link_31 : decode cX3_link 31 = .ok (.getfield 22, 3) := by decide +kernel
theorem dX3_link_34 : decode cX3_link 34 = .ok (.iload 4, 2) := by decide +kernel
theorem dX3_link_36 : decode cX3_link 36 = .ok (.iload_n 3, 1) := by decide +kernel
theorem dX3_link_37 : decode cX3_link 37 = .ok (.iastore, 1) := by decide +kernel
theorem dX3_link_38 : decode cX3_link 38 = .ok (.return_, 1) := by decide +kernel
theorem dX3_link_5 : decode cX3_link 5 = .ok (.istore 4, 2) := by decide +kernel
theorem dX3_link_7 : decode cX3_link 7 = .ok (.aload_n 0, 1) := by decide +kernel
theorem dX3_link_8 : decode cX3_link 8 = .ok (.iload_n 2, 1) := by decide +kernel
theorem dX3_link_9 : decode cX3_link 9 = .ok (.invokevirtual 107, 3) := by decide +kernel
theorem dX3_putFlagsAt_0 : decode cX3_putFlagsAt 0 = .ok (.aload_n 0, 1) := by decide +kernel
theorem dX3_putFlagsAt_1 : decode cX3_putFlagsAt 1 = .ok (.iload_n 1, 1) := by decide +kernel
theorem dX3_putFlagsAt_12 : decode cX3_putFlagsAt 12 = .ok (.iload_n 1, 1) := by decide +kernel
theorem dX3_putFlagsAt_13 : decode cX3_putFlagsAt 13 = .ok (.iload_n 2, 1) := by decide +kernel
theorem dX3_putFlagsAt_14 : decode cX3_putFlagsAt 14 = .ok (.iastore, 1) := by decide +kernel
theorem dX3_putFlagsAt_15 : decode cX3_putFlagsAt 15 = .ok (.return_, 1) := by decide +kernel
theorem dX3_putFlagsAt_2 : decode cX3_putFlagsAt 2 = .ok (.invokevirtual 107, 3) := by decide +kernel
theorem dX3_putFlagsAt_5 : decode cX3_putFlagsAt 5 = .ok (.ifCond .eq 10, 3) := by decide +kernel
theorem dX3_putFlagsAt_8 : decode cX3_putFlagsAt 8 = .ok (.aload_n 0, 1) := by decide +kernel
theorem dX3_putFlagsAt_9 : decode cX3_putFlagsAt 9 = .ok (.getfield 43, 3) := by decide +kernel
theorem dX3_putParts_0 : decode cX3_putParts 0 = .ok (.aload_n 0, 1) := by decide +kernel
theorem dX3_putParts_1 : decode cX3_putParts 1 = .ok (.iload_n 1, 1) := by decide +kernel
theorem dX3_putParts_12 : decode cX3_putParts 12 = .ok (.aload_n 0, 1) := by decide +kernel
theorem dX3_putParts_13 : decode cX3_putParts 13 = .ok (.getfield 25, 3) := by decide +kernel
theorem dX3_putParts_16 : decode cX3_putParts 16 = .ok (.iload 5, 2) := by decide +kernel
theorem dX3_putParts_18 : decode cX3_putParts 18 = .ok (.iload_n 2, 1) := by decide +kernel
theorem dX3_putParts_19 : decode cX3_putParts 19 = .ok (.iastore, 1) := by decide +kernel
theorem dX3_putParts_2 : decode cX3_putParts 2 = .ok (.invokevirtual 83, 3) := by decide +kernel
theorem dX3_putParts_20 : decode cX3_putParts 20 = .ok (.aload_n 0, 1) := by decide +kernel
theorem dX3_putParts_21 : decode cX3_putParts 21 = .ok (.getfield 28, 3) := by decide +kernel
theorem dX3_putParts_24 : decode cX3_putParts 24 = .ok (.iload 5, 2) := by decide +kernel
theorem dX3_putParts_26 : decode cX3_putParts 26 = .ok (.iload_n 3, 1) := by decide +kernel
theorem dX3_putParts_27 : decode cX3_putParts 27 = .ok (.iastore, 1) := by decide +kernel
theorem dX3_putParts_28 : decode cX3_putParts 28 = .ok (.aload_n 0, 1) := by decide +kernel
theorem dX3_putParts_29 : decode cX3_putParts 29 = .ok (.getfield 31, 3) := by decide +kernel
theorem dX3_putParts_32 : decode cX3_putParts 32 = .ok (.iload 5, 2) := by decide +kernel
theorem dX3_putParts_34 : decode cX3_putParts 34 = .ok (.iload 4, 2) := by decide +kernel
theorem dX3_putParts_36 : decode cX3_putParts 36 = .ok (.iastore, 1) := by decide +kernel
theorem dX3_putParts_37 : decode cX3_putParts 37 = .ok (.return_, 1) := by decide +kernel
theorem dX3_putParts_5 : decode cX3_putParts 5 = .ok (.istore 5, 2) := by decide +kernel
theorem dX3_putParts_7 : decode cX3_putParts 7 = .ok (.iload 5, 2) := by decide +kernel
theorem dX3_putParts_9 : decode cX3_putParts 9 = .ok (.ifCond .lt 28, 3) := by decide +kernel
theorem dX3_putValueAt_0 : decode cX3_putValueAt 0 = .ok (.aload_n 0, 1) := by decide +kernel
theorem dX3_putValueAt_1 : decode cX3_putValueAt 1 = .ok (.iload_n 1, 1) := by decide +kernel
theorem dX3_putValueAt_12 : decode cX3_putValueAt 12 = .ok (.iload_n 1, 1) := by decide +kernel
theorem dX3_putValueAt_13 : decode cX3_putValueAt 13 = .ok (.iload_n 2, 1) := by decide +kernel
theorem dX3_putValueAt_14 : decode cX3_putValueAt 14 = .ok (.iastore, 1) := by decide +kernel
theorem dX3_putValueAt_15 : decode cX3_putValueAt 15 = .ok (.return_, 1) := by decide +kernel
theorem dX3_putValueAt_2 : decode cX3_putValueAt 2 = .ok (.invokevirtual 107, 3) := by decide +kernel
theorem dX3_putValueAt_5 : decode cX3_putValueAt 5 = .ok (.ifCond .eq 10, 3) := by decide +kernel
theorem dX3_putValueAt_8 : decode cX3_putValueAt 8 = .ok (.aload_n 0, 1) := by decide +kernel
theorem dX3_putValueAt_9 : decode cX3_putValueAt 9 = .ok (.getfield 37, 3) := by decide +kernel
theorem dX3_rowOf_0 : decode cX3_rowOf 0 = .ok (.bipush (-2), 2) := by decide +kernel
theorem dX3_rowOf_10 : decode cX3_rowOf 10 = .ok (.aload_n 0, 1) := by decide +kernel
theorem dX3_rowOf_11 : decode cX3_rowOf 11 = .ok (.getfield 49, 3) := by decide +kernel
theorem dX3_rowOf_14 : decode cX3_rowOf 14 = .ok (.if_icmp .ge 14, 3) := by decide +kernel
theorem dX3_rowOf_17 : decode cX3_rowOf 17 = .ok (.iload_n 2, 1) := by decide +kernel
theorem dX3_rowOf_18 : decode cX3_rowOf 18 = .ok (.sipush 600, 3) := by decide +kernel
theorem dX3_rowOf_2 : decode cX3_rowOf 2 = .ok (.iload_n 1, 1) := by decide +kernel
theorem dX3_rowOf_21 : decode cX3_rowOf 21 = .ok (.if_icmp .ge 7, 3) := by decide +kernel
theorem dX3_rowOf_24 : decode cX3_rowOf 24 = .ok (.iload_n 2, 1) := by decide +kernel
theorem dX3_rowOf_25 : decode cX3_rowOf 25 = .ok (.goto 4, 3) := by decide +kernel
theorem dX3_rowOf_28 : decode cX3_rowOf 28 = .ok (.iconst (-1), 1) := by decide +kernel
theorem dX3_rowOf_29 : decode cX3_rowOf 29 = .ok (.ireturn, 1) := by decide +kernel
theorem dX3_rowOf_3 : decode cX3_rowOf 3 = .ok (.isub, 1) := by decide +kernel
theorem dX3_rowOf_4 : decode cX3_rowOf 4 = .ok (.istore_n 2, 1) := by decide +kernel
theorem dX3_rowOf_5 : decode cX3_rowOf 5 = .ok (.iload_n 2, 1) := by decide +kernel
theorem dX3_rowOf_6 : decode cX3_rowOf 6 = .ok (.ifCond .lt 22, 3) := by decide +kernel
theorem dX3_rowOf_9 : decode cX3_rowOf 9 = .ok (.iload_n 2, 1) := by decide +kernel
theorem dX3_size_0 : decode cX3_size 0 = .ok (.aload_n 0, 1) := by decide +kernel
theorem dX3_size_1 : decode cX3_size 1 = .ok (.getfield 49, 3) := by decide +kernel
theorem dX3_size_4 : decode cX3_size 4 = .ok (.ireturn, 1) := by decide +kernel
theorem dX3_slotBefore_0 : decode cX3_slotBefore 0 = .ok (.iconst (-1), 1) := by decide +kernel
theorem dX3_slotBefore_1 : decode cX3_slotBefore 1 = .ok (.istore_n 3, 1) := by decide +kernel
theorem dX3_slotBefore_10 : decode cX3_slotBefore 10 = .ok (.sipush 250, 3) := by decide +kernel
theorem dX3_slotBefore_13 : decode cX3_slotBefore 13 = .ok (.if_icmp .ge 50, 3) := by decide +kernel
theorem dX3_slotBefore_16 : decode cX3_slotBefore 16 = .ok (.iload 4, 2) := by decide +kernel
theorem dX3_slotBefore_18 : decode cX3_slotBefore 18 = .ok (.ifCond .lt 45, 3) := by decide +kernel
theorem dX3_slotBefore_2 : decode cX3_slotBefore 2 = .ok (.iload_n 1, 1) := by decide +kernel
theorem dX3_slotBefore_3 : decode cX3_slotBefore 3 = .ok (.istore 4, 2) := by decide +kernel
theorem dX3_slotBefore_5 : decode cX3_slotBefore 5 = .ok (.iconst 0, 1) := by decide +kernel
theorem dX3_slotBefore_6 : decode cX3_slotBefore 6 = .ok (.istore 5, 2) := by decide +kernel
theorem dX3_slotBefore_63 : decode cX3_slotBefore 63 = .ok (.iload_n 3, 1) := by decide +kernel
theorem dX3_slotBefore_64 : decode cX3_slotBefore 64 = .ok (.ireturn, 1) := by decide +kernel
theorem dX3_slotBefore_8 : decode cX3_slotBefore 8 = .ok (.iload 5, 2) := by decide +kernel
theorem dX4_forget_0 : decode cX4_forget 0 = .ok (.aload_n 0, 1) := by decide +kernel
theorem dX4_forget_1 : decode cX4_forget 1 = .ok (.dup, 1) := by decide +kernel
theorem dX4_forget_10 : decode cX4_forget 10 = .ok (.return_, 1) := by decide +kernel
theorem dX4_forget_2 : decode cX4_forget 2 = .ok (.getfield 18, 3) := by decide +kernel
theorem dX4_forget_5 : decode cX4_forget 5 = .ok (.iconst 1, 1) := by decide +kernel
theorem dX4_forget_6 : decode cX4_forget 6 = .ok (.iadd, 1) := by decide +kernel
theorem dX4_forget_7 : decode cX4_forget 7 = .ok (.putfield 18, 3) := by decide +kernel
theorem dX4_init_0 : decode cX4_init 0 = .ok (.aload_n 0, 1) := by decide +kernel
theorem dX4_init_1 : decode cX4_init 1 = .ok (.invokespecial 3, 3) := by decide +kernel
theorem dX4_init_10 : decode cX4_init 10 = .ok (.putfield 9, 3) := by decide +kernel
theorem dX4_init_13 : decode cX4_init 13 = .ok (.aload_n 0, 1) := by decide +kernel
theorem dX4_init_14 : decode cX4_init 14 = .ok (.sipush 600, 3) := by decide +kernel
theorem dX4_init_17 : decode cX4_init 17 = .ok (.newarray .int, 2) := by decide +kernel
theorem dX4_init_19 : decode cX4_init 19 = .ok (.putfield 15, 3) := by decide +kernel
theorem dX4_init_22 : decode cX4_init 22 = .ok (.aload_n 0, 1) := by decide +kernel
theorem dX4_init_23 : decode cX4_init 23 = .ok (.iconst 1, 1) := by decide +kernel
theorem dX4_init_24 : decode cX4_init 24 = .ok (.putfield 18, 3) := by decide +kernel
theorem dX4_init_27 : decode cX4_init 27 = .ok (.return_, 1) := by decide +kernel
theorem dX4_init_4 : decode cX4_init 4 = .ok (.aload_n 0, 1) := by decide +kernel
theorem dX4_init_5 : decode cX4_init 5 = .ok (.sipush 600, 3) := by decide +kernel
theorem dX4_init_8 : decode cX4_init 8 = .ok (.newarray .int, 2) := by decide +kernel
theorem dX5_about_0 : decode cX5_about 0 = .ok (.aload_n 0, 1) := by decide +kernel
theorem dX5_about_1 : decode cX5_about 1 = .ok (.invokevirtual 55, 3) := by decide +kernel
theorem dX5_about_4 : decode cX5_about 4 = .ok (.aload_n 0, 1) := by decide +kernel
theorem dX5_about_5 : decode cX5_about 5 = .ok (.iload_n 1, 1) := by decide +kernel
theorem dX5_about_6 : decode cX5_about 6 = .ok (.invokevirtual 88, 3) := by decide +kernel
theorem dX5_array_0 : decode cX5_array 0 = .ok (.aload_n 0, 1) := by decide +kernel
theorem dX5_array_1 : decode cX5_array 1 = .ok (.invokevirtual 55, 3) := by decide +kernel
theorem dX5_array_11 : decode cX5_array 11 = .ok (.if_icmp .le 13, 3) := by decide +kernel
theorem dX5_array_14 : decode cX5_array 14 = .ok (.new 66, 3) := by decide +kernel
theorem dX5_array_17 : decode cX5_array 17 = .ok (.dup, 1) := by decide +kernel
theorem dX5_array_18 : decode cX5_array 18 = .ok (.ldc 68, 2) := by decide +kernel
theorem dX5_array_20 : decode cX5_array 20 = .ok (.invokespecial 70, 3) := by decide +kernel
theorem dX5_array_23 : decode cX5_array 23 = .ok (.athrow, 1) := by decide +kernel
theorem dX5_array_24 : decode cX5_array 24 = .ok (.aload_n 0, 1) := by decide +kernel
theorem dX5_array_25 : decode cX5_array 25 = .ok (.getfield 12, 3) := by decide +kernel
theorem dX5_array_28 : decode cX5_array 28 = .ok (.iload_n 1, 1) := by decide +kernel
theorem dX5_array_29 : decode cX5_array 29 = .ok (.invokevirtual 73, 3) := by decide +kernel
theorem dX5_array_32 : decode cX5_array 32 = .ok (.ireturn, 1) := by decide +kernel
theorem dX5_array_4 : decode cX5_array 4 = .ok (.iload_n 1, 1) := by decide +kernel
theorem dX5_array_5 : decode cX5_array 5 = .ok (.ifCond .lt 9, 3) := by decide +kernel
theorem dX5_array_8 : decode cX5_array 8 = .ok (.iload_n 1, 1) := by decide +kernel
theorem dX5_array_9 : decode cX5_array 9 = .ok (.bipush 100, 2) := by decide +kernel
theorem dX5_assign_0 : decode cX5_assign 0 = .ok (.aload_n 0, 1) := by decide +kernel
theorem dX5_assign_1 : decode cX5_assign 1 = .ok (.invokevirtual 55, 3) := by decide +kernel
theorem dX5_assign_4 : decode cX5_assign 4 = .ok (.aload_n 0, 1) := by decide +kernel
theorem dX5_assign_5 : decode cX5_assign 5 = .ok (.iload_n 1, 1) := by decide +kernel
theorem dX5_assign_6 : decode cX5_assign 6 = .ok (.invokevirtual 88, 3) := by decide +kernel
theorem dX5_begin_0 : decode cX5_begin 0 = .ok (.aload_n 0, 1) := by decide +kernel
theorem dX5_begin_1 : decode cX5_begin 1 = .ok (.iconst 0, 1) := by decide +kernel
theorem dX5_begin_10 : decode cX5_begin 10 = .ok (.aload_n 0, 1) := by decide +kernel
theorem dX5_begin_11 : decode cX5_begin 11 = .ok (.getfield 26, 3) := by decide +kernel
theorem dX5_begin_14 : decode cX5_begin 14 = .ok (.iconst 0, 1) := by decide +kernel
theorem dX5_begin_15 : decode cX5_begin 15 = .ok (.invokevirtual 210, 3) := by decide +kernel
theorem dX5_begin_18 : decode cX5_begin 18 = .ok (.aload_n 0, 1) := by decide +kernel
theorem dX5_begin_19 : decode cX5_begin 19 = .ok (.getfield 33, 3) := by decide +kernel
theorem dX5_begin_2 : decode cX5_begin 2 = .ok (.putfield 118, 3) := by decide +kernel
theorem dX5_begin_22 : decode cX5_begin 22 = .ok (.invokevirtual 213, 3) := by decide +kernel
theorem dX5_begin_25 : decode cX5_begin 25 = .ok (.return_, 1) := by decide +kernel
theorem dX5_begin_5 : decode cX5_begin 5 = .ok (.aload_n 0, 1) := by decide +kernel
theorem dX5_begin_6 : decode cX5_begin 6 = .ok (.iconst 0, 1) := by decide +kernel
theorem dX5_begin_7 : decode cX5_begin 7 = .ok (.putfield 202, 3) := by decide +kernel
theorem dX5_call_0 : decode cX5_call 0 = .ok (.iload_n 1, 1) := by decide +kernel
theorem dX5_call_1 : decode cX5_call 1 = .ok (.ifCond .lt 29, 3) := by decide +kernel
theorem dX5_call_30 : decode cX5_call 30 = .ok (.iconst (-1), 1) := by decide +kernel
theorem dX5_call_31 : decode cX5_call 31 = .ok (.ireturn, 1) := by decide +kernel
theorem dX5_call_4 : decode cX5_call 4 = .ok (.iload_n 1, 1) := by decide +kernel
theorem dX5_call_5 : decode cX5_call 5 = .ok (.aload_n 0, 1) := by decide +kernel
theorem dX5_call_6 : decode cX5_call 6 = .ok (.getfield 202, 3) := by decide +kernel
theorem dX5_call_9 : decode cX5_call 9 = .ok (.if_icmp .ge 21, 3) := by decide +kernel
theorem dX5_count_0 : decode cX5_count 0 = .ok (.iload_n 1, 1) := by decide +kernel
theorem dX5_count_1 : decode cX5_count 1 = .ok (.tableswitch 54 0 3 #[31, 39, 44, 49], 31) := by decide +kernel
theorem dX5_count_32 : decode cX5_count 32 = .ok (.aload_n 0, 1) := by decide +kernel
theorem dX5_count_33 : decode cX5_count 33 = .ok (.getfield 12, 3) := by decide +kernel
theorem dX5_count_36 : decode cX5_count 36 = .ok (.invokevirtual 205, 3) := by decide +kernel
theorem dX5_count_39 : decode cX5_count 39 = .ok (.ireturn, 1) := by decide +kernel
theorem dX5_count_40 : decode cX5_count 40 = .ok (.aload_n 0, 1) := by decide +kernel
theorem dX5_count_41 : decode cX5_count 41 = .ok (.getfield 202, 3) := by decide +kernel
theorem dX5_count_44 : decode cX5_count 44 = .ok (.ireturn, 1) := by decide +kernel
theorem dX5_count_45 : decode cX5_count 45 = .ok (.aload_n 0, 1) := by decide +kernel
theorem dX5_count_46 : decode cX5_count 46 = .ok (.getfield 172, 3) := by decide +kernel
theorem dX5_count_49 : decode cX5_count 49 = .ok (.ireturn, 1) := by decide +kernel
theorem dX5_count_50 : decode cX5_count 50 = .ok (.aload_n 0, 1) := by decide +kernel
theorem dX5_count_51 : decode cX5_count 51 = .ok (.getfield 51, 3) := by decide +kernel
theorem dX5_count_54 : decode cX5_count 54 = .ok (.ireturn, 1) := by decide +kernel
theorem dX5_count_55 : decode cX5_count 55 = .ok (.new 66, 3) := by decide +kernel
theorem dX5_count_58 : decode cX5_count 58 = .ok (.dup, 1) := by decide +kernel
theorem dX5_count_59 : decode cX5_count 59 = .ok (.ldc 208, 2) := by decide +kernel
theorem dX5_count_61 : decode cX5_count 61 = .ok (.invokespecial 70, 3) := by decide +kernel
theorem dX5_count_64 : decode cX5_count 64 = .ok (.athrow, 1) := by decide +kernel
theorem dX5_define_0 : decode cX5_define 0 = .ok (.aload_n 0, 1) := by decide +kernel
theorem dX5_define_1 : decode cX5_define 1 = .ok (.invokevirtual 55, 3) := by decide +kernel
theorem dX5_define_4 : decode cX5_define 4 = .ok (.aload_n 0, 1) := by decide +kernel
theorem dX5_define_5 : decode cX5_define 5 = .ok (.iload_n 1, 1) := by decide +kernel
theorem dX5_define_6 : decode cX5_define 6 = .ok (.invokevirtual 88, 3) := by decide +kernel
theorem dX5_function_0 : decode cX5_function 0 = .ok (.aload_n 0, 1) := by decide +kernel
theorem dX5_function_1 : decode cX5_function 1 = .ok (.invokevirtual 55, 3) := by decide +kernel
theorem dX5_function_10 : decode cX5_function 10 = .ok (.if_icmp .le 13, 3) := by decide +kernel
theorem dX5_function_13 : decode cX5_function 13 = .ok (.new 66, 3) := by decide +kernel
theorem dX5_function_16 : decode cX5_function 16 = .ok (.dup, 1) := by decide +kernel
theorem dX5_function_17 : decode cX5_function 17 = .ok (.ldc 76, 2) := by decide +kernel
theorem dX5_function_19 : decode cX5_function 19 = .ok (.invokespecial 70, 3) := by decide +kernel
theorem dX5_function_22 : decode cX5_function 22 = .ok (.athrow, 1) := by decide +kernel
theorem dX5_function_23 : decode cX5_function 23 = .ok (.aload_n 0, 1) := by decide +kernel
theorem dX5_function_24 : decode cX5_function 24 = .ok (.iload_n 2, 1) := by decide +kernel
theorem dX5_function_25 : decode cX5_function 25 = .ok (.invokevirtual 78, 3) := by decide +kernel
theorem dX5_function_28 : decode cX5_function 28 = .ok (.aload_n 0, 1) := by decide +kernel
theorem dX5_function_29 : decode cX5_function 29 = .ok (.iload_n 3, 1) := by decide +kernel
theorem dX5_function_30 : decode cX5_function 30 = .ok (.invokevirtual 81, 3) := by decide +kernel
theorem dX5_function_33 : decode cX5_function 33 = .ok (.aload_n 0, 1) := by decide +kernel
theorem dX5_function_34 : decode cX5_function 34 = .ok (.getfield 12, 3) := by decide +kernel
theorem dX5_function_37 : decode cX5_function 37 = .ok (.iload_n 1, 1) := by decide +kernel
theorem dX5_function_38 : decode cX5_function 38 = .ok (.iload_n 2, 1) := by decide +kernel
theorem dX5_function_39 : decode cX5_function 39 = .ok (.iload_n 3, 1) := by decide +kernel
theorem dX5_function_4 : decode cX5_function 4 = .ok (.iload_n 1, 1) := by decide +kernel
theorem dX5_function_40 : decode cX5_function 40 = .ok (.invokevirtual 84, 3) := by decide +kernel
theorem dX5_function_43 : decode cX5_function 43 = .ok (.ireturn, 1) := by decide +kernel
theorem dX5_function_5 : decode cX5_function 5 = .ok (.ifCond .lt 8, 3) := by decide +kernel
theorem dX5_function_8 : decode cX5_function 8 = .ok (.iload_n 1, 1) := by decide +kernel
theorem dX5_function_9 : decode cX5_function 9 = .ok (.iconst 5, 1) := by decide +kernel
theorem dX5_get_0 : decode cX5_get 0 = .ok (.aload_n 0, 1) := by decide +kernel
theorem dX5_get_1 : decode cX5_get 1 = .ok (.invokevirtual 55, 3) := by decide +kernel
theorem dX5_get_4 : decode cX5_get 4 = .ok (.aload_n 0, 1) := by decide +kernel
theorem dX5_get_5 : decode cX5_get 5 = .ok (.iload_n 1, 1) := by decide +kernel
theorem dX5_get_6 : decode cX5_get 6 = .ok (.invokevirtual 88, 3) := by decide +kernel
theorem dX5_has_0 : decode cX5_has 0 = .ok (.aload_n 0, 1) := by decide +kernel
theorem dX5_has_1 : decode cX5_has 1 = .ok (.invokevirtual 55, 3) := by decide +kernel
theorem dX5_has_4 : decode cX5_has 4 = .ok (.aload_n 0, 1) := by decide +kernel
theorem dX5_has_5 : decode cX5_has 5 = .ok (.iload_n 1, 1) := by decide +kernel
theorem dX5_has_6 : decode cX5_has 6 = .ok (.invokevirtual 88, 3) := by decide +kernel
theorem dX5_init_0 : decode cX5_init 0 = .ok (.aload_n 0, 1) := by decide +kernel
theorem dX5_init_1 : decode cX5_init 1 = .ok (.invokespecial 3, 3) := by decide +kernel
theorem dX5_init_12 : decode cX5_init 12 = .ok (.putfield 12, 3) := by decide +kernel
theorem dX5_init_15 : decode cX5_init 15 = .ok (.aload_n 0, 1) := by decide +kernel
theorem dX5_init_16 : decode cX5_init 16 = .ok (.new 16, 3) := by decide +kernel
theorem dX5_init_19 : decode cX5_init 19 = .ok (.dup, 1) := by decide +kernel
theorem dX5_init_20 : decode cX5_init 20 = .ok (.invokespecial 18, 3) := by decide +kernel
theorem dX5_init_23 : decode cX5_init 23 = .ok (.putfield 19, 3) := by decide +kernel
theorem dX5_init_26 : decode cX5_init 26 = .ok (.aload_n 0, 1) := by decide +kernel
theorem dX5_init_27 : decode cX5_init 27 = .ok (.new 23, 3) := by decide +kernel
theorem dX5_init_30 : decode cX5_init 30 = .ok (.dup, 1) := by decide +kernel
theorem dX5_init_31 : decode cX5_init 31 = .ok (.invokespecial 25, 3) := by decide +kernel
theorem dX5_init_34 : decode cX5_init 34 = .ok (.putfield 26, 3) := by decide +kernel
theorem dX5_init_37 : decode cX5_init 37 = .ok (.aload_n 0, 1) := by decide +kernel
theorem dX5_init_38 : decode cX5_init 38 = .ok (.new 30, 3) := by decide +kernel
theorem dX5_init_4 : decode cX5_init 4 = .ok (.aload_n 0, 1) := by decide +kernel
theorem dX5_init_41 : decode cX5_init 41 = .ok (.dup, 1) := by decide +kernel
theorem dX5_init_42 : decode cX5_init 42 = .ok (.invokespecial 32, 3) := by decide +kernel
theorem dX5_init_45 : decode cX5_init 45 = .ok (.putfield 33, 3) := by decide +kernel
theorem dX5_init_48 : decode cX5_init 48 = .ok (.aload_n 0, 1) := by decide +kernel
theorem dX5_init_49 : decode cX5_init 49 = .ok (.new 37, 3) := by decide +kernel
theorem dX5_init_5 : decode cX5_init 5 = .ok (.new 9, 3) := by decide +kernel
theorem dX5_init_52 : decode cX5_init 52 = .ok (.dup, 1) := by decide +kernel
theorem dX5_init_53 : decode cX5_init 53 = .ok (.invokespecial 39, 3) := by decide +kernel
theorem dX5_init_56 : decode cX5_init 56 = .ok (.putfield 40, 3) := by decide +kernel
theorem dX5_init_59 : decode cX5_init 59 = .ok (.aload_n 0, 1) := by decide +kernel
theorem dX5_init_60 : decode cX5_init 60 = .ok (.sipush 250, 3) := by decide +kernel
theorem dX5_init_63 : decode cX5_init 63 = .ok (.newarray .int, 2) := by decide +kernel
theorem dX5_init_65 : decode cX5_init 65 = .ok (.putfield 44, 3) := by decide +kernel
theorem dX5_init_68 : decode cX5_init 68 = .ok (.aload_n 0, 1) := by decide +kernel
theorem dX5_init_69 : decode cX5_init 69 = .ok (.sipush 2000, 3) := by decide +kernel
theorem dX5_init_72 : decode cX5_init 72 = .ok (.newarray .int, 2) := by decide +kernel
theorem dX5_init_74 : decode cX5_init 74 = .ok (.putfield 48, 3) := by decide +kernel
theorem dX5_init_77 : decode cX5_init 77 = .ok (.aload_n 0, 1) := by decide +kernel
theorem dX5_init_78 : decode cX5_init 78 = .ok (.iconst (-1), 1) := by decide +kernel
theorem dX5_init_79 : decode cX5_init 79 = .ok (.putfield 51, 3) := by decide +kernel
theorem dX5_init_8 : decode cX5_init 8 = .ok (.dup, 1) := by decide +kernel
theorem dX5_init_82 : decode cX5_init 82 = .ok (.return_, 1) := by decide +kernel
theorem dX5_init_9 : decode cX5_init 9 = .ok (.invokespecial 11, 3) := by decide +kernel
theorem dX5_key_0 : decode cX5_key 0 = .ok (.iload_n 1, 1) := by decide +kernel
theorem dX5_key_1 : decode cX5_key 1 = .ok (.ifCond .lt 20, 3) := by decide +kernel
theorem dX5_key_21 : decode cX5_key 21 = .ok (.new 175, 3) := by decide +kernel
theorem dX5_key_24 : decode cX5_key 24 = .ok (.dup, 1) := by decide +kernel
theorem dX5_key_25 : decode cX5_key 25 = .ok (.ldc 177, 2) := by decide +kernel
theorem dX5_key_27 : decode cX5_key 27 = .ok (.invokespecial 179, 3) := by decide +kernel
theorem dX5_key_30 : decode cX5_key 30 = .ok (.athrow, 1) := by decide +kernel
theorem dX5_key_4 : decode cX5_key 4 = .ok (.iload_n 1, 1) := by decide +kernel
theorem dX5_key_5 : decode cX5_key 5 = .ok (.aload_n 0, 1) := by decide +kernel
theorem dX5_key_6 : decode cX5_key 6 = .ok (.getfield 172, 3) := by decide +kernel
theorem dX5_key_9 : decode cX5_key 9 = .ok (.if_icmp .ge 12, 3) := by decide +kernel
theorem dX5_keys_0 : decode cX5_keys 0 = .ok (.aload_n 0, 1) := by decide +kernel
theorem dX5_keys_1 : decode cX5_keys 1 = .ok (.invokevirtual 55, 3) := by decide +kernel
theorem dX5_keys_4 : decode cX5_keys 4 = .ok (.aload_n 0, 1) := by decide +kernel
theorem dX5_keys_5 : decode cX5_keys 5 = .ok (.iload_n 1, 1) := by decide +kernel
theorem dX5_keys_6 : decode cX5_keys 6 = .ok (.invokevirtual 88, 3) := by decide +kernel
theorem dX5_level_0 : decode cX5_level 0 = .ok (.aload_n 0, 1) := by decide +kernel
theorem dX5_level_1 : decode cX5_level 1 = .ok (.invokevirtual 55, 3) := by decide +kernel
theorem dX5_level_4 : decode cX5_level 4 = .ok (.aload_n 0, 1) := by decide +kernel
theorem dX5_level_5 : decode cX5_level 5 = .ok (.iload_n 1, 1) := by decide +kernel
theorem dX5_level_6 : decode cX5_level 6 = .ok (.invokevirtual 88, 3) := by decide +kernel
theorem dX5_make_0 : decode cX5_make 0 = .ok (.aload_n 0, 1) := by decide +kernel
theorem dX5_make_1 : decode cX5_make 1 = .ok (.invokevirtual 55, 3) := by decide +kernel
theorem dX5_make_10 : decode cX5_make 10 = .ok (.getfield 12, 3) := by decide +kernel
theorem dX5_make_13 : decode cX5_make 13 = .ok (.iload_n 1, 1) := by decide +kernel
theorem dX5_make_14 : decode cX5_make 14 = .ok (.invokevirtual 62, 3) := by decide +kernel
theorem dX5_make_17 : decode cX5_make 17 = .ok (.ireturn, 1) := by decide +kernel
theorem dX5_make_4 : decode cX5_make 4 = .ok (.aload_n 0, 1) := by decide +kernel
theorem dX5_make_5 : decode cX5_make 5 = .ok (.iload_n 1, 1) := by decide +kernel
theorem dX5_make_6 : decode cX5_make 6 = .ok (.invokevirtual 58, 3) := by decide +kernel
theorem dX5_make_9 : decode cX5_make 9 = .ok (.aload_n 0, 1) := by decide +kernel
theorem dX5_open_0 : decode cX5_open 0 = .ok (.aload_n 0, 1) := by decide +kernel
theorem dX5_open_1 : decode cX5_open 1 = .ok (.invokevirtual 55, 3) := by decide +kernel
theorem dX5_open_4 : decode cX5_open 4 = .ok (.aload_n 0, 1) := by decide +kernel
theorem dX5_open_5 : decode cX5_open 5 = .ok (.iload_n 1, 1) := by decide +kernel
theorem dX5_open_6 : decode cX5_open 6 = .ok (.invokevirtual 88, 3) := by decide +kernel
theorem dX5_parent_0 : decode cX5_parent 0 = .ok (.aload_n 0, 1) := by decide +kernel
theorem dX5_parent_1 : decode cX5_parent 1 = .ok (.invokevirtual 55, 3) := by decide +kernel
theorem dX5_parent_4 : decode cX5_parent 4 = .ok (.aload_n 0, 1) := by decide +kernel
theorem dX5_parent_5 : decode cX5_parent 5 = .ok (.iload_n 1, 1) := by decide +kernel
theorem dX5_parent_6 : decode cX5_parent 6 = .ok (.invokevirtual 88, 3) := by decide +kernel
theorem dX5_proxy_0 : decode cX5_proxy 0 = .ok (.aload_n 0, 1) := by decide +kernel
theorem dX5_proxy_1 : decode cX5_proxy 1 = .ok (.invokevirtual 55, 3) := by decide +kernel
theorem dX5_proxy_4 : decode cX5_proxy 4 = .ok (.aload_n 0, 1) := by decide +kernel
theorem dX5_proxy_5 : decode cX5_proxy 5 = .ok (.iload_n 1, 1) := by decide +kernel
theorem dX5_proxy_6 : decode cX5_proxy 6 = .ok (.invokevirtual 88, 3) := by decide +kernel
theorem dX5_remove_0 : decode cX5_remove 0 = .ok (.aload_n 0, 1) := by decide +kernel
theorem dX5_remove_1 : decode cX5_remove 1 = .ok (.invokevirtual 55, 3) := by decide +kernel
theorem dX5_remove_4 : decode cX5_remove 4 = .ok (.aload_n 0, 1) := by decide +kernel
theorem dX5_remove_5 : decode cX5_remove 5 = .ok (.iload_n 1, 1) := by decide +kernel
theorem dX5_remove_6 : decode cX5_remove 6 = .ok (.invokevirtual 88, 3) := by decide +kernel
theorem dX5_requireKey_0 : decode cX5_requireKey 0 = .ok (.iload_n 1, 1) := by decide +kernel
theorem dX5_requireKey_1 : decode cX5_requireKey 1 = .ok (.ifCond .lt 10, 3) := by decide +kernel
theorem dX5_requireKey_11 : decode cX5_requireKey 11 = .ok (.new 66, 3) := by decide +kernel
theorem dX5_requireKey_14 : decode cX5_requireKey 14 = .ok (.dup, 1) := by decide +kernel
theorem dX5_requireKey_15 : decode cX5_requireKey 15 = .ok (.ldc 221, 2) := by decide +kernel
theorem dX5_requireKey_17 : decode cX5_requireKey 17 = .ok (.invokespecial 70, 3) := by decide +kernel
theorem dX5_requireKey_20 : decode cX5_requireKey 20 = .ok (.athrow, 1) := by decide +kernel
theorem dX5_requireKey_21 : decode cX5_requireKey 21 = .ok (.return_, 1) := by decide +kernel
theorem dX5_requireKey_4 : decode cX5_requireKey 4 = .ok (.iload_n 1, 1) := by decide +kernel
theorem dX5_requireKey_5 : decode cX5_requireKey 5 = .ok (.sipush 250, 3) := by decide +kernel
theorem dX5_requireKey_8 : decode cX5_requireKey 8 = .ok (.if_icmp .lt 13, 3) := by decide +kernel
theorem dX5_requireObject_0 : decode cX5_requireObject 0 = .ok (.aload_n 0, 1) := by decide +kernel
theorem dX5_requireObject_1 : decode cX5_requireObject 1 = .ok (.getfield 12, 3) := by decide +kernel
theorem dX5_requireObject_11 : decode cX5_requireObject 11 = .ok (.new 66, 3) := by decide +kernel
theorem dX5_requireObject_14 : decode cX5_requireObject 14 = .ok (.dup, 1) := by decide +kernel
theorem dX5_requireObject_15 : decode cX5_requireObject 15 = .ok (.ldc 219, 2) := by decide +kernel
theorem dX5_requireObject_17 : decode cX5_requireObject 17 = .ok (.invokespecial 70, 3) := by decide +kernel
theorem dX5_requireObject_20 : decode cX5_requireObject 20 = .ok (.athrow, 1) := by decide +kernel
theorem dX5_requireObject_4 : decode cX5_requireObject 4 = .ok (.iload_n 1, 1) := by decide +kernel
theorem dX5_requireObject_5 : decode cX5_requireObject 5 = .ok (.invokevirtual 216, 3) := by decide +kernel
theorem dX5_requireObject_8 : decode cX5_requireObject 8 = .ok (.ifCond .ne 13, 3) := by decide +kernel
theorem dX5_requirePrototype_0 : decode cX5_requirePrototype 0 = .ok (.iload_n 1, 1) := by decide +kernel
theorem dX5_requirePrototype_1 : decode cX5_requirePrototype 1 = .ok (.iconst (-1), 1) := by decide +kernel
theorem dX5_requirePrototype_10 : decode cX5_requirePrototype 10 = .ok (.return_, 1) := by decide +kernel
theorem dX5_requirePrototype_2 : decode cX5_requirePrototype 2 = .ok (.if_icmp .eq 8, 3) := by decide +kernel
theorem dX5_requirePrototype_5 : decode cX5_requirePrototype 5 = .ok (.aload_n 0, 1) := by decide +kernel
theorem dX5_requirePrototype_6 : decode cX5_requirePrototype 6 = .ok (.iload_n 1, 1) := by decide +kernel
theorem dX5_requirePrototype_7 : decode cX5_requirePrototype 7 = .ok (.invokevirtual 88, 3) := by decide +kernel
theorem dX5_requireValue_0 : decode cX5_requireValue 0 = .ok (.iload_n 1, 1) := by decide +kernel
theorem dX5_requireValue_1 : decode cX5_requireValue 1 = .ok (.iconst (-1), 1) := by decide +kernel
theorem dX5_requireValue_12 : decode cX5_requireValue 12 = .ok (.iconst 1, 1) := by decide +kernel
theorem dX5_requireValue_13 : decode cX5_requireValue 13 = .ok (.goto 4, 3) := by decide +kernel
theorem dX5_requireValue_16 : decode cX5_requireValue 16 = .ok (.iconst 0, 1) := by decide +kernel
theorem dX5_requireValue_17 : decode cX5_requireValue 17 = .ok (.istore_n 2, 1) := by decide +kernel
theorem dX5_requireValue_18 : decode cX5_requireValue 18 = .ok (.iload_n 2, 1) := by decide +kernel
theorem dX5_requireValue_19 : decode cX5_requireValue 19 = .ok (.ifCond .ne 24, 3) := by decide +kernel
theorem dX5_requireValue_2 : decode cX5_requireValue 2 = .ok (.if_icmp .lt 14, 3) := by decide +kernel
theorem dX5_requireValue_22 : decode cX5_requireValue 22 = .ok (.aload_n 0, 1) := by decide +kernel
theorem dX5_requireValue_23 : decode cX5_requireValue 23 = .ok (.getfield 12, 3) := by decide +kernel
theorem dX5_requireValue_26 : decode cX5_requireValue 26 = .ok (.iload_n 1, 1) := by decide +kernel
theorem dX5_requireValue_27 : decode cX5_requireValue 27 = .ok (.invokevirtual 216, 3) := by decide +kernel
theorem dX5_requireValue_30 : decode cX5_requireValue 30 = .ok (.ifCond .ne 13, 3) := by decide +kernel
theorem dX5_requireValue_33 : decode cX5_requireValue 33 = .ok (.new 66, 3) := by decide +kernel
theorem dX5_requireValue_36 : decode cX5_requireValue 36 = .ok (.dup, 1) := by decide +kernel
theorem dX5_requireValue_37 : decode cX5_requireValue 37 = .ok (.ldc 223, 2) := by decide +kernel
theorem dX5_requireValue_39 : decode cX5_requireValue 39 = .ok (.invokespecial 70, 3) := by decide +kernel
theorem dX5_requireValue_42 : decode cX5_requireValue 42 = .ok (.athrow, 1) := by decide +kernel
theorem dX5_requireValue_43 : decode cX5_requireValue 43 = .ok (.return_, 1) := by decide +kernel
theorem dX5_requireValue_5 : decode cX5_requireValue 5 = .ok (.iload_n 1, 1) := by decide +kernel
theorem dX5_requireValue_6 : decode cX5_requireValue 6 = .ok (.sipush 1250, 3) := by decide +kernel
theorem dX5_requireValue_9 : decode cX5_requireValue 9 = .ok (.if_icmp .ge 7, 3) := by decide +kernel
theorem dX5_revoke_0 : decode cX5_revoke 0 = .ok (.aload_n 0, 1) := by decide +kernel
theorem dX5_revoke_1 : decode cX5_revoke 1 = .ok (.invokevirtual 55, 3) := by decide +kernel
theorem dX5_revoke_12 : decode cX5_revoke 12 = .ok (.ifCond .ne 13, 3) := by decide +kernel
theorem dX5_revoke_15 : decode cX5_revoke 15 = .ok (.new 66, 3) := by decide +kernel
theorem dX5_revoke_18 : decode cX5_revoke 18 = .ok (.dup, 1) := by decide +kernel
theorem dX5_revoke_19 : decode cX5_revoke 19 = .ok (.ldc 99, 2) := by decide +kernel
theorem dX5_revoke_21 : decode cX5_revoke 21 = .ok (.invokespecial 70, 3) := by decide +kernel
theorem dX5_revoke_24 : decode cX5_revoke 24 = .ok (.athrow, 1) := by decide +kernel
theorem dX5_revoke_4 : decode cX5_revoke 4 = .ok (.aload_n 0, 1) := by decide +kernel
theorem dX5_revoke_5 : decode cX5_revoke 5 = .ok (.getfield 12, 3) := by decide +kernel
theorem dX5_revoke_8 : decode cX5_revoke 8 = .ok (.iload_n 1, 1) := by decide +kernel
theorem dX5_revoke_9 : decode cX5_revoke 9 = .ok (.invokevirtual 95, 3) := by decide +kernel
theorem dX5_setParent_0 : decode cX5_setParent 0 = .ok (.aload_n 0, 1) := by decide +kernel
theorem dX5_setParent_1 : decode cX5_setParent 1 = .ok (.invokevirtual 55, 3) := by decide +kernel
theorem dX5_setParent_4 : decode cX5_setParent 4 = .ok (.aload_n 0, 1) := by decide +kernel
theorem dX5_setParent_5 : decode cX5_setParent 5 = .ok (.iload_n 1, 1) := by decide +kernel
theorem dX5_setParent_6 : decode cX5_setParent 6 = .ok (.invokevirtual 88, 3) := by decide +kernel
theorem dX5_set_0 : decode cX5_set 0 = .ok (.aload_n 0, 1) := by decide +kernel
theorem dX5_set_1 : decode cX5_set 1 = .ok (.invokevirtual 55, 3) := by decide +kernel
theorem dX5_set_4 : decode cX5_set 4 = .ok (.aload_n 0, 1) := by decide +kernel
theorem dX5_set_5 : decode cX5_set 5 = .ok (.iload_n 1, 1) := by decide +kernel
theorem dX5_set_6 : decode cX5_set 6 = .ok (.invokevirtual 88, 3) := by decide +kernel
theorem dX5_shut_0 : decode cX5_shut 0 = .ok (.aload_n 0, 1) := by decide +kernel
theorem dX5_shut_1 : decode cX5_shut 1 = .ok (.invokevirtual 55, 3) := by decide +kernel
theorem dX5_shut_4 : decode cX5_shut 4 = .ok (.aload_n 0, 1) := by decide +kernel
theorem dX5_shut_5 : decode cX5_shut 5 = .ok (.iload_n 1, 1) := by decide +kernel
theorem dX5_shut_6 : decode cX5_shut 6 = .ok (.invokevirtual 88, 3) := by decide +kernel
theorem dX8_init_0 : decode cX8_init 0 = .ok (.aload_n 0, 1) := by decide +kernel
theorem dX8_init_1 : decode cX8_init 1 = .ok (.aconst_null, 1) := by decide +kernel
theorem dX8_init_10 : decode cX8_init 10 = .ok (.putfield 7, 3) := by decide +kernel
theorem dX8_init_13 : decode cX8_init 13 = .ok (.return_, 1) := by decide +kernel
theorem dX8_init_2 : decode cX8_init 2 = .ok (.aconst_null, 1) := by decide +kernel
theorem dX8_init_3 : decode cX8_init 3 = .ok (.iconst 0, 1) := by decide +kernel
theorem dX8_init_4 : decode cX8_init 4 = .ok (.iconst 0, 1) := by decide +kernel
theorem dX8_init_5 : decode cX8_init 5 = .ok (.invokespecial 1, 3) := by decide +kernel
theorem dX8_init_8 : decode cX8_init 8 = .ok (.aload_n 0, 1) := by decide +kernel
theorem dX8_init_9 : decode cX8_init 9 = .ok (.iload_n 1, 1) := by decide +kernel
theorem dX9_about_0 : decode cX9_about 0 = .ok (.aload_n 0, 1) := by decide +kernel
theorem dX9_about_1 : decode cX9_about 1 = .ok (.invokevirtual 382, 3) := by decide +kernel
theorem dX9_about_158 : decode cX9_about 158 = .ok (.astore 4, 2) := by decide +kernel
theorem dX9_about_160 : decode cX9_about 160 = .ok (.aload_n 0, 1) := by decide +kernel
theorem dX9_about_161 : decode cX9_about 161 = .ok (.aload 4, 2) := by decide +kernel
theorem dX9_about_163 : decode cX9_about 163 = .ok (.invokevirtual 397, 3) := by decide +kernel
theorem dX9_about_166 : decode cX9_about 166 = .ok (.ireturn, 1) := by decide +kernel
theorem dX9_about_4 : decode cX9_about 4 = .ok (.aload_n 0, 1) := by decide +kernel
theorem dX9_about_5 : decode cX9_about 5 = .ok (.iload_n 1, 1) := by decide +kernel
theorem dX9_about_6 : decode cX9_about 6 = .ok (.invokevirtual 394, 3) := by decide +kernel
theorem dX9_array_0 : decode cX9_array 0 = .ok (.aload_n 0, 1) := by decide +kernel
theorem dX9_array_1 : decode cX9_array 1 = .ok (.invokevirtual 382, 3) := by decide +kernel
theorem dX9_array_11 : decode cX9_array 11 = .ok (.if_icmp .le 9, 3) := by decide +kernel
theorem dX9_array_14 : decode cX9_array 14 = .ok (.aload_n 0, 1) := by decide +kernel
theorem dX9_array_15 : decode cX9_array 15 = .ok (.iconst 1, 1) := by decide +kernel
theorem dX9_array_16 : decode cX9_array 16 = .ok (.invokevirtual 385, 3) := by decide +kernel
theorem dX9_array_19 : decode cX9_array 19 = .ok (.ireturn, 1) := by decide +kernel
theorem dX9_array_20 : decode cX9_array 20 = .ok (.aload_n 0, 1) := by decide +kernel
theorem dX9_array_21 : decode cX9_array 21 = .ok (.getfield 119, 3) := by decide +kernel
theorem dX9_array_24 : decode cX9_array 24 = .ok (.sipush 600, 3) := by decide +kernel
theorem dX9_array_27 : decode cX9_array 27 = .ok (.if_icmp .ne 9, 3) := by decide +kernel
theorem dX9_array_36 : decode cX9_array 36 = .ok (.aload_n 0, 1) := by decide +kernel
theorem dX9_array_37 : decode cX9_array 37 = .ok (.iload_n 1, 1) := by decide +kernel
theorem dX9_array_38 : decode cX9_array 38 = .ok (.invokevirtual 317, 3) := by decide +kernel
theorem dX9_array_4 : decode cX9_array 4 = .ok (.iload_n 1, 1) := by decide +kernel
theorem dX9_array_41 : decode cX9_array 41 = .ok (.invokestatic 185, 3) := by decide +kernel
theorem dX9_array_44 : decode cX9_array 44 = .ok (.ireturn, 1) := by decide +kernel
theorem dX9_array_5 : decode cX9_array 5 = .ok (.ifCond .lt 9, 3) := by decide +kernel
theorem dX9_array_8 : decode cX9_array 8 = .ok (.iload_n 1, 1) := by decide +kernel
theorem dX9_array_9 : decode cX9_array 9 = .ok (.bipush 100, 2) := by decide +kernel
theorem dX9_assign_0 : decode cX9_assign 0 = .ok (.aload_n 0, 1) := by decide +kernel
theorem dX9_assign_1 : decode cX9_assign 1 = .ok (.invokevirtual 382, 3) := by decide +kernel
theorem dX9_assign_126 : decode cX9_assign 126 = .ok (.astore_n 3, 1) := by decide +kernel
theorem dX9_assign_127 : decode cX9_assign 127 = .ok (.aload_n 0, 1) := by decide +kernel
theorem dX9_assign_128 : decode cX9_assign 128 = .ok (.aload_n 3, 1) := by decide +kernel
theorem dX9_assign_129 : decode cX9_assign 129 = .ok (.invokevirtual 397, 3) := by decide +kernel
theorem dX9_assign_132 : decode cX9_assign 132 = .ok (.ireturn, 1) := by decide +kernel
theorem dX9_assign_4 : decode cX9_assign 4 = .ok (.aload_n 0, 1) := by decide +kernel
theorem dX9_assign_5 : decode cX9_assign 5 = .ok (.iload_n 1, 1) := by decide +kernel
theorem dX9_assign_6 : decode cX9_assign 6 = .ok (.invokevirtual 394, 3) := by decide +kernel
theorem dX9_begin_0 : decode cX9_begin 0 = .ok (.aload_n 0, 1) := by decide +kernel
theorem dX9_begin_1 : decode cX9_begin 1 = .ok (.iconst 0, 1) := by decide +kernel
theorem dX9_begin_10 : decode cX9_begin 10 = .ok (.aload_n 0, 1) := by decide +kernel
theorem dX9_begin_11 : decode cX9_begin 11 = .ok (.iconst 0, 1) := by decide +kernel
theorem dX9_begin_12 : decode cX9_begin 12 = .ok (.putfield 258, 3) := by decide +kernel
theorem dX9_begin_15 : decode cX9_begin 15 = .ok (.aload_n 0, 1) := by decide +kernel
theorem dX9_begin_16 : decode cX9_begin 16 = .ok (.iconst 0, 1) := by decide +kernel
theorem dX9_begin_17 : decode cX9_begin 17 = .ok (.putfield 90, 3) := by decide +kernel
theorem dX9_begin_2 : decode cX9_begin 2 = .ok (.putfield 87, 3) := by decide +kernel
theorem dX9_begin_20 : decode cX9_begin 20 = .ok (.aload_n 0, 1) := by decide +kernel
theorem dX9_begin_21 : decode cX9_begin 21 = .ok (.iconst 0, 1) := by decide +kernel
theorem dX9_begin_22 : decode cX9_begin 22 = .ok (.putfield 101, 3) := by decide +kernel
theorem dX9_begin_25 : decode cX9_begin 25 = .ok (.return_, 1) := by decide +kernel
theorem dX9_begin_5 : decode cX9_begin 5 = .ok (.aload_n 0, 1) := by decide +kernel
theorem dX9_begin_6 : decode cX9_begin 6 = .ok (.iconst 0, 1) := by decide +kernel
theorem dX9_begin_7 : decode cX9_begin 7 = .ok (.putfield 261, 3) := by decide +kernel
theorem dX9_call_0 : decode cX9_call 0 = .ok (.aload_n 0, 1) := by decide +kernel
theorem dX9_call_1 : decode cX9_call 1 = .ok (.iconst 0, 1) := by decide +kernel
theorem dX9_call_10 : decode cX9_call 10 = .ok (.aload_n 0, 1) := by decide +kernel
theorem dX9_call_11 : decode cX9_call 11 = .ok (.getfield 261, 3) := by decide +kernel
theorem dX9_call_14 : decode cX9_call 14 = .ok (.if_icmp .ge 12, 3) := by decide +kernel
theorem dX9_call_2 : decode cX9_call 2 = .ok (.putfield 87, 3) := by decide +kernel
theorem dX9_call_26 : decode cX9_call 26 = .ok (.iconst (-1), 1) := by decide +kernel
theorem dX9_call_27 : decode cX9_call 27 = .ok (.ireturn, 1) := by decide +kernel
theorem dX9_call_5 : decode cX9_call 5 = .ok (.iload_n 1, 1) := by decide +kernel
theorem dX9_call_6 : decode cX9_call 6 = .ok (.ifCond .lt 20, 3) := by decide +kernel
theorem dX9_call_9 : decode cX9_call 9 = .ok (.iload_n 1, 1) := by decide +kernel
theorem dX9_count_0 : decode cX9_count 0 = .ok (.aload_n 0, 1) := by decide +kernel
theorem dX9_count_1 : decode cX9_count 1 = .ok (.iconst 0, 1) := by decide +kernel
theorem dX9_count_2 : decode cX9_count 2 = .ok (.putfield 87, 3) := by decide +kernel
theorem dX9_count_36 : decode cX9_count 36 = .ok (.aload_n 0, 1) := by decide +kernel
theorem dX9_count_37 : decode cX9_count 37 = .ok (.getfield 119, 3) := by decide +kernel
theorem dX9_count_40 : decode cX9_count 40 = .ok (.ireturn, 1) := by decide +kernel
theorem dX9_count_41 : decode cX9_count 41 = .ok (.aload_n 0, 1) := by decide +kernel
theorem dX9_count_42 : decode cX9_count 42 = .ok (.getfield 261, 3) := by decide +kernel
theorem dX9_count_45 : decode cX9_count 45 = .ok (.ireturn, 1) := by decide +kernel
theorem dX9_count_46 : decode cX9_count 46 = .ok (.aload_n 0, 1) := by decide +kernel
theorem dX9_count_47 : decode cX9_count 47 = .ok (.getfield 401, 3) := by decide +kernel
theorem dX9_count_5 : decode cX9_count 5 = .ok (.iload_n 1, 1) := by decide +kernel
theorem dX9_count_50 : decode cX9_count 50 = .ok (.ireturn, 1) := by decide +kernel
theorem dX9_count_51 : decode cX9_count 51 = .ok (.aload_n 0, 1) := by decide +kernel
theorem dX9_count_52 : decode cX9_count 52 = .ok (.getfield 71, 3) := by decide +kernel
theorem dX9_count_55 : decode cX9_count 55 = .ok (.ireturn, 1) := by decide +kernel
theorem dX9_count_56 : decode cX9_count 56 = .ok (.aload_n 0, 1) := by decide +kernel
theorem dX9_count_57 : decode cX9_count 57 = .ok (.iconst 1, 1) := by decide +kernel
theorem dX9_count_58 : decode cX9_count 58 = .ok (.invokevirtual 385, 3) := by decide +kernel
theorem dX9_count_6 : decode cX9_count 6 = .ok (.tableswitch 50 0 3 #[30, 35, 40, 45], 30) := by decide +kernel
theorem dX9_count_61 : decode cX9_count 61 = .ok (.ireturn, 1) := by decide +kernel
theorem dX9_define__0 : decode cX9_define_ 0 = .ok (.aload_n 0, 1) := by decide +kernel
theorem dX9_define__1 : decode cX9_define_ 1 = .ok (.invokevirtual 382, 3) := by decide +kernel
theorem dX9_define__368 : decode cX9_define_ 368 = .ok (.astore 6, 2) := by decide +kernel
theorem dX9_define__370 : decode cX9_define_ 370 = .ok (.aload_n 0, 1) := by decide +kernel
theorem dX9_define__371 : decode cX9_define_ 371 = .ok (.aload 6, 2) := by decide +kernel
theorem dX9_define__373 : decode cX9_define_ 373 = .ok (.invokevirtual 397, 3) := by decide +kernel
theorem dX9_define__376 : decode cX9_define_ 376 = .ok (.ifCond .eq 7, 3) := by decide +kernel
theorem dX9_define__383 : decode cX9_define_ 383 = .ok (.iconst 0, 1) := by decide +kernel
theorem dX9_define__384 : decode cX9_define_ 384 = .ok (.ireturn, 1) := by decide +kernel
theorem dX9_define__4 : decode cX9_define_ 4 = .ok (.aload_n 0, 1) := by decide +kernel
theorem dX9_define__5 : decode cX9_define_ 5 = .ok (.iload_n 1, 1) := by decide +kernel
theorem dX9_define__6 : decode cX9_define_ 6 = .ok (.invokevirtual 394, 3) := by decide +kernel
theorem dX9_fails_0 : decode cX9_fails 0 = .ok (.aload_n 0, 1) := by decide +kernel
theorem dX9_fails_1 : decode cX9_fails 1 = .ok (.iload_n 1, 1) := by decide +kernel
theorem dX9_fails_2 : decode cX9_fails 2 = .ok (.putfield 87, 3) := by decide +kernel
theorem dX9_fails_5 : decode cX9_fails 5 = .ok (.iconst 0, 1) := by decide +kernel
theorem dX9_fails_6 : decode cX9_fails 6 = .ok (.ireturn, 1) := by decide +kernel
theorem dX9_function_0 : decode cX9_function 0 = .ok (.aload_n 0, 1) := by decide +kernel
theorem dX9_function_1 : decode cX9_function 1 = .ok (.invokevirtual 382, 3) := by decide +kernel
theorem dX9_function_10 : decode cX9_function 10 = .ok (.if_icmp .gt 18, 3) := by decide +kernel
theorem dX9_function_13 : decode cX9_function 13 = .ok (.iload_n 2, 1) := by decide +kernel
theorem dX9_function_14 : decode cX9_function 14 = .ok (.invokestatic 388, 3) := by decide +kernel
theorem dX9_function_17 : decode cX9_function 17 = .ok (.ifCond .eq 11, 3) := by decide +kernel
theorem dX9_function_20 : decode cX9_function 20 = .ok (.aload_n 0, 1) := by decide +kernel
theorem dX9_function_21 : decode cX9_function 21 = .ok (.iload_n 3, 1) := by decide +kernel
theorem dX9_function_22 : decode cX9_function 22 = .ok (.invokevirtual 391, 3) := by decide +kernel
theorem dX9_function_25 : decode cX9_function 25 = .ok (.ifCond .ne 9, 3) := by decide +kernel
theorem dX9_function_28 : decode cX9_function 28 = .ok (.aload_n 0, 1) := by decide +kernel
theorem dX9_function_29 : decode cX9_function 29 = .ok (.iconst 1, 1) := by decide +kernel
theorem dX9_function_30 : decode cX9_function 30 = .ok (.invokevirtual 385, 3) := by decide +kernel
theorem dX9_function_33 : decode cX9_function 33 = .ok (.ireturn, 1) := by decide +kernel
theorem dX9_function_34 : decode cX9_function 34 = .ok (.aload_n 0, 1) := by decide +kernel
theorem dX9_function_35 : decode cX9_function 35 = .ok (.getfield 119, 3) := by decide +kernel
theorem dX9_function_38 : decode cX9_function 38 = .ok (.sipush 600, 3) := by decide +kernel
theorem dX9_function_4 : decode cX9_function 4 = .ok (.iload_n 1, 1) := by decide +kernel
theorem dX9_function_41 : decode cX9_function 41 = .ok (.if_icmp .ne 9, 3) := by decide +kernel
theorem dX9_function_5 : decode cX9_function 5 = .ok (.ifCond .lt 23, 3) := by decide +kernel
theorem dX9_function_50 : decode cX9_function 50 = .ok (.aload_n 0, 1) := by decide +kernel
theorem dX9_function_51 : decode cX9_function 51 = .ok (.iconst 3, 1) := by decide +kernel
theorem dX9_function_52 : decode cX9_function 52 = .ok (.iconst (-1), 1) := by decide +kernel
theorem dX9_function_53 : decode cX9_function 53 = .ok (.invokevirtual 133, 3) := by decide +kernel
theorem dX9_function_56 : decode cX9_function 56 = .ok (.istore 4, 2) := by decide +kernel
theorem dX9_function_58 : decode cX9_function 58 = .ok (.aload_n 0, 1) := by decide +kernel
theorem dX9_function_59 : decode cX9_function 59 = .ok (.getfield 22, 3) := by decide +kernel
theorem dX9_function_62 : decode cX9_function 62 = .ok (.iload 4, 2) := by decide +kernel
theorem dX9_function_64 : decode cX9_function 64 = .ok (.iload_n 1, 1) := by decide +kernel
theorem dX9_function_65 : decode cX9_function 65 = .ok (.iastore, 1) := by decide +kernel
theorem dX9_function_66 : decode cX9_function 66 = .ok (.aload_n 0, 1) := by decide +kernel
theorem dX9_function_67 : decode cX9_function 67 = .ok (.getfield 25, 3) := by decide +kernel
theorem dX9_function_70 : decode cX9_function 70 = .ok (.iload 4, 2) := by decide +kernel
theorem dX9_function_72 : decode cX9_function 72 = .ok (.iload_n 2, 1) := by decide +kernel
theorem dX9_function_73 : decode cX9_function 73 = .ok (.iastore, 1) := by decide +kernel
theorem dX9_function_74 : decode cX9_function 74 = .ok (.aload_n 0, 1) := by decide +kernel
theorem dX9_function_75 : decode cX9_function 75 = .ok (.getfield 28, 3) := by decide +kernel
theorem dX9_function_78 : decode cX9_function 78 = .ok (.iload 4, 2) := by decide +kernel
theorem dX9_function_8 : decode cX9_function 8 = .ok (.iload_n 1, 1) := by decide +kernel
theorem dX9_function_80 : decode cX9_function 80 = .ok (.iload_n 3, 1) := by decide +kernel
theorem dX9_function_81 : decode cX9_function 81 = .ok (.iastore, 1) := by decide +kernel
theorem dX9_function_82 : decode cX9_function 82 = .ok (.iload 4, 2) := by decide +kernel
theorem dX9_function_84 : decode cX9_function 84 = .ok (.invokestatic 185, 3) := by decide +kernel
theorem dX9_function_87 : decode cX9_function 87 = .ok (.ireturn, 1) := by decide +kernel
theorem dX9_function_9 : decode cX9_function 9 = .ok (.iconst 5, 1) := by decide +kernel
theorem dX9_get__0 : decode cX9_get_ 0 = .ok (.aload_n 0, 1) := by decide +kernel
theorem dX9_get__1 : decode cX9_get_ 1 = .ok (.invokevirtual 382, 3) := by decide +kernel
theorem dX9_get__4 : decode cX9_get_ 4 = .ok (.aload_n 0, 1) := by decide +kernel
theorem dX9_get__5 : decode cX9_get_ 5 = .ok (.iload_n 1, 1) := by decide +kernel
theorem dX9_get__58 : decode cX9_get_ 58 = .ok (.astore 5, 2) := by decide +kernel
theorem dX9_get__6 : decode cX9_get_ 6 = .ok (.invokevirtual 394, 3) := by decide +kernel
theorem dX9_get__60 : decode cX9_get_ 60 = .ok (.aload_n 0, 1) := by decide +kernel
theorem dX9_get__61 : decode cX9_get_ 61 = .ok (.aload 5, 2) := by decide +kernel
theorem dX9_get__63 : decode cX9_get_ 63 = .ok (.invokevirtual 397, 3) := by decide +kernel
theorem dX9_get__66 : decode cX9_get_ 66 = .ok (.ireturn, 1) := by decide +kernel
theorem dX9_has__0 : decode cX9_has_ 0 = .ok (.aload_n 0, 1) := by decide +kernel
theorem dX9_has__1 : decode cX9_has_ 1 = .ok (.invokevirtual 382, 3) := by decide +kernel
theorem dX9_has__4 : decode cX9_has_ 4 = .ok (.aload_n 0, 1) := by decide +kernel
theorem dX9_has__5 : decode cX9_has_ 5 = .ok (.iload_n 1, 1) := by decide +kernel
theorem dX9_has__57 : decode cX9_has_ 57 = .ok (.astore 4, 2) := by decide +kernel
theorem dX9_has__59 : decode cX9_has_ 59 = .ok (.aload_n 0, 1) := by decide +kernel
theorem dX9_has__6 : decode cX9_has_ 6 = .ok (.invokevirtual 394, 3) := by decide +kernel
theorem dX9_has__60 : decode cX9_has_ 60 = .ok (.aload 4, 2) := by decide +kernel
theorem dX9_has__62 : decode cX9_has_ 62 = .ok (.invokevirtual 397, 3) := by decide +kernel
theorem dX9_has__65 : decode cX9_has_ 65 = .ok (.ifCond .eq 7, 3) := by decide +kernel
theorem dX9_has__72 : decode cX9_has_ 72 = .ok (.iconst 0, 1) := by decide +kernel
theorem dX9_has__73 : decode cX9_has_ 73 = .ok (.ireturn, 1) := by decide +kernel
theorem dX9_illegal_0 : decode cX9_illegal 0 = .ok (.iload_n 1, 1) := by decide +kernel
theorem dX9_illegal_1 : decode cX9_illegal 1 = .ok (.ifCond .eq 12, 3) := by decide +kernel
theorem dX9_illegal_12 : decode cX9_illegal 12 = .ok (.athrow, 1) := by decide +kernel
theorem dX9_illegal_4 : decode cX9_illegal 4 = .ok (.new 125, 3) := by decide +kernel
theorem dX9_illegal_7 : decode cX9_illegal 7 = .ok (.dup, 1) := by decide +kernel
theorem dX9_illegal_8 : decode cX9_illegal 8 = .ok (.iconst 1, 1) := by decide +kernel
theorem dX9_illegal_9 : decode cX9_illegal 9 = .ok (.invokespecial 127, 3) := by decide +kernel
theorem dX9_init_0 : decode cX9_init 0 = .ok (.aload_n 0, 1) := by decide +kernel
theorem dX9_init_1 : decode cX9_init 1 = .ok (.invokespecial 1, 3) := by decide +kernel
theorem dX9_init_10 : decode cX9_init 10 = .ok (.putfield 7, 3) := by decide +kernel
theorem dX9_init_100 : decode cX9_init 100 = .ok (.putfield 41, 3) := by decide +kernel
theorem dX9_init_103 : decode cX9_init 103 = .ok (.aload_n 0, 1) := by decide +kernel
theorem dX9_init_104 : decode cX9_init 104 = .ok (.sipush 6000, 3) := by decide +kernel
theorem dX9_init_107 : decode cX9_init 107 = .ok (.newarray .int, 2) := by decide +kernel
theorem dX9_init_109 : decode cX9_init 109 = .ok (.putfield 44, 3) := by decide +kernel
theorem dX9_init_112 : decode cX9_init 112 = .ok (.aload_n 0, 1) := by decide +kernel
theorem dX9_init_113 : decode cX9_init 113 = .ok (.sipush 6000, 3) := by decide +kernel
theorem dX9_init_116 : decode cX9_init 116 = .ok (.newarray .int, 2) := by decide +kernel
theorem dX9_init_118 : decode cX9_init 118 = .ok (.putfield 47, 3) := by decide +kernel
theorem dX9_init_121 : decode cX9_init 121 = .ok (.aload_n 0, 1) := by decide +kernel
theorem dX9_init_122 : decode cX9_init 122 = .ok (.sipush 6000, 3) := by decide +kernel
theorem dX9_init_125 : decode cX9_init 125 = .ok (.newarray .int, 2) := by decide +kernel
theorem dX9_init_127 : decode cX9_init 127 = .ok (.putfield 50, 3) := by decide +kernel
theorem dX9_init_13 : decode cX9_init 13 = .ok (.aload_n 0, 1) := by decide +kernel
theorem dX9_init_130 : decode cX9_init 130 = .ok (.aload_n 0, 1) := by decide +kernel
theorem dX9_init_131 : decode cX9_init 131 = .ok (.sipush 6000, 3) := by decide +kernel
theorem dX9_init_134 : decode cX9_init 134 = .ok (.newarray .boolean, 2) := by decide +kernel
theorem dX9_init_136 : decode cX9_init 136 = .ok (.putfield 53, 3) := by decide +kernel
theorem dX9_init_139 : decode cX9_init 139 = .ok (.aload_n 0, 1) := by decide +kernel
theorem dX9_init_14 : decode cX9_init 14 = .ok (.sipush 600, 3) := by decide +kernel
theorem dX9_init_140 : decode cX9_init 140 = .ok (.sipush 6000, 3) := by decide +kernel
theorem dX9_init_143 : decode cX9_init 143 = .ok (.newarray .boolean, 2) := by decide +kernel
theorem dX9_init_145 : decode cX9_init 145 = .ok (.putfield 56, 3) := by decide +kernel
theorem dX9_init_148 : decode cX9_init 148 = .ok (.aload_n 0, 1) := by decide +kernel
theorem dX9_init_149 : decode cX9_init 149 = .ok (.sipush 6000, 3) := by decide +kernel
theorem dX9_init_152 : decode cX9_init 152 = .ok (.newarray .boolean, 2) := by decide +kernel
theorem dX9_init_154 : decode cX9_init 154 = .ok (.putfield 59, 3) := by decide +kernel
theorem dX9_init_157 : decode cX9_init 157 = .ok (.aload_n 0, 1) := by decide +kernel
theorem dX9_init_158 : decode cX9_init 158 = .ok (.sipush 6000, 3) := by decide +kernel
theorem dX9_init_161 : decode cX9_init 161 = .ok (.newarray .boolean, 2) := by decide +kernel
theorem dX9_init_163 : decode cX9_init 163 = .ok (.putfield 62, 3) := by decide +kernel
theorem dX9_init_166 : decode cX9_init 166 = .ok (.aload_n 0, 1) := by decide +kernel
theorem dX9_init_167 : decode cX9_init 167 = .ok (.sipush 250, 3) := by decide +kernel
theorem dX9_init_17 : decode cX9_init 17 = .ok (.newarray .int, 2) := by decide +kernel
theorem dX9_init_170 : decode cX9_init 170 = .ok (.newarray .int, 2) := by decide +kernel
theorem dX9_init_172 : decode cX9_init 172 = .ok (.putfield 65, 3) := by decide +kernel
theorem dX9_init_175 : decode cX9_init 175 = .ok (.aload_n 0, 1) := by decide +kernel
theorem dX9_init_176 : decode cX9_init 176 = .ok (.sipush 2000, 3) := by decide +kernel
theorem dX9_init_179 : decode cX9_init 179 = .ok (.newarray .int, 2) := by decide +kernel
theorem dX9_init_181 : decode cX9_init 181 = .ok (.putfield 68, 3) := by decide +kernel
theorem dX9_init_184 : decode cX9_init 184 = .ok (.aload_n 0, 1) := by decide +kernel
theorem dX9_init_185 : decode cX9_init 185 = .ok (.iconst (-1), 1) := by decide +kernel
theorem dX9_init_186 : decode cX9_init 186 = .ok (.putfield 71, 3) := by decide +kernel
theorem dX9_init_189 : decode cX9_init 189 = .ok (.aload_n 0, 1) := by decide +kernel
theorem dX9_init_19 : decode cX9_init 19 = .ok (.putfield 13, 3) := by decide +kernel
theorem dX9_init_190 : decode cX9_init 190 = .ok (.sipush 400, 3) := by decide +kernel
theorem dX9_init_193 : decode cX9_init 193 = .ok (.anewarray 75, 3) := by decide +kernel
theorem dX9_init_196 : decode cX9_init 196 = .ok (.putfield 77, 3) := by decide +kernel
theorem dX9_init_199 : decode cX9_init 199 = .ok (.aload_n 0, 1) := by decide +kernel
theorem dX9_init_200 : decode cX9_init 200 = .ok (.sipush 400, 3) := by decide +kernel
theorem dX9_init_203 : decode cX9_init 203 = .ok (.anewarray 81, 3) := by decide +kernel
theorem dX9_init_206 : decode cX9_init 206 = .ok (.putfield 83, 3) := by decide +kernel
theorem dX9_init_209 : decode cX9_init 209 = .ok (.iconst 0, 1) := by decide +kernel
theorem dX9_init_210 : decode cX9_init 210 = .ok (.istore_n 1, 1) := by decide +kernel
theorem dX9_init_211 : decode cX9_init 211 = .ok (.iload_n 1, 1) := by decide +kernel
theorem dX9_init_212 : decode cX9_init 212 = .ok (.sipush 6000, 3) := by decide +kernel
theorem dX9_init_215 : decode cX9_init 215 = .ok (.if_icmp .ge 31, 3) := by decide +kernel
theorem dX9_init_218 : decode cX9_init 218 = .ok (.aload_n 0, 1) := by decide +kernel
theorem dX9_init_219 : decode cX9_init 219 = .ok (.getfield 38, 3) := by decide +kernel
theorem dX9_init_22 : decode cX9_init 22 = .ok (.aload_n 0, 1) := by decide +kernel
theorem dX9_init_222 : decode cX9_init 222 = .ok (.iload_n 1, 1) := by decide +kernel
theorem dX9_init_223 : decode cX9_init 223 = .ok (.iload_n 1, 1) := by decide +kernel
theorem dX9_init_224 : decode cX9_init 224 = .ok (.iconst 1, 1) := by decide +kernel
theorem dX9_init_225 : decode cX9_init 225 = .ok (.iadd, 1) := by decide +kernel
theorem dX9_init_226 : decode cX9_init 226 = .ok (.sipush 6000, 3) := by decide +kernel
theorem dX9_init_229 : decode cX9_init 229 = .ok (.if_icmp .ge 9, 3) := by decide +kernel
theorem dX9_init_23 : decode cX9_init 23 = .ok (.sipush 600, 3) := by decide +kernel
theorem dX9_init_232 : decode cX9_init 232 = .ok (.iload_n 1, 1) := by decide +kernel
theorem dX9_init_233 : decode cX9_init 233 = .ok (.iconst 1, 1) := by decide +kernel
theorem dX9_init_234 : decode cX9_init 234 = .ok (.iadd, 1) := by decide +kernel
theorem dX9_init_235 : decode cX9_init 235 = .ok (.goto 4, 3) := by decide +kernel
theorem dX9_init_238 : decode cX9_init 238 = .ok (.iconst (-1), 1) := by decide +kernel
theorem dX9_init_239 : decode cX9_init 239 = .ok (.iastore, 1) := by decide +kernel
theorem dX9_init_240 : decode cX9_init 240 = .ok (.iinc 1 1, 3) := by decide +kernel
theorem dX9_init_243 : decode cX9_init 243 = .ok (.goto (-32), 3) := by decide +kernel
theorem dX9_init_246 : decode cX9_init 246 = .ok (.return_, 1) := by decide +kernel
theorem dX9_init_26 : decode cX9_init 26 = .ok (.newarray .int, 2) := by decide +kernel
theorem dX9_init_28 : decode cX9_init 28 = .ok (.putfield 16, 3) := by decide +kernel
theorem dX9_init_31 : decode cX9_init 31 = .ok (.aload_n 0, 1) := by decide +kernel
theorem dX9_init_32 : decode cX9_init 32 = .ok (.sipush 600, 3) := by decide +kernel
theorem dX9_init_35 : decode cX9_init 35 = .ok (.newarray .int, 2) := by decide +kernel
theorem dX9_init_37 : decode cX9_init 37 = .ok (.putfield 19, 3) := by decide +kernel
theorem dX9_init_4 : decode cX9_init 4 = .ok (.aload_n 0, 1) := by decide +kernel
theorem dX9_init_40 : decode cX9_init 40 = .ok (.aload_n 0, 1) := by decide +kernel
theorem dX9_init_41 : decode cX9_init 41 = .ok (.sipush 600, 3) := by decide +kernel
theorem dX9_init_44 : decode cX9_init 44 = .ok (.newarray .int, 2) := by decide +kernel
theorem dX9_init_46 : decode cX9_init 46 = .ok (.putfield 22, 3) := by decide +kernel
theorem dX9_init_49 : decode cX9_init 49 = .ok (.aload_n 0, 1) := by decide +kernel
theorem dX9_init_5 : decode cX9_init 5 = .ok (.sipush 600, 3) := by decide +kernel
theorem dX9_init_50 : decode cX9_init 50 = .ok (.sipush 600, 3) := by decide +kernel
theorem dX9_init_53 : decode cX9_init 53 = .ok (.newarray .int, 2) := by decide +kernel
theorem dX9_init_55 : decode cX9_init 55 = .ok (.putfield 25, 3) := by decide +kernel
theorem dX9_init_58 : decode cX9_init 58 = .ok (.aload_n 0, 1) := by decide +kernel
theorem dX9_init_59 : decode cX9_init 59 = .ok (.sipush 600, 3) := by decide +kernel
theorem dX9_init_62 : decode cX9_init 62 = .ok (.newarray .int, 2) := by decide +kernel
theorem dX9_init_64 : decode cX9_init 64 = .ok (.putfield 28, 3) := by decide +kernel
theorem dX9_init_67 : decode cX9_init 67 = .ok (.aload_n 0, 1) := by decide +kernel
theorem dX9_init_68 : decode cX9_init 68 = .ok (.sipush 600, 3) := by decide +kernel
theorem dX9_init_71 : decode cX9_init 71 = .ok (.newarray .boolean, 2) := by decide +kernel
theorem dX9_init_73 : decode cX9_init 73 = .ok (.putfield 31, 3) := by decide +kernel
theorem dX9_init_76 : decode cX9_init 76 = .ok (.aload_n 0, 1) := by decide +kernel
theorem dX9_init_77 : decode cX9_init 77 = .ok (.sipush 600, 3) := by decide +kernel
theorem dX9_init_8 : decode cX9_init 8 = .ok (.newarray .int, 2) := by decide +kernel
theorem dX9_init_80 : decode cX9_init 80 = .ok (.newarray .int, 2) := by decide +kernel
theorem dX9_init_82 : decode cX9_init 82 = .ok (.putfield 35, 3) := by decide +kernel
theorem dX9_init_85 : decode cX9_init 85 = .ok (.aload_n 0, 1) := by decide +kernel
theorem dX9_init_86 : decode cX9_init 86 = .ok (.sipush 6000, 3) := by decide +kernel
theorem dX9_init_89 : decode cX9_init 89 = .ok (.newarray .int, 2) := by decide +kernel
theorem dX9_init_91 : decode cX9_init 91 = .ok (.putfield 38, 3) := by decide +kernel
theorem dX9_init_94 : decode cX9_init 94 = .ok (.aload_n 0, 1) := by decide +kernel
theorem dX9_init_95 : decode cX9_init 95 = .ok (.sipush 6000, 3) := by decide +kernel
theorem dX9_init_98 : decode cX9_init 98 = .ok (.newarray .int, 2) := by decide +kernel
theorem dX9_isKey_0 : decode cX9_isKey 0 = .ok (.iload_n 0, 1) := by decide +kernel
theorem dX9_isKey_1 : decode cX9_isKey 1 = .ok (.ifCond .lt 14, 3) := by decide +kernel
theorem dX9_isKey_11 : decode cX9_isKey 11 = .ok (.iconst 1, 1) := by decide +kernel
theorem dX9_isKey_12 : decode cX9_isKey 12 = .ok (.goto 4, 3) := by decide +kernel
theorem dX9_isKey_15 : decode cX9_isKey 15 = .ok (.iconst 0, 1) := by decide +kernel
theorem dX9_isKey_16 : decode cX9_isKey 16 = .ok (.ireturn, 1) := by decide +kernel
theorem dX9_isKey_4 : decode cX9_isKey 4 = .ok (.iload_n 0, 1) := by decide +kernel
theorem dX9_isKey_5 : decode cX9_isKey 5 = .ok (.sipush 250, 3) := by decide +kernel
theorem dX9_isKey_8 : decode cX9_isKey 8 = .ok (.if_icmp .ge 7, 3) := by decide +kernel
theorem dX9_isObject_0 : decode cX9_isObject 0 = .ok (.iload_n 0, 1) := by decide +kernel
theorem dX9_isObject_1 : decode cX9_isObject 1 = .ok (.iconst (-1), 1) := by decide +kernel
theorem dX9_isObject_10 : decode cX9_isObject 10 = .ok (.ireturn, 1) := by decide +kernel
theorem dX9_isObject_2 : decode cX9_isObject 2 = .ok (.if_icmp .ge 7, 3) := by decide +kernel
theorem dX9_isObject_5 : decode cX9_isObject 5 = .ok (.iconst 1, 1) := by decide +kernel
theorem dX9_isObject_6 : decode cX9_isObject 6 = .ok (.goto 4, 3) := by decide +kernel
theorem dX9_isObject_9 : decode cX9_isObject 9 = .ok (.iconst 0, 1) := by decide +kernel
theorem dX9_isThere_0 : decode cX9_isThere 0 = .ok (.iload_n 1, 1) := by decide +kernel
theorem dX9_isThere_1 : decode cX9_isThere 1 = .ok (.invokestatic 111, 3) := by decide +kernel
theorem dX9_isThere_11 : decode cX9_isThere 11 = .ok (.ifCond .lt 18, 3) := by decide +kernel
theorem dX9_isThere_14 : decode cX9_isThere 14 = .ok (.iload_n 1, 1) := by decide +kernel
theorem dX9_isThere_15 : decode cX9_isThere 15 = .ok (.invokestatic 115, 3) := by decide +kernel
theorem dX9_isThere_18 : decode cX9_isThere 18 = .ok (.aload_n 0, 1) := by decide +kernel
theorem dX9_isThere_19 : decode cX9_isThere 19 = .ok (.getfield 119, 3) := by decide +kernel
theorem dX9_isThere_22 : decode cX9_isThere 22 = .ok (.if_icmp .ge 7, 3) := by decide +kernel
theorem dX9_isThere_29 : decode cX9_isThere 29 = .ok (.iconst 0, 1) := by decide +kernel
theorem dX9_isThere_30 : decode cX9_isThere 30 = .ok (.ireturn, 1) := by decide +kernel
theorem dX9_isThere_4 : decode cX9_isThere 4 = .ok (.ifCond .eq 25, 3) := by decide +kernel
theorem dX9_isThere_7 : decode cX9_isThere 7 = .ok (.iload_n 1, 1) := by decide +kernel
theorem dX9_isThere_8 : decode cX9_isThere 8 = .ok (.invokestatic 115, 3) := by decide +kernel
theorem dX9_isValue_0 : decode cX9_isValue 0 = .ok (.iload_n 1, 1) := by decide +kernel
theorem dX9_isValue_1 : decode cX9_isValue 1 = .ok (.iconst (-1), 1) := by decide +kernel
theorem dX9_isValue_12 : decode cX9_isValue 12 = .ok (.iload_n 1, 1) := by decide +kernel
theorem dX9_isValue_13 : decode cX9_isValue 13 = .ok (.sipush 1000, 3) := by decide +kernel
theorem dX9_isValue_16 : decode cX9_isValue 16 = .ok (.if_icmp .lt 10, 3) := by decide +kernel
theorem dX9_isValue_19 : decode cX9_isValue 19 = .ok (.iload_n 1, 1) := by decide +kernel
theorem dX9_isValue_2 : decode cX9_isValue 2 = .ok (.if_icmp .lt 10, 3) := by decide +kernel
theorem dX9_isValue_20 : decode cX9_isValue 20 = .ok (.sipush 1250, 3) := by decide +kernel
theorem dX9_isValue_23 : decode cX9_isValue 23 = .ok (.if_icmp .lt 11, 3) := by decide +kernel
theorem dX9_isValue_26 : decode cX9_isValue 26 = .ok (.aload_n 0, 1) := by decide +kernel
theorem dX9_isValue_27 : decode cX9_isValue 27 = .ok (.iload_n 1, 1) := by decide +kernel
theorem dX9_isValue_28 : decode cX9_isValue 28 = .ok (.invokevirtual 122, 3) := by decide +kernel
theorem dX9_isValue_31 : decode cX9_isValue 31 = .ok (.ifCond .eq 7, 3) := by decide +kernel
theorem dX9_isValue_34 : decode cX9_isValue 34 = .ok (.iconst 1, 1) := by decide +kernel
theorem dX9_isValue_35 : decode cX9_isValue 35 = .ok (.goto 4, 3) := by decide +kernel
theorem dX9_isValue_38 : decode cX9_isValue 38 = .ok (.iconst 0, 1) := by decide +kernel
theorem dX9_isValue_39 : decode cX9_isValue 39 = .ok (.ireturn, 1) := by decide +kernel
theorem dX9_isValue_5 : decode cX9_isValue 5 = .ok (.iload_n 1, 1) := by decide +kernel
theorem dX9_isValue_6 : decode cX9_isValue 6 = .ok (.sipush 1000, 3) := by decide +kernel
theorem dX9_isValue_9 : decode cX9_isValue 9 = .ok (.if_icmp .lt 25, 3) := by decide +kernel
theorem dX9_key_0 : decode cX9_key 0 = .ok (.aload_n 0, 1) := by decide +kernel
theorem dX9_key_1 : decode cX9_key 1 = .ok (.iconst 0, 1) := by decide +kernel
theorem dX9_key_10 : decode cX9_key 10 = .ok (.aload_n 0, 1) := by decide +kernel
theorem dX9_key_11 : decode cX9_key 11 = .ok (.getfield 401, 3) := by decide +kernel
theorem dX9_key_14 : decode cX9_key 14 = .ok (.if_icmp .ge 12, 3) := by decide +kernel
theorem dX9_key_2 : decode cX9_key 2 = .ok (.putfield 87, 3) := by decide +kernel
theorem dX9_key_26 : decode cX9_key 26 = .ok (.aload_n 0, 1) := by decide +kernel
theorem dX9_key_27 : decode cX9_key 27 = .ok (.iconst 1, 1) := by decide +kernel
theorem dX9_key_28 : decode cX9_key 28 = .ok (.invokevirtual 385, 3) := by decide +kernel
theorem dX9_key_31 : decode cX9_key 31 = .ok (.ireturn, 1) := by decide +kernel
theorem dX9_key_5 : decode cX9_key 5 = .ok (.iload_n 1, 1) := by decide +kernel
theorem dX9_key_6 : decode cX9_key 6 = .ok (.ifCond .lt 20, 3) := by decide +kernel
theorem dX9_key_9 : decode cX9_key 9 = .ok (.iload_n 1, 1) := by decide +kernel
theorem dX9_keys__0 : decode cX9_keys_ 0 = .ok (.aload_n 0, 1) := by decide +kernel
theorem dX9_keys__1 : decode cX9_keys_ 1 = .ok (.invokevirtual 382, 3) := by decide +kernel
theorem dX9_keys__4 : decode cX9_keys_ 4 = .ok (.aload_n 0, 1) := by decide +kernel
theorem dX9_keys__5 : decode cX9_keys_ 5 = .ok (.aload_n 0, 1) := by decide +kernel
theorem dX9_keys__6 : decode cX9_keys_ 6 = .ok (.iload_n 1, 1) := by decide +kernel
theorem dX9_keys__63 : decode cX9_keys_ 63 = .ok (.astore_n 3, 1) := by decide +kernel
theorem dX9_keys__64 : decode cX9_keys_ 64 = .ok (.aload_n 0, 1) := by decide +kernel
theorem dX9_keys__65 : decode cX9_keys_ 65 = .ok (.aload_n 3, 1) := by decide +kernel
theorem dX9_keys__66 : decode cX9_keys_ 66 = .ok (.invokevirtual 397, 3) := by decide +kernel
theorem dX9_keys__69 : decode cX9_keys_ 69 = .ok (.ireturn, 1) := by decide +kernel
theorem dX9_keys__7 : decode cX9_keys_ 7 = .ok (.invokevirtual 394, 3) := by decide +kernel
theorem dX9_level_0 : decode cX9_level 0 = .ok (.aload_n 0, 1) := by decide +kernel
theorem dX9_level_1 : decode cX9_level 1 = .ok (.invokevirtual 382, 3) := by decide +kernel
theorem dX9_level_33 : decode cX9_level 33 = .ok (.astore 4, 2) := by decide +kernel
theorem dX9_level_35 : decode cX9_level 35 = .ok (.aload_n 0, 1) := by decide +kernel
theorem dX9_level_36 : decode cX9_level 36 = .ok (.aload 4, 2) := by decide +kernel
theorem dX9_level_38 : decode cX9_level 38 = .ok (.invokevirtual 397, 3) := by decide +kernel
theorem dX9_level_4 : decode cX9_level 4 = .ok (.aload_n 0, 1) := by decide +kernel
theorem dX9_level_41 : decode cX9_level 41 = .ok (.ifCond .eq 7, 3) := by decide +kernel
theorem dX9_level_48 : decode cX9_level 48 = .ok (.iconst 0, 1) := by decide +kernel
theorem dX9_level_49 : decode cX9_level 49 = .ok (.ireturn, 1) := by decide +kernel
theorem dX9_level_5 : decode cX9_level 5 = .ok (.iload_n 1, 1) := by decide +kernel
theorem dX9_level_6 : decode cX9_level 6 = .ok (.invokevirtual 394, 3) := by decide +kernel
theorem dX9_make_0 : decode cX9_make 0 = .ok (.aload_n 0, 1) := by decide +kernel
theorem dX9_make_1 : decode cX9_make 1 = .ok (.invokevirtual 382, 3) := by decide +kernel
theorem dX9_make_10 : decode cX9_make 10 = .ok (.iload_n 1, 1) := by decide +kernel
theorem dX9_make_11 : decode cX9_make 11 = .ok (.invokevirtual 122, 3) := by decide +kernel
theorem dX9_make_14 : decode cX9_make 14 = .ok (.ifCond .ne 9, 3) := by decide +kernel
theorem dX9_make_17 : decode cX9_make 17 = .ok (.aload_n 0, 1) := by decide +kernel
theorem dX9_make_18 : decode cX9_make 18 = .ok (.iconst 1, 1) := by decide +kernel
theorem dX9_make_19 : decode cX9_make 19 = .ok (.invokevirtual 385, 3) := by decide +kernel
theorem dX9_make_22 : decode cX9_make 22 = .ok (.ireturn, 1) := by decide +kernel
theorem dX9_make_23 : decode cX9_make 23 = .ok (.aload_n 0, 1) := by decide +kernel
theorem dX9_make_24 : decode cX9_make 24 = .ok (.getfield 119, 3) := by decide +kernel
theorem dX9_make_27 : decode cX9_make 27 = .ok (.sipush 600, 3) := by decide +kernel
theorem dX9_make_30 : decode cX9_make 30 = .ok (.if_icmp .ne 9, 3) := by decide +kernel
theorem dX9_make_39 : decode cX9_make 39 = .ok (.aload_n 0, 1) := by decide +kernel
theorem dX9_make_4 : decode cX9_make 4 = .ok (.iload_n 1, 1) := by decide +kernel
theorem dX9_make_40 : decode cX9_make 40 = .ok (.iconst 0, 1) := by decide +kernel
theorem dX9_make_41 : decode cX9_make 41 = .ok (.iload_n 1, 1) := by decide +kernel
theorem dX9_make_42 : decode cX9_make 42 = .ok (.invokevirtual 133, 3) := by decide +kernel
theorem dX9_make_45 : decode cX9_make 45 = .ok (.invokestatic 185, 3) := by decide +kernel
theorem dX9_make_48 : decode cX9_make 48 = .ok (.ireturn, 1) := by decide +kernel
theorem dX9_make_5 : decode cX9_make 5 = .ok (.iconst (-1), 1) := by decide +kernel
theorem dX9_make_6 : decode cX9_make 6 = .ok (.if_icmp .eq 17, 3) := by decide +kernel
theorem dX9_make_9 : decode cX9_make 9 = .ok (.aload_n 0, 1) := by decide +kernel
theorem dX9_newArray_0 : decode cX9_newArray 0 = .ok (.aload_n 0, 1) := by decide +kernel
theorem dX9_newArray_1 : decode cX9_newArray 1 = .ok (.getfield 119, 3) := by decide +kernel
theorem dX9_newArray_10 : decode cX9_newArray 10 = .ok (.aload_n 0, 1) := by decide +kernel
theorem dX9_newArray_11 : decode cX9_newArray 11 = .ok (.getfield 130, 3) := by decide +kernel
theorem dX9_newArray_14 : decode cX9_newArray 14 = .ok (.sipush 5999, 3) := by decide +kernel
theorem dX9_newArray_17 : decode cX9_newArray 17 = .ok (.if_icmp .ne 12, 3) := by decide +kernel
theorem dX9_newArray_29 : decode cX9_newArray 29 = .ok (.aload_n 0, 1) := by decide +kernel
theorem dX9_newArray_30 : decode cX9_newArray 30 = .ok (.iconst 1, 1) := by decide +kernel
theorem dX9_newArray_31 : decode cX9_newArray 31 = .ok (.iconst (-1), 1) := by decide +kernel
theorem dX9_newArray_32 : decode cX9_newArray 32 = .ok (.invokevirtual 133, 3) := by decide +kernel
theorem dX9_newArray_35 : decode cX9_newArray 35 = .ok (.istore_n 2, 1) := by decide +kernel
theorem dX9_newArray_36 : decode cX9_newArray 36 = .ok (.aload_n 0, 1) := by decide +kernel
theorem dX9_newArray_37 : decode cX9_newArray 37 = .ok (.iload_n 2, 1) := by decide +kernel
theorem dX9_newArray_38 : decode cX9_newArray 38 = .ok (.bipush 100, 2) := by decide +kernel
theorem dX9_newArray_4 : decode cX9_newArray 4 = .ok (.sipush 600, 3) := by decide +kernel
theorem dX9_newArray_40 : decode cX9_newArray 40 = .ok (.invokevirtual 137, 3) := by decide +kernel
theorem dX9_newArray_43 : decode cX9_newArray 43 = .ok (.istore_n 3, 1) := by decide +kernel
theorem dX9_newArray_44 : decode cX9_newArray 44 = .ok (.aload_n 0, 1) := by decide +kernel
theorem dX9_newArray_45 : decode cX9_newArray 45 = .ok (.getfield 44, 3) := by decide +kernel
theorem dX9_newArray_48 : decode cX9_newArray 48 = .ok (.iload_n 3, 1) := by decide +kernel
theorem dX9_newArray_49 : decode cX9_newArray 49 = .ok (.iload_n 1, 1) := by decide +kernel
theorem dX9_newArray_50 : decode cX9_newArray 50 = .ok (.iastore, 1) := by decide +kernel
theorem dX9_newArray_51 : decode cX9_newArray 51 = .ok (.aload_n 0, 1) := by decide +kernel
theorem dX9_newArray_52 : decode cX9_newArray 52 = .ok (.getfield 56, 3) := by decide +kernel
theorem dX9_newArray_55 : decode cX9_newArray 55 = .ok (.iload_n 3, 1) := by decide +kernel
theorem dX9_newArray_56 : decode cX9_newArray 56 = .ok (.iconst 1, 1) := by decide +kernel
theorem dX9_newArray_57 : decode cX9_newArray 57 = .ok (.bastore, 1) := by decide +kernel
theorem dX9_newArray_58 : decode cX9_newArray 58 = .ok (.iload_n 2, 1) := by decide +kernel
theorem dX9_newArray_59 : decode cX9_newArray 59 = .ok (.ireturn, 1) := by decide +kernel
theorem dX9_newArray_7 : decode cX9_newArray 7 = .ok (.if_icmp .eq 13, 3) := by decide +kernel
theorem dX9_newObject_0 : decode cX9_newObject 0 = .ok (.aload_n 0, 1) := by decide +kernel
theorem dX9_newObject_1 : decode cX9_newObject 1 = .ok (.getfield 119, 3) := by decide +kernel
theorem dX9_newObject_19 : decode cX9_newObject 19 = .ok (.aload_n 0, 1) := by decide +kernel
theorem dX9_newObject_20 : decode cX9_newObject 20 = .ok (.getfield 119, 3) := by decide +kernel
theorem dX9_newObject_23 : decode cX9_newObject 23 = .ok (.istore_n 3, 1) := by decide +kernel
theorem dX9_newObject_24 : decode cX9_newObject 24 = .ok (.aload_n 0, 1) := by decide +kernel
theorem dX9_newObject_25 : decode cX9_newObject 25 = .ok (.dup, 1) := by decide +kernel
theorem dX9_newObject_26 : decode cX9_newObject 26 = .ok (.getfield 119, 3) := by decide +kernel
theorem dX9_newObject_29 : decode cX9_newObject 29 = .ok (.iconst 1, 1) := by decide +kernel
theorem dX9_newObject_30 : decode cX9_newObject 30 = .ok (.iadd, 1) := by decide +kernel
theorem dX9_newObject_31 : decode cX9_newObject 31 = .ok (.putfield 119, 3) := by decide +kernel
theorem dX9_newObject_34 : decode cX9_newObject 34 = .ok (.aload_n 0, 1) := by decide +kernel
theorem dX9_newObject_35 : decode cX9_newObject 35 = .ok (.getfield 7, 3) := by decide +kernel
theorem dX9_newObject_38 : decode cX9_newObject 38 = .ok (.iload_n 3, 1) := by decide +kernel
theorem dX9_newObject_39 : decode cX9_newObject 39 = .ok (.iload_n 1, 1) := by decide +kernel
theorem dX9_newObject_4 : decode cX9_newObject 4 = .ok (.sipush 600, 3) := by decide +kernel
theorem dX9_newObject_40 : decode cX9_newObject 40 = .ok (.iastore, 1) := by decide +kernel
theorem dX9_newObject_41 : decode cX9_newObject 41 = .ok (.aload_n 0, 1) := by decide +kernel
theorem dX9_newObject_42 : decode cX9_newObject 42 = .ok (.getfield 13, 3) := by decide +kernel
theorem dX9_newObject_45 : decode cX9_newObject 45 = .ok (.iload_n 3, 1) := by decide +kernel
theorem dX9_newObject_46 : decode cX9_newObject 46 = .ok (.iload_n 2, 1) := by decide +kernel
theorem dX9_newObject_47 : decode cX9_newObject 47 = .ok (.iastore, 1) := by decide +kernel
theorem dX9_newObject_48 : decode cX9_newObject 48 = .ok (.aload_n 0, 1) := by decide +kernel
theorem dX9_newObject_49 : decode cX9_newObject 49 = .ok (.getfield 31, 3) := by decide +kernel
theorem dX9_newObject_52 : decode cX9_newObject 52 = .ok (.iload_n 3, 1) := by decide +kernel
theorem dX9_newObject_53 : decode cX9_newObject 53 = .ok (.iconst 0, 1) := by decide +kernel
theorem dX9_newObject_54 : decode cX9_newObject 54 = .ok (.bastore, 1) := by decide +kernel
theorem dX9_newObject_55 : decode cX9_newObject 55 = .ok (.aload_n 0, 1) := by decide +kernel
theorem dX9_newObject_56 : decode cX9_newObject 56 = .ok (.getfield 35, 3) := by decide +kernel
theorem dX9_newObject_59 : decode cX9_newObject 59 = .ok (.iload_n 3, 1) := by decide +kernel
theorem dX9_newObject_60 : decode cX9_newObject 60 = .ok (.iconst (-1), 1) := by decide +kernel
theorem dX9_newObject_61 : decode cX9_newObject 61 = .ok (.iastore, 1) := by decide +kernel
theorem dX9_newObject_62 : decode cX9_newObject 62 = .ok (.iload_n 3, 1) := by decide +kernel
theorem dX9_newObject_63 : decode cX9_newObject 63 = .ok (.ireturn, 1) := by decide +kernel
theorem dX9_newObject_7 : decode cX9_newObject 7 = .ok (.if_icmp .ne 12, 3) := by decide +kernel
theorem dX9_newProperty_0 : decode cX9_newProperty 0 = .ok (.aload_n 0, 1) := by decide +kernel
theorem dX9_newProperty_1 : decode cX9_newProperty 1 = .ok (.getfield 130, 3) := by decide +kernel
theorem dX9_newProperty_100 : decode cX9_newProperty 100 = .ok (.aload_n 0, 1) := by decide +kernel
theorem dX9_newProperty_101 : decode cX9_newProperty 101 = .ok (.getfield 62, 3) := by decide +kernel
theorem dX9_newProperty_104 : decode cX9_newProperty 104 = .ok (.iload_n 3, 1) := by decide +kernel
theorem dX9_newProperty_105 : decode cX9_newProperty 105 = .ok (.iconst 0, 1) := by decide +kernel
theorem dX9_newProperty_106 : decode cX9_newProperty 106 = .ok (.bastore, 1) := by decide +kernel
theorem dX9_newProperty_107 : decode cX9_newProperty 107 = .ok (.aload_n 0, 1) := by decide +kernel
theorem dX9_newProperty_108 : decode cX9_newProperty 108 = .ok (.getfield 35, 3) := by decide +kernel
theorem dX9_newProperty_111 : decode cX9_newProperty 111 = .ok (.iload_n 1, 1) := by decide +kernel
theorem dX9_newProperty_112 : decode cX9_newProperty 112 = .ok (.iaload, 1) := by decide +kernel
theorem dX9_newProperty_113 : decode cX9_newProperty 113 = .ok (.istore 4, 2) := by decide +kernel
theorem dX9_newProperty_115 : decode cX9_newProperty 115 = .ok (.iload 4, 2) := by decide +kernel
theorem dX9_newProperty_117 : decode cX9_newProperty 117 = .ok (.ifCond .ge 12, 3) := by decide +kernel
theorem dX9_newProperty_120 : decode cX9_newProperty 120 = .ok (.aload_n 0, 1) := by decide +kernel
theorem dX9_newProperty_121 : decode cX9_newProperty 121 = .ok (.getfield 35, 3) := by decide +kernel
theorem dX9_newProperty_124 : decode cX9_newProperty 124 = .ok (.iload_n 1, 1) := by decide +kernel
theorem dX9_newProperty_125 : decode cX9_newProperty 125 = .ok (.iload_n 3, 1) := by decide +kernel
theorem dX9_newProperty_126 : decode cX9_newProperty 126 = .ok (.iastore, 1) := by decide +kernel
theorem dX9_newProperty_127 : decode cX9_newProperty 127 = .ok (.iload_n 3, 1) := by decide +kernel
theorem dX9_newProperty_128 : decode cX9_newProperty 128 = .ok (.ireturn, 1) := by decide +kernel
theorem dX9_newProperty_19 : decode cX9_newProperty 19 = .ok (.aload_n 0, 1) := by decide +kernel
theorem dX9_newProperty_20 : decode cX9_newProperty 20 = .ok (.dup, 1) := by decide +kernel
theorem dX9_newProperty_21 : decode cX9_newProperty 21 = .ok (.getfield 130, 3) := by decide +kernel
theorem dX9_newProperty_24 : decode cX9_newProperty 24 = .ok (.iconst 1, 1) := by decide +kernel
theorem dX9_newProperty_25 : decode cX9_newProperty 25 = .ok (.iadd, 1) := by decide +kernel
theorem dX9_newProperty_26 : decode cX9_newProperty 26 = .ok (.putfield 130, 3) := by decide +kernel
theorem dX9_newProperty_29 : decode cX9_newProperty 29 = .ok (.aload_n 0, 1) := by decide +kernel
theorem dX9_newProperty_30 : decode cX9_newProperty 30 = .ok (.getfield 140, 3) := by decide +kernel
theorem dX9_newProperty_33 : decode cX9_newProperty 33 = .ok (.istore_n 3, 1) := by decide +kernel
theorem dX9_newProperty_34 : decode cX9_newProperty 34 = .ok (.aload_n 0, 1) := by decide +kernel
theorem dX9_newProperty_35 : decode cX9_newProperty 35 = .ok (.aload_n 0, 1) := by decide +kernel
theorem dX9_newProperty_36 : decode cX9_newProperty 36 = .ok (.getfield 38, 3) := by decide +kernel
theorem dX9_newProperty_39 : decode cX9_newProperty 39 = .ok (.iload_n 3, 1) := by decide +kernel
theorem dX9_newProperty_4 : decode cX9_newProperty 4 = .ok (.sipush 5999, 3) := by decide +kernel
theorem dX9_newProperty_40 : decode cX9_newProperty 40 = .ok (.iaload, 1) := by decide +kernel
theorem dX9_newProperty_41 : decode cX9_newProperty 41 = .ok (.putfield 140, 3) := by decide +kernel
theorem dX9_newProperty_44 : decode cX9_newProperty 44 = .ok (.aload_n 0, 1) := by decide +kernel
theorem dX9_newProperty_45 : decode cX9_newProperty 45 = .ok (.getfield 38, 3) := by decide +kernel
theorem dX9_newProperty_48 : decode cX9_newProperty 48 = .ok (.iload_n 3, 1) := by decide +kernel
theorem dX9_newProperty_49 : decode cX9_newProperty 49 = .ok (.iconst (-1), 1) := by decide +kernel
theorem dX9_newProperty_50 : decode cX9_newProperty 50 = .ok (.iastore, 1) := by decide +kernel
theorem dX9_newProperty_51 : decode cX9_newProperty 51 = .ok (.aload_n 0, 1) := by decide +kernel
theorem dX9_newProperty_52 : decode cX9_newProperty 52 = .ok (.getfield 41, 3) := by decide +kernel
theorem dX9_newProperty_55 : decode cX9_newProperty 55 = .ok (.iload_n 3, 1) := by decide +kernel
theorem dX9_newProperty_56 : decode cX9_newProperty 56 = .ok (.iload_n 2, 1) := by decide +kernel
theorem dX9_newProperty_57 : decode cX9_newProperty 57 = .ok (.iastore, 1) := by decide +kernel
theorem dX9_newProperty_58 : decode cX9_newProperty 58 = .ok (.aload_n 0, 1) := by decide +kernel
theorem dX9_newProperty_59 : decode cX9_newProperty 59 = .ok (.getfield 44, 3) := by decide +kernel
theorem dX9_newProperty_62 : decode cX9_newProperty 62 = .ok (.iload_n 3, 1) := by decide +kernel
theorem dX9_newProperty_63 : decode cX9_newProperty 63 = .ok (.iconst (-1), 1) := by decide +kernel
theorem dX9_newProperty_64 : decode cX9_newProperty 64 = .ok (.iastore, 1) := by decide +kernel
theorem dX9_newProperty_65 : decode cX9_newProperty 65 = .ok (.aload_n 0, 1) := by decide +kernel
theorem dX9_newProperty_66 : decode cX9_newProperty 66 = .ok (.getfield 47, 3) := by decide +kernel
theorem dX9_newProperty_69 : decode cX9_newProperty 69 = .ok (.iload_n 3, 1) := by decide +kernel
theorem dX9_newProperty_7 : decode cX9_newProperty 7 = .ok (.if_icmp .ne 12, 3) := by decide +kernel
theorem dX9_newProperty_70 : decode cX9_newProperty 70 = .ok (.iconst (-1), 1) := by decide +kernel
theorem dX9_newProperty_71 : decode cX9_newProperty 71 = .ok (.iastore, 1) := by decide +kernel
theorem dX9_newProperty_72 : decode cX9_newProperty 72 = .ok (.aload_n 0, 1) := by decide +kernel
theorem dX9_newProperty_73 : decode cX9_newProperty 73 = .ok (.getfield 50, 3) := by decide +kernel
theorem dX9_newProperty_76 : decode cX9_newProperty 76 = .ok (.iload_n 3, 1) := by decide +kernel
theorem dX9_newProperty_77 : decode cX9_newProperty 77 = .ok (.iconst (-1), 1) := by decide +kernel
theorem dX9_newProperty_78 : decode cX9_newProperty 78 = .ok (.iastore, 1) := by decide +kernel
theorem dX9_newProperty_79 : decode cX9_newProperty 79 = .ok (.aload_n 0, 1) := by decide +kernel
theorem dX9_newProperty_80 : decode cX9_newProperty 80 = .ok (.getfield 53, 3) := by decide +kernel
theorem dX9_newProperty_83 : decode cX9_newProperty 83 = .ok (.iload_n 3, 1) := by decide +kernel
theorem dX9_newProperty_84 : decode cX9_newProperty 84 = .ok (.iconst 0, 1) := by decide +kernel
theorem dX9_newProperty_85 : decode cX9_newProperty 85 = .ok (.bastore, 1) := by decide +kernel
theorem dX9_newProperty_86 : decode cX9_newProperty 86 = .ok (.aload_n 0, 1) := by decide +kernel
theorem dX9_newProperty_87 : decode cX9_newProperty 87 = .ok (.getfield 56, 3) := by decide +kernel
theorem dX9_newProperty_90 : decode cX9_newProperty 90 = .ok (.iload_n 3, 1) := by decide +kernel
theorem dX9_newProperty_91 : decode cX9_newProperty 91 = .ok (.iconst 0, 1) := by decide +kernel
theorem dX9_newProperty_92 : decode cX9_newProperty 92 = .ok (.bastore, 1) := by decide +kernel
theorem dX9_newProperty_93 : decode cX9_newProperty 93 = .ok (.aload_n 0, 1) := by decide +kernel
theorem dX9_newProperty_94 : decode cX9_newProperty 94 = .ok (.getfield 59, 3) := by decide +kernel
theorem dX9_newProperty_97 : decode cX9_newProperty 97 = .ok (.iload_n 3, 1) := by decide +kernel
theorem dX9_newProperty_98 : decode cX9_newProperty 98 = .ok (.iconst 0, 1) := by decide +kernel
theorem dX9_newProperty_99 : decode cX9_newProperty 99 = .ok (.bastore, 1) := by decide +kernel
theorem dX9_objectOf_0 : decode cX9_objectOf 0 = .ok (.aload_n 0, 1) := by decide +kernel
theorem dX9_objectOf_1 : decode cX9_objectOf 1 = .ok (.aload_n 0, 1) := by decide +kernel
theorem dX9_objectOf_10 : decode cX9_objectOf 10 = .ok (.goto 4, 3) := by decide +kernel
theorem dX9_objectOf_14 : decode cX9_objectOf 14 = .ok (.invokevirtual 379, 3) := by decide +kernel
theorem dX9_objectOf_2 : decode cX9_objectOf 2 = .ok (.iload_n 1, 1) := by decide +kernel
theorem dX9_objectOf_3 : decode cX9_objectOf 3 = .ok (.invokevirtual 122, 3) := by decide +kernel
theorem dX9_objectOf_6 : decode cX9_objectOf 6 = .ok (.ifCond .ne 7, 3) := by decide +kernel
theorem dX9_objectOf_9 : decode cX9_objectOf 9 = .ok (.iconst 1, 1) := by decide +kernel
theorem dX9_object_0 : decode cX9_object 0 = .ok (.bipush (-2), 2) := by decide +kernel
theorem dX9_object_2 : decode cX9_object 2 = .ok (.iload_n 0, 1) := by decide +kernel
theorem dX9_object_3 : decode cX9_object 3 = .ok (.isub, 1) := by decide +kernel
theorem dX9_object_4 : decode cX9_object 4 = .ok (.ireturn, 1) := by decide +kernel
theorem dX9_open_0 : decode cX9_open 0 = .ok (.aload_n 0, 1) := by decide +kernel
theorem dX9_open_1 : decode cX9_open 1 = .ok (.invokevirtual 382, 3) := by decide +kernel
theorem dX9_open_14 : decode cX9_open 14 = .ok (.astore_n 2, 1) := by decide +kernel
theorem dX9_open_15 : decode cX9_open 15 = .ok (.aload_n 0, 1) := by decide +kernel
theorem dX9_open_16 : decode cX9_open 16 = .ok (.aload_n 2, 1) := by decide +kernel
theorem dX9_open_17 : decode cX9_open 17 = .ok (.invokevirtual 397, 3) := by decide +kernel
theorem dX9_open_20 : decode cX9_open 20 = .ok (.ifCond .eq 7, 3) := by decide +kernel
theorem dX9_open_27 : decode cX9_open 27 = .ok (.iconst 0, 1) := by decide +kernel
theorem dX9_open_28 : decode cX9_open 28 = .ok (.ireturn, 1) := by decide +kernel
theorem dX9_open_4 : decode cX9_open 4 = .ok (.aload_n 0, 1) := by decide +kernel
theorem dX9_open_5 : decode cX9_open 5 = .ok (.aload_n 0, 1) := by decide +kernel
theorem dX9_open_6 : decode cX9_open 6 = .ok (.iload_n 1, 1) := by decide +kernel
theorem dX9_open_7 : decode cX9_open 7 = .ok (.invokevirtual 394, 3) := by decide +kernel
theorem dX9_parent_0 : decode cX9_parent 0 = .ok (.aload_n 0, 1) := by decide +kernel
theorem dX9_parent_1 : decode cX9_parent 1 = .ok (.invokevirtual 382, 3) := by decide +kernel
theorem dX9_parent_14 : decode cX9_parent 14 = .ok (.astore_n 2, 1) := by decide +kernel
theorem dX9_parent_15 : decode cX9_parent 15 = .ok (.aload_n 0, 1) := by decide +kernel
theorem dX9_parent_16 : decode cX9_parent 16 = .ok (.aload_n 2, 1) := by decide +kernel
theorem dX9_parent_17 : decode cX9_parent 17 = .ok (.invokevirtual 397, 3) := by decide +kernel
theorem dX9_parent_20 : decode cX9_parent 20 = .ok (.ireturn, 1) := by decide +kernel
theorem dX9_parent_4 : decode cX9_parent 4 = .ok (.aload_n 0, 1) := by decide +kernel
theorem dX9_parent_5 : decode cX9_parent 5 = .ok (.aload_n 0, 1) := by decide +kernel
theorem dX9_parent_6 : decode cX9_parent 6 = .ok (.iload_n 1, 1) := by decide +kernel
theorem dX9_parent_7 : decode cX9_parent 7 = .ok (.invokevirtual 394, 3) := by decide +kernel
theorem dX9_proxy_0 : decode cX9_proxy 0 = .ok (.aload_n 0, 1) := by decide +kernel
theorem dX9_proxy_1 : decode cX9_proxy 1 = .ok (.invokevirtual 382, 3) := by decide +kernel
theorem dX9_proxy_20 : decode cX9_proxy 20 = .ok (.aload_n 0, 1) := by decide +kernel
theorem dX9_proxy_21 : decode cX9_proxy 21 = .ok (.iconst 1, 1) := by decide +kernel
theorem dX9_proxy_22 : decode cX9_proxy 22 = .ok (.invokevirtual 385, 3) := by decide +kernel
theorem dX9_proxy_25 : decode cX9_proxy 25 = .ok (.ireturn, 1) := by decide +kernel
theorem dX9_proxy_4 : decode cX9_proxy 4 = .ok (.aload_n 0, 1) := by decide +kernel
theorem dX9_proxy_5 : decode cX9_proxy 5 = .ok (.iload_n 1, 1) := by decide +kernel
theorem dX9_proxy_6 : decode cX9_proxy 6 = .ok (.invokevirtual 122, 3) := by decide +kernel
theorem dX9_proxy_9 : decode cX9_proxy 9 = .ok (.ifCond .eq 11, 3) := by decide +kernel
theorem dX9_remove_0 : decode cX9_remove 0 = .ok (.aload_n 0, 1) := by decide +kernel
theorem dX9_remove_1 : decode cX9_remove 1 = .ok (.invokevirtual 382, 3) := by decide +kernel
theorem dX9_remove_33 : decode cX9_remove 33 = .ok (.astore_n 3, 1) := by decide +kernel
theorem dX9_remove_34 : decode cX9_remove 34 = .ok (.aload_n 0, 1) := by decide +kernel
theorem dX9_remove_35 : decode cX9_remove 35 = .ok (.aload_n 3, 1) := by decide +kernel
theorem dX9_remove_36 : decode cX9_remove 36 = .ok (.invokevirtual 397, 3) := by decide +kernel
theorem dX9_remove_39 : decode cX9_remove 39 = .ok (.ifCond .eq 7, 3) := by decide +kernel
theorem dX9_remove_4 : decode cX9_remove 4 = .ok (.aload_n 0, 1) := by decide +kernel
theorem dX9_remove_46 : decode cX9_remove 46 = .ok (.iconst 0, 1) := by decide +kernel
theorem dX9_remove_47 : decode cX9_remove 47 = .ok (.ireturn, 1) := by decide +kernel
theorem dX9_remove_5 : decode cX9_remove 5 = .ok (.iload_n 1, 1) := by decide +kernel
theorem dX9_remove_6 : decode cX9_remove 6 = .ok (.invokevirtual 394, 3) := by decide +kernel
theorem dX9_revoke_0 : decode cX9_revoke 0 = .ok (.aload_n 0, 1) := by decide +kernel
theorem dX9_revoke_1 : decode cX9_revoke 1 = .ok (.invokevirtual 382, 3) := by decide +kernel
theorem dX9_revoke_25 : decode cX9_revoke 25 = .ok (.aload_n 0, 1) := by decide +kernel
theorem dX9_revoke_26 : decode cX9_revoke 26 = .ok (.iconst 1, 1) := by decide +kernel
theorem dX9_revoke_27 : decode cX9_revoke 27 = .ok (.putfield 87, 3) := by decide +kernel
theorem dX9_revoke_30 : decode cX9_revoke 30 = .ok (.iconst 0, 1) := by decide +kernel
theorem dX9_revoke_31 : decode cX9_revoke 31 = .ok (.ireturn, 1) := by decide +kernel
theorem dX9_revoke_4 : decode cX9_revoke 4 = .ok (.aload_n 0, 1) := by decide +kernel
theorem dX9_revoke_5 : decode cX9_revoke 5 = .ok (.iload_n 1, 1) := by decide +kernel
theorem dX9_revoke_6 : decode cX9_revoke 6 = .ok (.invokevirtual 122, 3) := by decide +kernel
theorem dX9_revoke_9 : decode cX9_revoke 9 = .ok (.ifCond .eq 16, 3) := by decide +kernel
theorem dX9_setParent_0 : decode cX9_setParent 0 = .ok (.aload_n 0, 1) := by decide +kernel
theorem dX9_setParent_1 : decode cX9_setParent 1 = .ok (.invokevirtual 382, 3) := by decide +kernel
theorem dX9_setParent_39 : decode cX9_setParent 39 = .ok (.astore_n 3, 1) := by decide +kernel
theorem dX9_setParent_4 : decode cX9_setParent 4 = .ok (.aload_n 0, 1) := by decide +kernel
theorem dX9_setParent_40 : decode cX9_setParent 40 = .ok (.aload_n 0, 1) := by decide +kernel
theorem dX9_setParent_41 : decode cX9_setParent 41 = .ok (.aload_n 3, 1) := by decide +kernel
theorem dX9_setParent_42 : decode cX9_setParent 42 = .ok (.invokevirtual 397, 3) := by decide +kernel
theorem dX9_setParent_45 : decode cX9_setParent 45 = .ok (.ifCond .eq 7, 3) := by decide +kernel
theorem dX9_setParent_5 : decode cX9_setParent 5 = .ok (.iload_n 1, 1) := by decide +kernel
theorem dX9_setParent_52 : decode cX9_setParent 52 = .ok (.iconst 0, 1) := by decide +kernel
theorem dX9_setParent_53 : decode cX9_setParent 53 = .ok (.ireturn, 1) := by decide +kernel
theorem dX9_setParent_6 : decode cX9_setParent 6 = .ok (.invokevirtual 394, 3) := by decide +kernel
theorem dX9_set__0 : decode cX9_set_ 0 = .ok (.aload_n 0, 1) := by decide +kernel
theorem dX9_set__1 : decode cX9_set_ 1 = .ok (.invokevirtual 382, 3) := by decide +kernel
theorem dX9_set__4 : decode cX9_set_ 4 = .ok (.aload_n 0, 1) := by decide +kernel
theorem dX9_set__5 : decode cX9_set_ 5 = .ok (.iload_n 1, 1) := by decide +kernel
theorem dX9_set__6 : decode cX9_set_ 6 = .ok (.invokevirtual 394, 3) := by decide +kernel
theorem dX9_set__69 : decode cX9_set_ 69 = .ok (.astore 6, 2) := by decide +kernel
theorem dX9_set__71 : decode cX9_set_ 71 = .ok (.aload_n 0, 1) := by decide +kernel
theorem dX9_set__72 : decode cX9_set_ 72 = .ok (.aload 6, 2) := by decide +kernel
theorem dX9_set__74 : decode cX9_set_ 74 = .ok (.invokevirtual 397, 3) := by decide +kernel
theorem dX9_set__77 : decode cX9_set_ 77 = .ok (.ifCond .eq 7, 3) := by decide +kernel
theorem dX9_set__84 : decode cX9_set_ 84 = .ok (.iconst 0, 1) := by decide +kernel
theorem dX9_set__85 : decode cX9_set_ 85 = .ok (.ireturn, 1) := by decide +kernel
theorem dX9_shut_0 : decode cX9_shut 0 = .ok (.aload_n 0, 1) := by decide +kernel
theorem dX9_shut_1 : decode cX9_shut 1 = .ok (.invokevirtual 382, 3) := by decide +kernel
theorem dX9_shut_14 : decode cX9_shut 14 = .ok (.astore_n 2, 1) := by decide +kernel
theorem dX9_shut_15 : decode cX9_shut 15 = .ok (.aload_n 0, 1) := by decide +kernel
theorem dX9_shut_16 : decode cX9_shut 16 = .ok (.aload_n 2, 1) := by decide +kernel
theorem dX9_shut_17 : decode cX9_shut 17 = .ok (.invokevirtual 397, 3) := by decide +kernel
theorem dX9_shut_20 : decode cX9_shut 20 = .ok (.ifCond .eq 7, 3) := by decide +kernel
theorem dX9_shut_27 : decode cX9_shut 27 = .ok (.iconst 0, 1) := by decide +kernel
theorem dX9_shut_28 : decode cX9_shut 28 = .ok (.ireturn, 1) := by decide +kernel
theorem dX9_shut_4 : decode cX9_shut 4 = .ok (.aload_n 0, 1) := by decide +kernel
theorem dX9_shut_5 : decode cX9_shut 5 = .ok (.aload_n 0, 1) := by decide +kernel
theorem dX9_shut_6 : decode cX9_shut 6 = .ok (.iload_n 1, 1) := by decide +kernel
theorem dX9_shut_7 : decode cX9_shut 7 = .ok (.invokevirtual 394, 3) := by decide +kernel
theorem dX9_stopped_0 : decode cX9_stopped 0 = .ok (.aload_n 0, 1) := by decide +kernel
theorem dX9_stopped_1 : decode cX9_stopped 1 = .ok (.aload_n 1, 1) := by decide +kernel
theorem dX9_stopped_2 : decode cX9_stopped 2 = .ok (.getfield 376, 3) := by decide +kernel
theorem dX9_stopped_5 : decode cX9_stopped 5 = .ok (.putfield 87, 3) := by decide +kernel
theorem dX9_stopped_8 : decode cX9_stopped 8 = .ok (.iconst 0, 1) := by decide +kernel
theorem dX9_stopped_9 : decode cX9_stopped 9 = .ok (.ireturn, 1) := by decide +kernel
theorem dX9_thrown_0 : decode cX9_thrown 0 = .ok (.aload_n 0, 1) := by decide +kernel
theorem dX9_thrown_1 : decode cX9_thrown 1 = .ok (.getfield 87, 3) := by decide +kernel
theorem dX9_thrown_4 : decode cX9_thrown 4 = .ok (.ireturn, 1) := by decide +kernel
theorem dX9_valueOfObject_0 : decode cX9_valueOfObject 0 = .ok (.bipush (-2), 2) := by decide +kernel
theorem dX9_valueOfObject_2 : decode cX9_valueOfObject 2 = .ok (.iload_n 0, 1) := by decide +kernel
theorem dX9_valueOfObject_3 : decode cX9_valueOfObject 3 = .ok (.isub, 1) := by decide +kernel
theorem dX9_valueOfObject_4 : decode cX9_valueOfObject 4 = .ok (.ireturn, 1) := by decide +kernel
