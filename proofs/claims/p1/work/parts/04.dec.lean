theorem dX0_init_0 : decode cX0_init 0 = .ok (.aload_n 0, 1) := by decide +kernel
theorem dX0_init_1 : decode cX0_init 1 = .ok (.invokespecial 3, 3) := by decide +kernel
theorem dX0_init_4 : decode cX0_init 4 = .ok (.return_, 1) := by decide +kernel
theorem dX1_init_0 : decode cX1_init 0 = .ok (.aload_n 0, 1) := by decide +kernel
theorem dX1_init_1 : decode cX1_init 1 = .ok (.invokespecial 3, 3) := by decide +kernel
theorem dX1_init_11 : decode cX1_init 11 = .ok (.putfield 13, 3) := by decide +kernel
theorem dX1_init_14 : decode cX1_init 14 = .ok (.iconst 0, 1) := by decide +kernel
theorem dX1_init_15 : decode cX1_init 15 = .ok (.istore_n 1, 1) := by decide +kernel
theorem dX1_init_16 : decode cX1_init 16 = .ok (.iload_n 1, 1) := by decide +kernel
theorem dX1_init_17 : decode cX1_init 17 = .ok (.aload_n 0, 1) := by decide +kernel
theorem dX1_init_18 : decode cX1_init 18 = .ok (.getfield 13, 3) := by decide +kernel
theorem dX1_init_21 : decode cX1_init 21 = .ok (.arraylength, 1) := by decide +kernel
theorem dX1_init_22 : decode cX1_init 22 = .ok (.if_icmp .ge 22, 3) := by decide +kernel
theorem dX1_init_25 : decode cX1_init 25 = .ok (.aload_n 0, 1) := by decide +kernel
theorem dX1_init_26 : decode cX1_init 26 = .ok (.getfield 13, 3) := by decide +kernel
theorem dX1_init_29 : decode cX1_init 29 = .ok (.iload_n 1, 1) := by decide +kernel
theorem dX1_init_30 : decode cX1_init 30 = .ok (.new 11, 3) := by decide +kernel
theorem dX1_init_33 : decode cX1_init 33 = .ok (.dup, 1) := by decide +kernel
theorem dX1_init_34 : decode cX1_init 34 = .ok (.invokespecial 17, 3) := by decide +kernel
theorem dX1_init_37 : decode cX1_init 37 = .ok (.aastore, 1) := by decide +kernel
theorem dX1_init_38 : decode cX1_init 38 = .ok (.iinc 1 1, 3) := by decide +kernel
theorem dX1_init_4 : decode cX1_init 4 = .ok (.aload_n 0, 1) := by decide +kernel
theorem dX1_init_41 : decode cX1_init 41 = .ok (.goto (-25), 3) := by decide +kernel
theorem dX1_init_44 : decode cX1_init 44 = .ok (.return_, 1) := by decide +kernel
theorem dX1_init_5 : decode cX1_init 5 = .ok (.sipush 205, 3) := by decide +kernel
theorem dX1_init_8 : decode cX1_init 8 = .ok (.anewarray 11, 3) := by decide +kernel
theorem dX2_cutTo_0 : decode cX2_cutTo 0 = .ok (.iload_n 1, 1) := by decide +kernel
theorem dX2_cutTo_1 : decode cX2_cutTo 1 = .ok (.ifCond .lt 16, 3) := by decide +kernel
theorem dX2_cutTo_12 : decode cX2_cutTo 12 = .ok (.aload_n 0, 1) := by decide +kernel
theorem dX2_cutTo_13 : decode cX2_cutTo 13 = .ok (.iload_n 1, 1) := by decide +kernel
theorem dX2_cutTo_14 : decode cX2_cutTo 14 = .ok (.putfield 18, 3) := by decide +kernel
theorem dX2_cutTo_17 : decode cX2_cutTo 17 = .ok (.return_, 1) := by decide +kernel
theorem dX2_cutTo_4 : decode cX2_cutTo 4 = .ok (.iload_n 1, 1) := by decide +kernel
theorem dX2_cutTo_5 : decode cX2_cutTo 5 = .ok (.aload_n 0, 1) := by decide +kernel
theorem dX2_cutTo_6 : decode cX2_cutTo 6 = .ok (.getfield 18, 3) := by decide +kernel
theorem dX2_cutTo_9 : decode cX2_cutTo 9 = .ok (.if_icmp .gt 8, 3) := by decide +kernel
theorem dX2_init_0 : decode cX2_init 0 = .ok (.aload_n 0, 1) := by decide +kernel
theorem dX2_init_1 : decode cX2_init 1 = .ok (.invokespecial 3, 3) := by decide +kernel
theorem dX2_init_10 : decode cX2_init 10 = .ok (.putfield 11, 3) := by decide +kernel
theorem dX2_init_13 : decode cX2_init 13 = .ok (.aload_n 0, 1) := by decide +kernel
theorem dX2_init_14 : decode cX2_init 14 = .ok (.sipush 250, 3) := by decide +kernel
theorem dX2_init_17 : decode cX2_init 17 = .ok (.newarray .int, 2) := by decide +kernel
theorem dX2_init_19 : decode cX2_init 19 = .ok (.putfield 15, 3) := by decide +kernel
theorem dX2_init_22 : decode cX2_init 22 = .ok (.return_, 1) := by decide +kernel
theorem dX2_init_4 : decode cX2_init 4 = .ok (.aload_n 0, 1) := by decide +kernel
theorem dX2_init_5 : decode cX2_init 5 = .ok (.sipush 10291, 3) := by decide +kernel
theorem dX2_init_8 : decode cX2_init 8 = .ok (.newarray .int, 2) := by decide +kernel
theorem dX3_addArray_0 : decode cX3_addArray 0 = .ok (.aload_n 0, 1) := by decide +kernel
theorem dX3_addArray_1 : decode cX3_addArray 1 = .ok (.getfield 57, 3) := by decide +kernel
theorem dX3_addArray_18 : decode cX3_addArray 18 = .ok (.aload_n 0, 1) := by decide +kernel
theorem dX3_addArray_19 : decode cX3_addArray 19 = .ok (.iconst 2, 1) := by decide +kernel
theorem dX3_addArray_20 : decode cX3_addArray 20 = .ok (.iconst (-1), 1) := by decide +kernel
theorem dX3_addArray_21 : decode cX3_addArray 21 = .ok (.invokevirtual 53, 3) := by decide +kernel
theorem dX3_addArray_24 : decode cX3_addArray 24 = .ok (.istore_n 2, 1) := by decide +kernel
theorem dX3_addArray_25 : decode cX3_addArray 25 = .ok (.aload_n 0, 1) := by decide +kernel
theorem dX3_addArray_26 : decode cX3_addArray 26 = .ok (.iload_n 2, 1) := by decide +kernel
theorem dX3_addArray_27 : decode cX3_addArray 27 = .ok (.bipush 100, 2) := by decide +kernel
theorem dX3_addArray_29 : decode cX3_addArray 29 = .ok (.invokevirtual 67, 3) := by decide +kernel
theorem dX3_addArray_32 : decode cX3_addArray 32 = .ok (.istore_n 3, 1) := by decide +kernel
theorem dX3_addArray_33 : decode cX3_addArray 33 = .ok (.aload_n 0, 1) := by decide +kernel
theorem dX3_addArray_34 : decode cX3_addArray 34 = .ok (.iload_n 3, 1) := by decide +kernel
theorem dX3_addArray_35 : decode cX3_addArray 35 = .ok (.iload_n 1, 1) := by decide +kernel
theorem dX3_addArray_36 : decode cX3_addArray 36 = .ok (.invokevirtual 70, 3) := by decide +kernel
theorem dX3_addArray_39 : decode cX3_addArray 39 = .ok (.aload_n 0, 1) := by decide +kernel
theorem dX3_addArray_4 : decode cX3_addArray 4 = .ok (.iconst (-1), 1) := by decide +kernel
theorem dX3_addArray_40 : decode cX3_addArray 40 = .ok (.iload_n 3, 1) := by decide +kernel
theorem dX3_addArray_41 : decode cX3_addArray 41 = .ok (.iconst 2, 1) := by decide +kernel
theorem dX3_addArray_42 : decode cX3_addArray 42 = .ok (.invokevirtual 74, 3) := by decide +kernel
theorem dX3_addArray_45 : decode cX3_addArray 45 = .ok (.iload_n 2, 1) := by decide +kernel
theorem dX3_addArray_46 : decode cX3_addArray 46 = .ok (.ireturn, 1) := by decide +kernel
theorem dX3_addArray_5 : decode cX3_addArray 5 = .ok (.if_icmp .ne 13, 3) := by decide +kernel
theorem dX3_addFunction_0 : decode cX3_addFunction 0 = .ok (.aload_n 0, 1) := by decide +kernel
theorem dX3_addFunction_1 : decode cX3_addFunction 1 = .ok (.iconst 3, 1) := by decide +kernel
theorem dX3_addFunction_11 : decode cX3_addFunction 11 = .ok (.iload_n 1, 1) := by decide +kernel
theorem dX3_addFunction_12 : decode cX3_addFunction 12 = .ok (.iload_n 2, 1) := by decide +kernel
theorem dX3_addFunction_13 : decode cX3_addFunction 13 = .ok (.iload_n 3, 1) := by decide +kernel
theorem dX3_addFunction_14 : decode cX3_addFunction 14 = .ok (.invokevirtual 77, 3) := by decide +kernel
theorem dX3_addFunction_17 : decode cX3_addFunction 17 = .ok (.iload 4, 2) := by decide +kernel
theorem dX3_addFunction_19 : decode cX3_addFunction 19 = .ok (.ireturn, 1) := by decide +kernel
theorem dX3_addFunction_2 : decode cX3_addFunction 2 = .ok (.iconst (-1), 1) := by decide +kernel
theorem dX3_addFunction_3 : decode cX3_addFunction 3 = .ok (.invokevirtual 53, 3) := by decide +kernel
theorem dX3_addFunction_6 : decode cX3_addFunction 6 = .ok (.istore 4, 2) := by decide +kernel
theorem dX3_addFunction_8 : decode cX3_addFunction 8 = .ok (.aload_n 0, 1) := by decide +kernel
theorem dX3_addFunction_9 : decode cX3_addFunction 9 = .ok (.iload 4, 2) := by decide +kernel
theorem dX3_addOrdinary_0 : decode cX3_addOrdinary 0 = .ok (.aload_n 0, 1) := by decide +kernel
theorem dX3_addOrdinary_1 : decode cX3_addOrdinary 1 = .ok (.iconst 1, 1) := by decide +kernel
theorem dX3_addOrdinary_2 : decode cX3_addOrdinary 2 = .ok (.iload_n 1, 1) := by decide +kernel
theorem dX3_addOrdinary_3 : decode cX3_addOrdinary 3 = .ok (.invokevirtual 53, 3) := by decide +kernel
theorem dX3_addOrdinary_6 : decode cX3_addOrdinary 6 = .ok (.ireturn, 1) := by decide +kernel
theorem dX3_add_0 : decode cX3_add 0 = .ok (.aload_n 0, 1) := by decide +kernel
theorem dX3_add_1 : decode cX3_add 1 = .ok (.getfield 49, 3) := by decide +kernel
theorem dX3_add_12 : decode cX3_add 12 = .ok (.iload_n 3, 1) := by decide +kernel
theorem dX3_add_13 : decode cX3_add 13 = .ok (.aload_n 0, 1) := by decide +kernel
theorem dX3_add_14 : decode cX3_add 14 = .ok (.getfield 9, 3) := by decide +kernel
theorem dX3_add_17 : decode cX3_add 17 = .ok (.arraylength, 1) := by decide +kernel
theorem dX3_add_18 : decode cX3_add 18 = .ok (.if_icmp .lt 13, 3) := by decide +kernel
theorem dX3_add_31 : decode cX3_add 31 = .ok (.aload_n 0, 1) := by decide +kernel
theorem dX3_add_32 : decode cX3_add 32 = .ok (.getfield 9, 3) := by decide +kernel
theorem dX3_add_35 : decode cX3_add 35 = .ok (.iload_n 3, 1) := by decide +kernel
theorem dX3_add_36 : decode cX3_add 36 = .ok (.iload_n 1, 1) := by decide +kernel
theorem dX3_add_37 : decode cX3_add 37 = .ok (.iastore, 1) := by decide +kernel
theorem dX3_add_38 : decode cX3_add 38 = .ok (.aload_n 0, 1) := by decide +kernel
theorem dX3_add_39 : decode cX3_add 39 = .ok (.getfield 15, 3) := by decide +kernel
theorem dX3_add_4 : decode cX3_add 4 = .ok (.istore_n 3, 1) := by decide +kernel
theorem dX3_add_42 : decode cX3_add 42 = .ok (.iload_n 3, 1) := by decide +kernel
theorem dX3_add_43 : decode cX3_add 43 = .ok (.iload_n 2, 1) := by decide +kernel
theorem dX3_add_44 : decode cX3_add 44 = .ok (.iastore, 1) := by decide +kernel
theorem dX3_add_45 : decode cX3_add 45 = .ok (.aload_n 0, 1) := by decide +kernel
theorem dX3_add_46 : decode cX3_add 46 = .ok (.getfield 18, 3) := by decide +kernel
theorem dX3_add_49 : decode cX3_add 49 = .ok (.iload_n 3, 1) := by decide +kernel
theorem dX3_add_5 : decode cX3_add 5 = .ok (.iload_n 3, 1) := by decide +kernel
theorem dX3_add_50 : decode cX3_add 50 = .ok (.iconst 1, 1) := by decide +kernel
theorem dX3_add_51 : decode cX3_add 51 = .ok (.bastore, 1) := by decide +kernel
theorem dX3_add_52 : decode cX3_add 52 = .ok (.aload_n 0, 1) := by decide +kernel
theorem dX3_add_53 : decode cX3_add 53 = .ok (.getfield 22, 3) := by decide +kernel
theorem dX3_add_56 : decode cX3_add 56 = .ok (.iload_n 3, 1) := by decide +kernel
theorem dX3_add_57 : decode cX3_add 57 = .ok (.iconst (-1), 1) := by decide +kernel
theorem dX3_add_58 : decode cX3_add 58 = .ok (.iastore, 1) := by decide +kernel
theorem dX3_add_59 : decode cX3_add 59 = .ok (.aload_n 0, 1) := by decide +kernel
theorem dX3_add_6 : decode cX3_add 6 = .ok (.sipush 600, 3) := by decide +kernel
theorem dX3_add_60 : decode cX3_add 60 = .ok (.dup, 1) := by decide +kernel
theorem dX3_add_61 : decode cX3_add 61 = .ok (.getfield 49, 3) := by decide +kernel
theorem dX3_add_64 : decode cX3_add 64 = .ok (.iconst 1, 1) := by decide +kernel
theorem dX3_add_65 : decode cX3_add 65 = .ok (.iadd, 1) := by decide +kernel
theorem dX3_add_66 : decode cX3_add 66 = .ok (.putfield 49, 3) := by decide +kernel
theorem dX3_add_69 : decode cX3_add 69 = .ok (.bipush (-2), 2) := by decide +kernel
theorem dX3_add_71 : decode cX3_add 71 = .ok (.iload_n 3, 1) := by decide +kernel
theorem dX3_add_72 : decode cX3_add 72 = .ok (.isub, 1) := by decide +kernel
theorem dX3_add_73 : decode cX3_add 73 = .ok (.ireturn, 1) := by decide +kernel
theorem dX3_add_9 : decode cX3_add 9 = .ok (.if_icmp .ge 12, 3) := by decide +kernel
theorem dX3_append_0 : decode cX3_append 0 = .ok (.aload_n 0, 1) := by decide +kernel
theorem dX3_append_1 : decode cX3_append 1 = .ok (.getfield 57, 3) := by decide +kernel
theorem dX3_append_10 : decode cX3_append 10 = .ok (.ifCond .ne 13, 3) := by decide +kernel
theorem dX3_append_100 : decode cX3_append 100 = .ok (.aload_n 0, 1) := by decide +kernel
theorem dX3_append_101 : decode cX3_append 101 = .ok (.iload_n 1, 1) := by decide +kernel
theorem dX3_append_102 : decode cX3_append 102 = .ok (.iload 5, 2) := by decide +kernel
theorem dX3_append_104 : decode cX3_append 104 = .ok (.iload_n 3, 1) := by decide +kernel
theorem dX3_append_105 : decode cX3_append 105 = .ok (.invokevirtual 128, 3) := by decide +kernel
theorem dX3_append_108 : decode cX3_append 108 = .ok (.iload_n 3, 1) := by decide +kernel
theorem dX3_append_109 : decode cX3_append 109 = .ok (.ireturn, 1) := by decide +kernel
theorem dX3_append_23 : decode cX3_append 23 = .ok (.aload_n 0, 1) := by decide +kernel
theorem dX3_append_24 : decode cX3_append 24 = .ok (.aload_n 0, 1) := by decide +kernel
theorem dX3_append_25 : decode cX3_append 25 = .ok (.getfield 46, 3) := by decide +kernel
theorem dX3_append_28 : decode cX3_append 28 = .ok (.iload_n 3, 1) := by decide +kernel
theorem dX3_append_29 : decode cX3_append 29 = .ok (.iaload, 1) := by decide +kernel
theorem dX3_append_30 : decode cX3_append 30 = .ok (.putfield 57, 3) := by decide +kernel
theorem dX3_append_33 : decode cX3_append 33 = .ok (.aload_n 0, 1) := by decide +kernel
theorem dX3_append_34 : decode cX3_append 34 = .ok (.getfield 34, 3) := by decide +kernel
theorem dX3_append_37 : decode cX3_append 37 = .ok (.iload_n 3, 1) := by decide +kernel
theorem dX3_append_38 : decode cX3_append 38 = .ok (.iload_n 2, 1) := by decide +kernel
theorem dX3_append_39 : decode cX3_append 39 = .ok (.iastore, 1) := by decide +kernel
theorem dX3_append_4 : decode cX3_append 4 = .ok (.istore_n 3, 1) := by decide +kernel
theorem dX3_append_40 : decode cX3_append 40 = .ok (.aload_n 0, 1) := by decide +kernel
theorem dX3_append_41 : decode cX3_append 41 = .ok (.getfield 37, 3) := by decide +kernel
theorem dX3_append_44 : decode cX3_append 44 = .ok (.iload_n 3, 1) := by decide +kernel
theorem dX3_append_45 : decode cX3_append 45 = .ok (.iconst (-1), 1) := by decide +kernel
theorem dX3_append_46 : decode cX3_append 46 = .ok (.iastore, 1) := by decide +kernel
theorem dX3_append_47 : decode cX3_append 47 = .ok (.aload_n 0, 1) := by decide +kernel
theorem dX3_append_48 : decode cX3_append 48 = .ok (.getfield 40, 3) := by decide +kernel
theorem dX3_append_5 : decode cX3_append 5 = .ok (.aload_n 0, 1) := by decide +kernel
theorem dX3_append_51 : decode cX3_append 51 = .ok (.iload_n 3, 1) := by decide +kernel
theorem dX3_append_52 : decode cX3_append 52 = .ok (.iconst (-1), 1) := by decide +kernel
theorem dX3_append_53 : decode cX3_append 53 = .ok (.iastore, 1) := by decide +kernel
theorem dX3_append_54 : decode cX3_append 54 = .ok (.aload_n 0, 1) := by decide +kernel
theorem dX3_append_55 : decode cX3_append 55 = .ok (.getfield 43, 3) := by decide +kernel
theorem dX3_append_58 : decode cX3_append 58 = .ok (.iload_n 3, 1) := by decide +kernel
theorem dX3_append_59 : decode cX3_append 59 = .ok (.iconst 0, 1) := by decide +kernel
theorem dX3_append_6 : decode cX3_append 6 = .ok (.iload_n 3, 1) := by decide +kernel
theorem dX3_append_60 : decode cX3_append 60 = .ok (.iastore, 1) := by decide +kernel
theorem dX3_append_61 : decode cX3_append 61 = .ok (.aload_n 0, 1) := by decide +kernel
theorem dX3_append_62 : decode cX3_append 62 = .ok (.iload_n 1, 1) := by decide +kernel
theorem dX3_append_63 : decode cX3_append 63 = .ok (.invokevirtual 113, 3) := by decide +kernel
theorem dX3_append_66 : decode cX3_append 66 = .ok (.istore 4, 2) := by decide +kernel
theorem dX3_append_68 : decode cX3_append 68 = .ok (.aload_n 0, 1) := by decide +kernel
theorem dX3_append_69 : decode cX3_append 69 = .ok (.iload 4, 2) := by decide +kernel
theorem dX3_append_7 : decode cX3_append 7 = .ok (.invokevirtual 107, 3) := by decide +kernel
theorem dX3_append_71 : decode cX3_append 71 = .ok (.iload_n 2, 1) := by decide +kernel
theorem dX3_append_72 : decode cX3_append 72 = .ok (.invokevirtual 122, 3) := by decide +kernel
theorem dX3_append_75 : decode cX3_append 75 = .ok (.istore 5, 2) := by decide +kernel
theorem dX3_append_77 : decode cX3_append 77 = .ok (.aload_n 0, 1) := by decide +kernel
theorem dX3_append_78 : decode cX3_append 78 = .ok (.getfield 46, 3) := by decide +kernel
theorem dX3_append_81 : decode cX3_append 81 = .ok (.iload_n 3, 1) := by decide +kernel
theorem dX3_append_82 : decode cX3_append 82 = .ok (.iload 5, 2) := by decide +kernel
theorem dX3_append_84 : decode cX3_append 84 = .ok (.iconst (-1), 1) := by decide +kernel
theorem dX3_append_85 : decode cX3_append 85 = .ok (.if_icmp .ne 8, 3) := by decide +kernel
theorem dX3_append_88 : decode cX3_append 88 = .ok (.iload 4, 2) := by decide +kernel
theorem dX3_append_90 : decode cX3_append 90 = .ok (.goto 9, 3) := by decide +kernel
theorem dX3_append_99 : decode cX3_append 99 = .ok (.iastore, 1) := by decide +kernel
theorem dX3_firstSlotOf_0 : decode cX3_firstSlotOf 0 = .ok (.aload_n 0, 1) := by decide +kernel
theorem dX3_firstSlotOf_1 : decode cX3_firstSlotOf 1 = .ok (.iload_n 1, 1) := by decide +kernel
theorem dX3_firstSlotOf_10 : decode cX3_firstSlotOf 10 = .ok (.aload_n 0, 1) := by decide +kernel
theorem dX3_firstSlotOf_11 : decode cX3_firstSlotOf 11 = .ok (.getfield 22, 3) := by decide +kernel
theorem dX3_firstSlotOf_14 : decode cX3_firstSlotOf 14 = .ok (.iload_n 2, 1) := by decide +kernel
theorem dX3_firstSlotOf_15 : decode cX3_firstSlotOf 15 = .ok (.iaload, 1) := by decide +kernel
theorem dX3_firstSlotOf_16 : decode cX3_firstSlotOf 16 = .ok (.goto 4, 3) := by decide +kernel
theorem dX3_firstSlotOf_2 : decode cX3_firstSlotOf 2 = .ok (.invokevirtual 83, 3) := by decide +kernel
theorem dX3_firstSlotOf_20 : decode cX3_firstSlotOf 20 = .ok (.ireturn, 1) := by decide +kernel
theorem dX3_firstSlotOf_5 : decode cX3_firstSlotOf 5 = .ok (.istore_n 2, 1) := by decide +kernel
theorem dX3_firstSlotOf_6 : decode cX3_firstSlotOf 6 = .ok (.iload_n 2, 1) := by decide +kernel
theorem dX3_firstSlotOf_7 : decode cX3_firstSlotOf 7 = .ok (.ifCond .lt 12, 3) := by decide +kernel
theorem dX3_init_0 : decode cX3_init 0 = .ok (.aload_n 0, 1) := by decide +kernel
theorem dX3_init_1 : decode cX3_init 1 = .ok (.invokespecial 3, 3) := by decide +kernel
theorem dX3_init_10 : decode cX3_init 10 = .ok (.putfield 9, 3) := by decide +kernel
theorem dX3_init_100 : decode cX3_init 100 = .ok (.putfield 43, 3) := by decide +kernel
theorem dX3_init_103 : decode cX3_init 103 = .ok (.aload_n 0, 1) := by decide +kernel
theorem dX3_init_104 : decode cX3_init 104 = .ok (.sipush 5999, 3) := by decide +kernel
theorem dX3_init_107 : decode cX3_init 107 = .ok (.newarray .int, 2) := by decide +kernel
theorem dX3_init_109 : decode cX3_init 109 = .ok (.putfield 46, 3) := by decide +kernel
theorem dX3_init_112 : decode cX3_init 112 = .ok (.iconst 0, 1) := by decide +kernel
theorem dX3_init_113 : decode cX3_init 113 = .ok (.istore_n 1, 1) := by decide +kernel
theorem dX3_init_114 : decode cX3_init 114 = .ok (.iload_n 1, 1) := by decide +kernel
theorem dX3_init_115 : decode cX3_init 115 = .ok (.aload_n 0, 1) := by decide +kernel
theorem dX3_init_116 : decode cX3_init 116 = .ok (.getfield 46, 3) := by decide +kernel
theorem dX3_init_119 : decode cX3_init 119 = .ok (.arraylength, 1) := by decide +kernel
theorem dX3_init_120 : decode cX3_init 120 = .ok (.if_icmp .ge 33, 3) := by decide +kernel
theorem dX3_init_123 : decode cX3_init 123 = .ok (.aload_n 0, 1) := by decide +kernel
theorem dX3_init_124 : decode cX3_init 124 = .ok (.getfield 46, 3) := by decide +kernel
theorem dX3_init_127 : decode cX3_init 127 = .ok (.iload_n 1, 1) := by decide +kernel
theorem dX3_init_128 : decode cX3_init 128 = .ok (.iload_n 1, 1) := by decide +kernel
theorem dX3_init_129 : decode cX3_init 129 = .ok (.iconst 1, 1) := by decide +kernel
theorem dX3_init_13 : decode cX3_init 13 = .ok (.aload_n 0, 1) := by decide +kernel
theorem dX3_init_130 : decode cX3_init 130 = .ok (.iadd, 1) := by decide +kernel
theorem dX3_init_131 : decode cX3_init 131 = .ok (.aload_n 0, 1) := by decide +kernel
theorem dX3_init_132 : decode cX3_init 132 = .ok (.getfield 46, 3) := by decide +kernel
theorem dX3_init_135 : decode cX3_init 135 = .ok (.arraylength, 1) := by decide +kernel
theorem dX3_init_136 : decode cX3_init 136 = .ok (.if_icmp .ge 9, 3) := by decide +kernel
theorem dX3_init_139 : decode cX3_init 139 = .ok (.iload_n 1, 1) := by decide +kernel
theorem dX3_init_14 : decode cX3_init 14 = .ok (.sipush 600, 3) := by decide +kernel
theorem dX3_init_140 : decode cX3_init 140 = .ok (.iconst 1, 1) := by decide +kernel
theorem dX3_init_141 : decode cX3_init 141 = .ok (.iadd, 1) := by decide +kernel
theorem dX3_init_142 : decode cX3_init 142 = .ok (.goto 4, 3) := by decide +kernel
theorem dX3_init_145 : decode cX3_init 145 = .ok (.iconst (-1), 1) := by decide +kernel
theorem dX3_init_146 : decode cX3_init 146 = .ok (.iastore, 1) := by decide +kernel
theorem dX3_init_147 : decode cX3_init 147 = .ok (.iinc 1 1, 3) := by decide +kernel
theorem dX3_init_150 : decode cX3_init 150 = .ok (.goto (-36), 3) := by decide +kernel
theorem dX3_init_153 : decode cX3_init 153 = .ok (.return_, 1) := by decide +kernel
theorem dX3_init_17 : decode cX3_init 17 = .ok (.newarray .int, 2) := by decide +kernel
theorem dX3_init_19 : decode cX3_init 19 = .ok (.putfield 15, 3) := by decide +kernel
theorem dX3_init_22 : decode cX3_init 22 = .ok (.aload_n 0, 1) := by decide +kernel
theorem dX3_init_23 : decode cX3_init 23 = .ok (.sipush 600, 3) := by decide +kernel
theorem dX3_init_26 : decode cX3_init 26 = .ok (.newarray .boolean, 2) := by decide +kernel
theorem dX3_init_28 : decode cX3_init 28 = .ok (.putfield 18, 3) := by decide +kernel
theorem dX3_init_31 : decode cX3_init 31 = .ok (.aload_n 0, 1) := by decide +kernel
theorem dX3_init_32 : decode cX3_init 32 = .ok (.sipush 600, 3) := by decide +kernel
theorem dX3_init_35 : decode cX3_init 35 = .ok (.newarray .int, 2) := by decide +kernel
theorem dX3_init_37 : decode cX3_init 37 = .ok (.putfield 22, 3) := by decide +kernel
theorem dX3_init_4 : decode cX3_init 4 = .ok (.aload_n 0, 1) := by decide +kernel
theorem dX3_init_40 : decode cX3_init 40 = .ok (.aload_n 0, 1) := by decide +kernel
theorem dX3_init_41 : decode cX3_init 41 = .ok (.sipush 600, 3) := by decide +kernel
theorem dX3_init_44 : decode cX3_init 44 = .ok (.newarray .int, 2) := by decide +kernel
theorem dX3_init_46 : decode cX3_init 46 = .ok (.putfield 25, 3) := by decide +kernel
theorem dX3_init_49 : decode cX3_init 49 = .ok (.aload_n 0, 1) := by decide +kernel
theorem dX3_init_5 : decode cX3_init 5 = .ok (.sipush 600, 3) := by decide +kernel
theorem dX3_init_50 : decode cX3_init 50 = .ok (.sipush 600, 3) := by decide +kernel
theorem dX3_init_53 : decode cX3_init 53 = .ok (.newarray .int, 2) := by decide +kernel
theorem dX3_init_55 : decode cX3_init 55 = .ok (.putfield 28, 3) := by decide +kernel
theorem dX3_init_58 : decode cX3_init 58 = .ok (.aload_n 0, 1) := by decide +kernel
theorem dX3_init_59 : decode cX3_init 59 = .ok (.sipush 600, 3) := by decide +kernel
theorem dX3_init_62 : decode cX3_init 62 = .ok (.newarray .int, 2) := by decide +kernel
theorem dX3_init_64 : decode cX3_init 64 = .ok (.putfield 31, 3) := by decide +kernel
theorem dX3_init_67 : decode cX3_init 67 = .ok (.aload_n 0, 1) := by decide +kernel
theorem dX3_init_68 : decode cX3_init 68 = .ok (.sipush 5999, 3) := by decide +kernel
theorem dX3_init_71 : decode cX3_init 71 = .ok (.newarray .int, 2) := by decide +kernel
theorem dX3_init_73 : decode cX3_init 73 = .ok (.putfield 34, 3) := by decide +kernel
theorem dX3_init_76 : decode cX3_init 76 = .ok (.aload_n 0, 1) := by decide +kernel
theorem dX3_init_77 : decode cX3_init 77 = .ok (.sipush 5999, 3) := by decide +kernel
theorem dX3_init_8 : decode cX3_init 8 = .ok (.newarray .int, 2) := by decide +kernel
theorem dX3_init_80 : decode cX3_init 80 = .ok (.newarray .int, 2) := by decide +kernel
theorem dX3_init_82 : decode cX3_init 82 = .ok (.putfield 37, 3) := by decide +kernel
theorem dX3_init_85 : decode cX3_init 85 = .ok (.aload_n 0, 1) := by decide +kernel
theorem dX3_init_86 : decode cX3_init 86 = .ok (.sipush 5999, 3) := by decide +kernel
theorem dX3_init_89 : decode cX3_init 89 = .ok (.newarray .int, 2) := by decide +kernel
theorem dX3_init_91 : decode cX3_init 91 = .ok (.putfield 40, 3) := by decide +kernel
theorem dX3_init_94 : decode cX3_init 94 = .ok (.aload_n 0, 1) := by decide +kernel
theorem dX3_init_95 : decode cX3_init 95 = .ok (.sipush 5999, 3) := by decide +kernel
theorem dX3_init_98 : decode cX3_init 98 = .ok (.newarray .int, 2) := by decide +kernel
theorem dX3_isObject_0 : decode cX3_isObject 0 = .ok (.aload_n 0, 1) := by decide +kernel
theorem dX3_isObject_1 : decode cX3_isObject 1 = .ok (.iload_n 1, 1) := by decide +kernel
theorem dX3_isObject_12 : decode cX3_isObject 12 = .ok (.iconst 0, 1) := by decide +kernel
theorem dX3_isObject_13 : decode cX3_isObject 13 = .ok (.ireturn, 1) := by decide +kernel
theorem dX3_isObject_2 : decode cX3_isObject 2 = .ok (.invokevirtual 83, 3) := by decide +kernel
theorem dX3_isObject_5 : decode cX3_isObject 5 = .ok (.ifCond .lt 7, 3) := by decide +kernel
theorem dX3_isProxy_0 : decode cX3_isProxy 0 = .ok (.aload_n 0, 1) := by decide +kernel
theorem dX3_isProxy_1 : decode cX3_isProxy 1 = .ok (.iload_n 1, 1) := by decide +kernel
theorem dX3_isProxy_13 : decode cX3_isProxy 13 = .ok (.iconst 0, 1) := by decide +kernel
theorem dX3_isProxy_14 : decode cX3_isProxy 14 = .ok (.ireturn, 1) := by decide +kernel
theorem dX3_isProxy_2 : decode cX3_isProxy 2 = .ok (.invokevirtual 87, 3) := by decide +kernel
theorem dX3_isProxy_5 : decode cX3_isProxy 5 = .ok (.iconst 4, 1) := by decide +kernel
theorem dX3_isProxy_6 : decode cX3_isProxy 6 = .ok (.if_icmp .ne 7, 3) := by decide +kernel
theorem dX3_isSlot_0 : decode cX3_isSlot 0 = .ok (.iload_n 1, 1) := by decide +kernel
theorem dX3_isSlot_1 : decode cX3_isSlot 1 = .ok (.ifCond .lt 14, 3) := by decide +kernel
theorem dX3_isSlot_11 : decode cX3_isSlot 11 = .ok (.iconst 1, 1) := by decide +kernel
theorem dX3_isSlot_12 : decode cX3_isSlot 12 = .ok (.goto 4, 3) := by decide +kernel
theorem dX3_isSlot_15 : decode cX3_isSlot 15 = .ok (.iconst 0, 1) := by decide +kernel
theorem dX3_isSlot_16 : decode cX3_isSlot 16 = .ok (.ireturn, 1) := by decide +kernel
theorem dX3_isSlot_4 : decode cX3_isSlot 4 = .ok (.iload_n 1, 1) := by decide +kernel
theorem dX3_isSlot_5 : decode cX3_isSlot 5 = .ok (.sipush 5999, 3) := by decide +kernel
theorem dX3_isSlot_8 : decode cX3_isSlot 8 = .ok (.if_icmp .ge 7, 3) := by decide +kernel
theorem dX3_kindOf_0 : decode cX3_kindOf 0 = .ok (.aload_n 0, 1) := by decide +kernel
theorem dX3_kindOf_1 : decode cX3_kindOf 1 = .ok (.iload_n 1, 1) := by decide +kernel
theorem dX3_kindOf_19 : decode cX3_kindOf 19 = .ok (.iconst 0, 1) := by decide +kernel
theorem dX3_kindOf_2 : decode cX3_kindOf 2 = .ok (.invokevirtual 83, 3) := by decide +kernel
theorem dX3_kindOf_20 : decode cX3_kindOf 20 = .ok (.ireturn, 1) := by decide +kernel
theorem dX3_kindOf_5 : decode cX3_kindOf 5 = .ok (.istore_n 2, 1) := by decide +kernel
theorem dX3_kindOf_6 : decode cX3_kindOf 6 = .ok (.iload_n 2, 1) := by decide +kernel
theorem dX3_kindOf_7 : decode cX3_kindOf 7 = .ok (.ifCond .lt 12, 3) := by decide +kernel
theorem dX3_link_0 : decode cX3_link 0 = .ok (.aload_n 0, 1) := by decide +kernel
theorem dX3_link_1 : decode cX3_link 1 = .ok (.iload_n 1, 1) := by decide +kernel
theorem dX3_link_12 : decode cX3_link 12 = .ok (.ifCond .eq 13, 3) := by decide +kernel
theorem dX3_link_2 : decode cX3_link 2 = .ok (.invokevirtual 83, 3) := by decide +kernel
theorem dX3_link_25 : decode cX3_link 25 = .ok (.iload 4, 2) := by decide +kernel
theorem dX3_link_27 : decode cX3_link 27 = .ok (.ifCond .lt 11, 3) := by decide +kernel
theorem dX3_link_30 : decode cX3_link 30 = .ok (.aload_n 0, 1) := by decide +kernel
theorem dX3_link_31 : decode cX3_link 31 = .ok (.getfield 22, 3) := by decide +kernel
theorem dX3_link_34 : decode cX3_link 34 = .ok (.iload 4, 2) := by decide +kernel
theorem dX3_link_36 : decode cX3_link 36 = .ok (.iload_n 3, 1) := by decide +kernel
theorem dX3_link_37 : decode cX3_link 37 = .ok (.iastore, 1) := by decide +kernel
theorem dX3_link_38 : decode cX3_link 38 = .ok (.return_, 1) := by decide +kernel
theorem dX3_link_5 : decode cX3_link 5 = .ok (.istore 4, 2) := by decide +kernel
theorem dX3_link_7 : decode cX3_link 7 = .ok (.aload_n 0, 1) := by decide +kernel
theorem dX3_link_8 : decode cX3_link 8 = .ok (.iload_n 2, 1) := by decide +kernel
theorem dX3_link_9 : decode cX3_link 9 = .ok (.invokevirtual 107, 3) := by decide +kernel
theorem dX3_putFlagsAt_0 : decode cX3_putFlagsAt 0 = .ok (.aload_n 0, 1) := by decide +kernel
theorem dX3_putFlagsAt_1 : decode cX3_putFlagsAt 1 = .ok (.iload_n 1, 1) := by decide +kernel
theorem dX3_putFlagsAt_12 : decode cX3_putFlagsAt 12 = .ok (.iload_n 1, 1) := by decide +kernel
theorem dX3_putFlagsAt_13 : decode cX3_putFlagsAt 13 = .ok (.iload_n 2, 1) := by decide +kernel
theorem dX3_putFlagsAt_14 : decode cX3_putFlagsAt 14 = .ok (.iastore, 1) := by decide +kernel
theorem dX3_putFlagsAt_15 : decode cX3_putFlagsAt 15 = .ok (.return_, 1) := by decide +kernel
theorem dX3_putFlagsAt_2 : decode cX3_putFlagsAt 2 = .ok (.invokevirtual 107, 3) := by decide +kernel
theorem dX3_putFlagsAt_5 : decode cX3_putFlagsAt 5 = .ok (.ifCond .eq 10, 3) := by decide +kernel
theorem dX3_putFlagsAt_8 : decode cX3_putFlagsAt 8 = .ok (.aload_n 0, 1) := by decide +kernel
theorem dX3_putFlagsAt_9 : decode cX3_putFlagsAt 9 = .ok (.getfield 43, 3) := by decide +kernel
theorem dX3_putParts_0 : decode cX3_putParts 0 = .ok (.aload_n 0, 1) := by decide +kernel
theorem dX3_putParts_1 : decode cX3_putParts 1 = .ok (.iload_n 1, 1) := by decide +kernel
theorem dX3_putParts_12 : decode cX3_putParts 12 = .ok (.aload_n 0, 1) := by decide +kernel
theorem dX3_putParts_13 : decode cX3_putParts 13 = .ok (.getfield 25, 3) := by decide +kernel
theorem dX3_putParts_16 : decode cX3_putParts 16 = .ok (.iload 5, 2) := by decide +kernel
theorem dX3_putParts_18 : decode cX3_putParts 18 = .ok (.iload_n 2, 1) := by decide +kernel
theorem dX3_putParts_19 : decode cX3_putParts 19 = .ok (.iastore, 1) := by decide +kernel
theorem dX3_putParts_2 : decode cX3_putParts 2 = .ok (.invokevirtual 83, 3) := by decide +kernel
theorem dX3_putParts_20 : decode cX3_putParts 20 = .ok (.aload_n 0, 1) := by decide +kernel
theorem dX3_putParts_21 : decode cX3_putParts 21 = .ok (.getfield 28, 3) := by decide +kernel
theorem dX3_putParts_24 : decode cX3_putParts 24 = .ok (.iload 5, 2) := by decide +kernel
theorem dX3_putParts_26 : decode cX3_putParts 26 = .ok (.iload_n 3, 1) := by decide +kernel
theorem dX3_putParts_27 : decode cX3_putParts 27 = .ok (.iastore, 1) := by decide +kernel
theorem dX3_putParts_28 : decode cX3_putParts 28 = .ok (.aload_n 0, 1) := by decide +kernel
theorem dX3_putParts_29 : decode cX3_putParts 29 = .ok (.getfield 31, 3) := by decide +kernel
theorem dX3_putParts_32 : decode cX3_putParts 32 = .ok (.iload 5, 2) := by decide +kernel
theorem dX3_putParts_34 : decode cX3_putParts 34 = .ok (.iload 4, 2) := by decide +kernel
theorem dX3_putParts_36 : decode cX3_putParts 36 = .ok (.iastore, 1) := by decide +kernel
theorem dX3_putParts_37 : decode cX3_putParts 37 = .ok (.return_, 1) := by decide +kernel
theorem dX3_putParts_5 : decode cX3_putParts 5 = .ok (.istore 5, 2) := by decide +kernel
theorem dX3_putParts_7 : decode cX3_putParts 7 = .ok (.iload 5, 2) := by decide +kernel
theorem dX3_putParts_9 : decode cX3_putParts 9 = .ok (.ifCond .lt 28, 3) := by decide +kernel
theorem dX3_putValueAt_0 : decode cX3_putValueAt 0 = .ok (.aload_n 0, 1) := by decide +kernel
theorem dX3_putValueAt_1 : decode cX3_putValueAt 1 = .ok (.iload_n 1, 1) := by decide +kernel
theorem dX3_putValueAt_12 : decode cX3_putValueAt 12 = .ok (.iload_n 1, 1) := by decide +kernel
theorem dX3_putValueAt_13 : decode cX3_putValueAt 13 = .ok (.iload_n 2, 1) := by decide +kernel
theorem dX3_putValueAt_14 : decode cX3_putValueAt 14 = .ok (.iastore, 1) := by decide +kernel
theorem dX3_putValueAt_15 : decode cX3_putValueAt 15 = .ok (.return_, 1) := by decide +kernel
theorem dX3_putValueAt_2 : decode cX3_putValueAt 2 = .ok (.invokevirtual 107, 3) := by decide +kernel
theorem dX3_putValueAt_5 : decode cX3_putValueAt 5 = .ok (.ifCond .eq 10, 3) := by decide +kernel
theorem dX3_putValueAt_8 : decode cX3_putValueAt 8 = .ok (.aload_n 0, 1) := by decide +kernel
theorem dX3_putValueAt_9 : decode cX3_putValueAt 9 = .ok (.getfield 37, 3) := by decide +kernel
theorem dX3_rowOf_0 : decode cX3_rowOf 0 = .ok (.bipush (-2), 2) := by decide +kernel
theorem dX3_rowOf_10 : decode cX3_rowOf 10 = .ok (.aload_n 0, 1) := by decide +kernel
theorem dX3_rowOf_11 : decode cX3_rowOf 11 = .ok (.getfield 49, 3) := by decide +kernel
theorem dX3_rowOf_14 : decode cX3_rowOf 14 = .ok (.if_icmp .ge 14, 3) := by decide +kernel
theorem dX3_rowOf_17 : decode cX3_rowOf 17 = .ok (.iload_n 2, 1) := by decide +kernel
theorem dX3_rowOf_18 : decode cX3_rowOf 18 = .ok (.sipush 600, 3) := by decide +kernel
theorem dX3_rowOf_2 : decode cX3_rowOf 2 = .ok (.iload_n 1, 1) := by decide +kernel
theorem dX3_rowOf_21 : decode cX3_rowOf 21 = .ok (.if_icmp .ge 7, 3) := by decide +kernel
theorem dX3_rowOf_24 : decode cX3_rowOf 24 = .ok (.iload_n 2, 1) := by decide +kernel
theorem dX3_rowOf_25 : decode cX3_rowOf 25 = .ok (.goto 4, 3) := by decide +kernel
theorem dX3_rowOf_28 : decode cX3_rowOf 28 = .ok (.iconst (-1), 1) := by decide +kernel
theorem dX3_rowOf_29 : decode cX3_rowOf 29 = .ok (.ireturn, 1) := by decide +kernel
theorem dX3_rowOf_3 : decode cX3_rowOf 3 = .ok (.isub, 1) := by decide +kernel
theorem dX3_rowOf_4 : decode cX3_rowOf 4 = .ok (.istore_n 2, 1) := by decide +kernel
theorem dX3_rowOf_5 : decode cX3_rowOf 5 = .ok (.iload_n 2, 1) := by decide +kernel
theorem dX3_rowOf_6 : decode cX3_rowOf 6 = .ok (.ifCond .lt 22, 3) := by decide +kernel
theorem dX3_rowOf_9 : decode cX3_rowOf 9 = .ok (.iload_n 2, 1) := by decide +kernel
theorem dX3_size_0 : decode cX3_size 0 = .ok (.aload_n 0, 1) := by decide +kernel
theorem dX3_size_1 : decode cX3_size 1 = .ok (.getfield 49, 3) := by decide +kernel
theorem dX3_size_4 : decode cX3_size 4 = .ok (.ireturn, 1) := by decide +kernel
theorem dX3_slotBefore_0 : decode cX3_slotBefore 0 = .ok (.iconst (-1), 1) := by decide +kernel
theorem dX3_slotBefore_1 : decode cX3_slotBefore 1 = .ok (.istore_n 3, 1) := by decide +kernel
theorem dX3_slotBefore_10 : decode cX3_slotBefore 10 = .ok (.sipush 250, 3) := by decide +kernel
theorem dX3_slotBefore_13 : decode cX3_slotBefore 13 = .ok (.if_icmp .ge 50, 3) := by decide +kernel
theorem dX3_slotBefore_16 : decode cX3_slotBefore 16 = .ok (.iload 4, 2) := by decide +kernel
theorem dX3_slotBefore_18 : decode cX3_slotBefore 18 = .ok (.ifCond .lt 45, 3) := by decide +kernel
theorem dX3_slotBefore_2 : decode cX3_slotBefore 2 = .ok (.iload_n 1, 1) := by decide +kernel
theorem dX3_slotBefore_3 : decode cX3_slotBefore 3 = .ok (.istore 4, 2) := by decide +kernel
theorem dX3_slotBefore_5 : decode cX3_slotBefore 5 = .ok (.iconst 0, 1) := by decide +kernel
theorem dX3_slotBefore_6 : decode cX3_slotBefore 6 = .ok (.istore 5, 2) := by decide +kernel
theorem dX3_slotBefore_63 : decode cX3_slotBefore 63 = .ok (.iload_n 3, 1) := by decide +kernel
theorem dX3_slotBefore_64 : decode cX3_slotBefore 64 = .ok (.ireturn, 1) := by decide +kernel
theorem dX3_slotBefore_8 : decode cX3_slotBefore 8 = .ok (.iload 5, 2) := by decide +kernel
theorem dX4_forget_0 : decode cX4_forget 0 = .ok (.aload_n 0, 1) := by decide +kernel
theorem dX4_forget_1 : decode cX4_forget 1 = .ok (.dup, 1) := by decide +kernel
theorem dX4_forget_10 : decode cX4_forget 10 = .ok (.return_, 1) := by decide +kernel
theorem dX4_forget_2 : decode cX4_forget 2 = .ok (.getfield 18, 3) := by decide +kernel
theorem dX4_forget_5 : decode cX4_forget 5 = .ok (.iconst 1, 1) := by decide +kernel
theorem dX4_forget_6 : decode cX4_forget 6 = .ok (.iadd, 1) := by decide +kernel
theorem dX4_forget_7 : decode cX4_forget 7 = .ok (.putfield 18, 3) := by decide +kernel
theorem dX4_init_0 : decode cX4_init 0 = .ok (.aload_n 0, 1) := by decide +kernel
theorem dX4_init_1 : decode cX4_init 1 = .ok (.invokespecial 3, 3) := by decide +kernel
theorem dX4_init_10 : decode cX4_init 10 = .ok (.putfield 9, 3) := by decide +kernel
theorem dX4_init_13 : decode cX4_init 13 = .ok (.aload_n 0, 1) := by decide +kernel
theorem dX4_init_14 : decode cX4_init 14 = .ok (.sipush 600, 3) := by decide +kernel
theorem dX4_init_17 : decode cX4_init 17 = .ok (.newarray .int, 2) := by decide +kernel
theorem dX4_init_19 : decode cX4_init 19 = .ok (.putfield 15, 3) := by decide +kernel
theorem dX4_init_22 : decode cX4_init 22 = .ok (.aload_n 0, 1) := by decide +kernel
theorem dX4_init_23 : decode cX4_init 23 = .ok (.iconst 1, 1) := by decide +kernel
theorem dX4_init_24 : decode cX4_init 24 = .ok (.putfield 18, 3) := by decide +kernel
theorem dX4_init_27 : decode cX4_init 27 = .ok (.return_, 1) := by decide +kernel
theorem dX4_init_4 : decode cX4_init 4 = .ok (.aload_n 0, 1) := by decide +kernel
theorem dX4_init_5 : decode cX4_init 5 = .ok (.sipush 600, 3) := by decide +kernel
theorem dX4_init_8 : decode cX4_init 8 = .ok (.newarray .int, 2) := by decide +kernel
theorem dX5_about_0 : decode cX5_about 0 = .ok (.aload_n 0, 1) := by decide +kernel
theorem dX5_about_1 : decode cX5_about 1 = .ok (.invokevirtual 55, 3) := by decide +kernel
theorem dX5_about_4 : decode cX5_about 4 = .ok (.aload_n 0, 1) := by decide +kernel
theorem dX5_about_5 : decode cX5_about 5 = .ok (.iload_n 1, 1) := by decide +kernel
theorem dX5_about_6 : decode cX5_about 6 = .ok (.invokevirtual 88, 3) := by decide +kernel
theorem dX5_array_0 : decode cX5_array 0 = .ok (.aload_n 0, 1) := by decide +kernel
theorem dX5_array_1 : decode cX5_array 1 = .ok (.invokevirtual 55, 3) := by decide +kernel
theorem dX5_array_11 : decode cX5_array 11 = .ok (.if_icmp .le 13, 3) := by decide +kernel
theorem dX5_array_14 : decode cX5_array 14 = .ok (.new 66, 3) := by decide +kernel
theorem dX5_array_17 : decode cX5_array 17 = .ok (.dup, 1) := by decide +kernel
theorem dX5_array_18 : decode cX5_array 18 = .ok (.ldc 68, 2) := by decide +kernel
theorem dX5_array_20 : decode cX5_array 20 = .ok (.invokespecial 70, 3) := by decide +kernel
theorem dX5_array_23 : decode cX5_array 23 = .ok (.athrow, 1) := by decide +kernel
theorem dX5_array_24 : decode cX5_array 24 = .ok (.aload_n 0, 1) := by decide +kernel
theorem dX5_array_25 : decode cX5_array 25 = .ok (.getfield 12, 3) := by decide +kernel
theorem dX5_array_28 : decode cX5_array 28 = .ok (.iload_n 1, 1) := by decide +kernel
theorem dX5_array_29 : decode cX5_array 29 = .ok (.invokevirtual 73, 3) := by decide +kernel
theorem dX5_array_32 : decode cX5_array 32 = .ok (.ireturn, 1) := by decide +kernel
theorem dX5_array_4 : decode cX5_array 4 = .ok (.iload_n 1, 1) := by decide +kernel
theorem dX5_array_5 : decode cX5_array 5 = .ok (.ifCond .lt 9, 3) := by decide +kernel
theorem dX5_array_8 : decode cX5_array 8 = .ok (.iload_n 1, 1) := by decide +kernel
theorem dX5_array_9 : decode cX5_array 9 = .ok (.bipush 100, 2) := by decide +kernel
theorem dX5_assign_0 : decode cX5_assign 0 = .ok (.aload_n 0, 1) := by decide +kernel
theorem dX5_assign_1 : decode cX5_assign 1 = .ok (.invokevirtual 55, 3) := by decide +kernel
theorem dX5_assign_4 : decode cX5_assign 4 = .ok (.aload_n 0, 1) := by decide +kernel
theorem dX5_assign_5 : decode cX5_assign 5 = .ok (.iload_n 1, 1) := by decide +kernel
theorem dX5_assign_6 : decode cX5_assign 6 = .ok (.invokevirtual 88, 3) := by decide +kernel
theorem dX5_begin_0 : decode cX5_begin 0 = .ok (.aload_n 0, 1) := by decide +kernel
theorem dX5_begin_1 : decode cX5_begin 1 = .ok (.iconst 0, 1) := by decide +kernel
theorem dX5_begin_10 : decode cX5_begin 10 = .ok (.aload_n 0, 1) := by decide +kernel
theorem dX5_begin_11 : decode cX5_begin 11 = .ok (.getfield 26, 3) := by decide +kernel
theorem dX5_begin_14 : decode cX5_begin 14 = .ok (.iconst 0, 1) := by decide +kernel
theorem dX5_begin_15 : decode cX5_begin 15 = .ok (.invokevirtual 210, 3) := by decide +kernel
theorem dX5_begin_18 : decode cX5_begin 18 = .ok (.aload_n 0, 1) := by decide +kernel
theorem dX5_begin_19 : decode cX5_begin 19 = .ok (.getfield 33, 3) := by decide +kernel
theorem dX5_begin_2 : decode cX5_begin 2 = .ok (.putfield 118, 3) := by decide +kernel
theorem dX5_begin_22 : decode cX5_begin 22 = .ok (.invokevirtual 213, 3) := by decide +kernel
theorem dX5_begin_25 : decode cX5_begin 25 = .ok (.return_, 1) := by decide +kernel
theorem dX5_begin_5 : decode cX5_begin 5 = .ok (.aload_n 0, 1) := by decide +kernel
theorem dX5_begin_6 : decode cX5_begin 6 = .ok (.iconst 0, 1) := by decide +kernel
theorem dX5_begin_7 : decode cX5_begin 7 = .ok (.putfield 202, 3) := by decide +kernel
theorem dX5_call_0 : decode cX5_call 0 = .ok (.iload_n 1, 1) := by decide +kernel
theorem dX5_call_1 : decode cX5_call 1 = .ok (.ifCond .lt 29, 3) := by decide +kernel
theorem dX5_call_30 : decode cX5_call 30 = .ok (.iconst (-1), 1) := by decide +kernel
theorem dX5_call_31 : decode cX5_call 31 = .ok (.ireturn, 1) := by decide +kernel
theorem dX5_call_4 : decode cX5_call 4 = .ok (.iload_n 1, 1) := by decide +kernel
theorem dX5_call_5 : decode cX5_call 5 = .ok (.aload_n 0, 1) := by decide +kernel
theorem dX5_call_6 : decode cX5_call 6 = .ok (.getfield 202, 3) := by decide +kernel
theorem dX5_call_9 : decode cX5_call 9 = .ok (.if_icmp .ge 21, 3) := by decide +kernel
theorem dX5_count_0 : decode cX5_count 0 = .ok (.iload_n 1, 1) := by decide +kernel
theorem dX5_count_1 : decode cX5_count 1 = .ok (.tableswitch 54 0 3 #[31, 39, 44, 49], 31) := by decide +kernel
theorem dX5_count_32 : decode cX5_count 32 = .ok (.aload_n 0, 1) := by decide +kernel
theorem dX5_count_33 : decode cX5_count 33 = .ok (.getfield 12, 3) := by decide +kernel
theorem dX5_count_36 : decode cX5_count 36 = .ok (.invokevirtual 205, 3) := by decide +kernel
theorem dX5_count_39 : decode cX5_count 39 = .ok (.ireturn, 1) := by decide +kernel
theorem dX5_count_40 : decode cX5_count 40 = .ok (.aload_n 0, 1) := by decide +kernel
theorem dX5_count_41 : decode cX5_count 41 = .ok (.getfield 202, 3) := by decide +kernel
theorem dX5_count_44 : decode cX5_count 44 = .ok (.ireturn, 1) := by decide +kernel
theorem dX5_count_45 : decode cX5_count 45 = .ok (.aload_n 0, 1) := by decide +kernel
theorem dX5_count_46 : decode cX5_count 46 = .ok (.getfield 172, 3) := by decide +kernel
theorem dX5_count_49 : decode cX5_count 49 = .ok (.ireturn, 1) := by decide +kernel
theorem dX5_count_50 : decode cX5_count 50 = .ok (.aload_n 0, 1) := by decide +kernel
theorem dX5_count_51 : decode cX5_count 51 = .ok (.getfield 51, 3) := by decide +kernel
theorem dX5_count_54 : decode cX5_count 54 = .ok (.ireturn, 1) := by decide +kernel
theorem dX5_count_55 : decode cX5_count 55 = .ok (.new 66, 3) := by decide +kernel
theorem dX5_count_58 : decode cX5_count 58 = .ok (.dup, 1) := by decide +kernel
theorem dX5_count_59 : decode cX5_count 59 = .ok (.ldc 208, 2) := by decide +kernel
theorem dX5_count_61 : decode cX5_count 61 = .ok (.invokespecial 70, 3) := by decide +kernel
theorem dX5_count_64 : decode cX5_count 64 = .ok (.athrow, 1) := by decide +kernel
theorem dX5_define_0 : decode cX5_define 0 = .ok (.aload_n 0, 1) := by decide +kernel
theorem dX5_define_1 : decode cX5_define 1 = .ok (.invokevirtual 55, 3) := by decide +kernel
theorem dX5_define_4 : decode cX5_define 4 = .ok (.aload_n 0, 1) := by decide +kernel
theorem dX5_define_5 : decode cX5_define 5 = .ok (.iload_n 1, 1) := by decide +kernel
theorem dX5_define_6 : decode cX5_define 6 = .ok (.invokevirtual 88, 3) := by decide +kernel
theorem dX5_function_0 : decode cX5_function 0 = .ok (.aload_n 0, 1) := by decide +kernel
theorem dX5_function_1 : decode cX5_function 1 = .ok (.invokevirtual 55, 3) := by decide +kernel
theorem dX5_function_10 : decode cX5_function 10 = .ok (.if_icmp .le 13, 3) := by decide +kernel
theorem dX5_function_13 : decode cX5_function 13 = .ok (.new 66, 3) := by decide +kernel
theorem dX5_function_16 : decode cX5_function 16 = .ok (.dup, 1) := by decide +kernel
theorem dX5_function_17 : decode cX5_function 17 = .ok (.ldc 76, 2) := by decide +kernel
theorem dX5_function_19 : decode cX5_function 19 = .ok (.invokespecial 70, 3) := by decide +kernel
theorem dX5_function_22 : decode cX5_function 22 = .ok (.athrow, 1) := by decide +kernel
theorem dX5_function_23 : decode cX5_function 23 = .ok (.aload_n 0, 1) := by decide +kernel
theorem dX5_function_24 : decode cX5_function 24 = .ok (.iload_n 2, 1) := by decide +kernel
theorem dX5_function_25 : decode cX5_function 25 = .ok (.invokevirtual 78, 3) := by decide +kernel
theorem dX5_function_28 : decode cX5_function 28 = .ok (.aload_n 0, 1) := by decide +kernel
theorem dX5_function_29 : decode cX5_function 29 = .ok (.iload_n 3, 1) := by decide +kernel
theorem dX5_function_30 : decode cX5_function 30 = .ok (.invokevirtual 81, 3) := by decide +kernel
theorem dX5_function_33 : decode cX5_function 33 = .ok (.aload_n 0, 1) := by decide +kernel
theorem dX5_function_34 : decode cX5_function 34 = .ok (.getfield 12, 3) := by decide +kernel
theorem dX5_function_37 : decode cX5_function 37 = .ok (.iload_n 1, 1) := by decide +kernel
theorem dX5_function_38 : decode cX5_function 38 = .ok (.iload_n 2, 1) := by decide +kernel
theorem dX5_function_39 : decode cX5_function 39 = .ok (.iload_n 3, 1) := by decide +kernel
theorem dX5_function_4 : decode cX5_function 4 = .ok (.iload_n 1, 1) := by decide +kernel
theorem dX5_function_40 : decode cX5_function 40 = .ok (.invokevirtual 84, 3) := by decide +kernel
theorem dX5_function_43 : decode cX5_function 43 = .ok (.ireturn, 1) := by decide +kernel
theorem dX5_function_5 : decode cX5_function 5 = .ok (.ifCond .lt 8, 3) := by decide +kernel
theorem dX5_function_8 : decode cX5_function 8 = .ok (.iload_n 1, 1) := by decide +kernel
theorem dX5_function_9 : decode cX5_function 9 = .ok (.iconst 5, 1) := by decide +kernel
theorem dX5_get_0 : decode cX5_get 0 = .ok (.aload_n 0, 1) := by decide +kernel
theorem dX5_get_1 : decode cX5_get 1 = .ok (.invokevirtual 55, 3) := by decide +kernel
theorem dX5_get_4 : decode cX5_get 4 = .ok (.aload_n 0, 1) := by decide +kernel
theorem dX5_get_5 : decode cX5_get 5 = .ok (.iload_n 1, 1) := by decide +kernel
theorem dX5_get_6 : decode cX5_get 6 = .ok (.invokevirtual 88, 3) := by decide +kernel
theorem dX5_has_0 : decode cX5_has 0 = .ok (.aload_n 0, 1) := by decide +kernel
theorem dX5_has_1 : decode cX5_has 1 = .ok (.invokevirtual 55, 3) := by decide +kernel
theorem dX5_has_4 : decode cX5_has 4 = .ok (.aload_n 0, 1) := by decide +kernel
theorem dX5_has_5 : decode cX5_has 5 = .ok (.iload_n 1, 1) := by decide +kernel
theorem dX5_has_6 : decode cX5_has 6 = .ok (.invokevirtual 88, 3) := by decide +kernel
theorem dX5_init_0 : decode cX5_init 0 = .ok (.aload_n 0, 1) := by decide +kernel
theorem dX5_init_1 : decode cX5_init 1 = .ok (.invokespecial 3, 3) := by decide +kernel
theorem dX5_init_12 : decode cX5_init 12 = .ok (.putfield 12, 3) := by decide +kernel
theorem dX5_init_15 : decode cX5_init 15 = .ok (.aload_n 0, 1) := by decide +kernel
theorem dX5_init_16 : decode cX5_init 16 = .ok (.new 16, 3) := by decide +kernel
theorem dX5_init_19 : decode cX5_init 19 = .ok (.dup, 1) := by decide +kernel
theorem dX5_init_20 : decode cX5_init 20 = .ok (.invokespecial 18, 3) := by decide +kernel
theorem dX5_init_23 : decode cX5_init 23 = .ok (.putfield 19, 3) := by decide +kernel
theorem dX5_init_26 : decode cX5_init 26 = .ok (.aload_n 0, 1) := by decide +kernel
theorem dX5_init_27 : decode cX5_init 27 = .ok (.new 23, 3) := by decide +kernel
theorem dX5_init_30 : decode cX5_init 30 = .ok (.dup, 1) := by decide +kernel
theorem dX5_init_31 : decode cX5_init 31 = .ok (.invokespecial 25, 3) := by decide +kernel
theorem dX5_init_34 : decode cX5_init 34 = .ok (.putfield 26, 3) := by decide +kernel
theorem dX5_init_37 : decode cX5_init 37 = .ok (.aload_n 0, 1) := by decide +kernel
theorem dX5_init_38 : decode cX5_init 38 = .ok (.new 30, 3) := by decide +kernel
theorem dX5_init_4 : decode cX5_init 4 = .ok (.aload_n 0, 1) := by decide +kernel
theorem dX5_init_41 : decode cX5_init 41 = .ok (.dup, 1) := by decide +kernel
theorem dX5_init_42 : decode cX5_init 42 = .ok (.invokespecial 32, 3) := by decide +kernel
theorem dX5_init_45 : decode cX5_init 45 = .ok (.putfield 33, 3) := by decide +kernel
theorem dX5_init_48 : decode cX5_init 48 = .ok (.aload_n 0, 1) := by decide +kernel
theorem dX5_init_49 : decode cX5_init 49 = .ok (.new 37, 3) := by decide +kernel
theorem dX5_init_5 : decode cX5_init 5 = .ok (.new 9, 3) := by decide +kernel
theorem dX5_init_52 : decode cX5_init 52 = .ok (.dup, 1) := by decide +kernel
theorem dX5_init_53 : decode cX5_init 53 = .ok (.invokespecial 39, 3) := by decide +kernel
theorem dX5_init_56 : decode cX5_init 56 = .ok (.putfield 40, 3) := by decide +kernel
theorem dX5_init_59 : decode cX5_init 59 = .ok (.aload_n 0, 1) := by decide +kernel
theorem dX5_init_60 : decode cX5_init 60 = .ok (.sipush 250, 3) := by decide +kernel
theorem dX5_init_63 : decode cX5_init 63 = .ok (.newarray .int, 2) := by decide +kernel
theorem dX5_init_65 : decode cX5_init 65 = .ok (.putfield 44, 3) := by decide +kernel
theorem dX5_init_68 : decode cX5_init 68 = .ok (.aload_n 0, 1) := by decide +kernel
theorem dX5_init_69 : decode cX5_init 69 = .ok (.sipush 2000, 3) := by decide +kernel
theorem dX5_init_72 : decode cX5_init 72 = .ok (.newarray .int, 2) := by decide +kernel
theorem dX5_init_74 : decode cX5_init 74 = .ok (.putfield 48, 3) := by decide +kernel
theorem dX5_init_77 : decode cX5_init 77 = .ok (.aload_n 0, 1) := by decide +kernel
theorem dX5_init_78 : decode cX5_init 78 = .ok (.iconst (-1), 1) := by decide +kernel
theorem dX5_init_79 : decode cX5_init 79 = .ok (.putfield 51, 3) := by decide +kernel
theorem dX5_init_8 : decode cX5_init 8 = .ok (.dup, 1) := by decide +kernel
theorem dX5_init_82 : decode cX5_init 82 = .ok (.return_, 1) := by decide +kernel
theorem dX5_init_9 : decode cX5_init 9 = .ok (.invokespecial 11, 3) := by decide +kernel
theorem dX5_key_0 : decode cX5_key 0 = .ok (.iload_n 1, 1) := by decide +kernel
theorem dX5_key_1 : decode cX5_key 1 = .ok (.ifCond .lt 20, 3) := by decide +kernel
theorem dX5_key_21 : decode cX5_key 21 = .ok (.new 175, 3) := by decide +kernel
theorem dX5_key_24 : decode cX5_key 24 = .ok (.dup, 1) := by decide +kernel
theorem dX5_key_25 : decode cX5_key 25 = .ok (.ldc 177, 2) := by decide +kernel
theorem dX5_key_27 : decode cX5_key 27 = .ok (.invokespecial 179, 3) := by decide +kernel
theorem dX5_key_30 : decode cX5_key 30 = .ok (.athrow, 1) := by decide +kernel
theorem dX5_key_4 : decode cX5_key 4 = .ok (.iload_n 1, 1) := by decide +kernel
theorem dX5_key_5 : decode cX5_key 5 = .ok (.aload_n 0, 1) := by decide +kernel
theorem dX5_key_6 : decode cX5_key 6 = .ok (.getfield 172, 3) := by decide +kernel
theorem dX5_key_9 : decode cX5_key 9 = .ok (.if_icmp .ge 12, 3) := by decide +kernel
theorem dX5_keys_0 : decode cX5_keys 0 = .ok (.aload_n 0, 1) := by decide +kernel
theorem dX5_keys_1 : decode cX5_keys 1 = .ok (.invokevirtual 55, 3) := by decide +kernel
theorem dX5_keys_4 : decode cX5_keys 4 = .ok (.aload_n 0, 1) := by decide +kernel
theorem dX5_keys_5 : decode cX5_keys 5 = .ok (.iload_n 1, 1) := by decide +kernel
theorem dX5_keys_6 : decode cX5_keys 6 = .ok (.invokevirtual 88, 3) := by decide +kernel
theorem dX5_level_0 : decode cX5_level 0 = .ok (.aload_n 0, 1) := by decide +kernel
theorem dX5_level_1 : decode cX5_level 1 = .ok (.invokevirtual 55, 3) := by decide +kernel
theorem dX5_level_4 : decode cX5_level 4 = .ok (.aload_n 0, 1) := by decide +kernel
theorem dX5_level_5 : decode cX5_level 5 = .ok (.iload_n 1, 1) := by decide +kernel
theorem dX5_level_6 : decode cX5_level 6 = .ok (.invokevirtual 88, 3) := by decide +kernel
theorem dX5_make_0 : decode cX5_make 0 = .ok (.aload_n 0, 1) := by decide +kernel
theorem dX5_make_1 : decode cX5_make 1 = .ok (.invokevirtual 55, 3) := by decide +kernel
theorem dX5_make_10 : decode cX5_make 10 = .ok (.getfield 12, 3) := by decide +kernel
theorem dX5_make_13 : decode cX5_make 13 = .ok (.iload_n 1, 1) := by decide +kernel
theorem dX5_make_14 : decode cX5_make 14 = .ok (.invokevirtual 62, 3) := by decide +kernel
theorem dX5_make_17 : decode cX5_make 17 = .ok (.ireturn, 1) := by decide +kernel
theorem dX5_make_4 : decode cX5_make 4 = .ok (.aload_n 0, 1) := by decide +kernel
theorem dX5_make_5 : decode cX5_make 5 = .ok (.iload_n 1, 1) := by decide +kernel
theorem dX5_make_6 : decode cX5_make 6 = .ok (.invokevirtual 58, 3) := by decide +kernel
theorem dX5_make_9 : decode cX5_make 9 = .ok (.aload_n 0, 1) := by decide +kernel
theorem dX5_open_0 : decode cX5_open 0 = .ok (.aload_n 0, 1) := by decide +kernel
theorem dX5_open_1 : decode cX5_open 1 = .ok (.invokevirtual 55, 3) := by decide +kernel
theorem dX5_open_4 : decode cX5_open 4 = .ok (.aload_n 0, 1) := by decide +kernel
theorem dX5_open_5 : decode cX5_open 5 = .ok (.iload_n 1, 1) := by decide +kernel
theorem dX5_open_6 : decode cX5_open 6 = .ok (.invokevirtual 88, 3) := by decide +kernel
theorem dX5_parent_0 : decode cX5_parent 0 = .ok (.aload_n 0, 1) := by decide +kernel
theorem dX5_parent_1 : decode cX5_parent 1 = .ok (.invokevirtual 55, 3) := by decide +kernel
theorem dX5_parent_4 : decode cX5_parent 4 = .ok (.aload_n 0, 1) := by decide +kernel
theorem dX5_parent_5 : decode cX5_parent 5 = .ok (.iload_n 1, 1) := by decide +kernel
theorem dX5_parent_6 : decode cX5_parent 6 = .ok (.invokevirtual 88, 3) := by decide +kernel
theorem dX5_proxy_0 : decode cX5_proxy 0 = .ok (.aload_n 0, 1) := by decide +kernel
theorem dX5_proxy_1 : decode cX5_proxy 1 = .ok (.invokevirtual 55, 3) := by decide +kernel
theorem dX5_proxy_4 : decode cX5_proxy 4 = .ok (.aload_n 0, 1) := by decide +kernel
theorem dX5_proxy_5 : decode cX5_proxy 5 = .ok (.iload_n 1, 1) := by decide +kernel
theorem dX5_proxy_6 : decode cX5_proxy 6 = .ok (.invokevirtual 88, 3) := by decide +kernel
theorem dX5_remove_0 : decode cX5_remove 0 = .ok (.aload_n 0, 1) := by decide +kernel
theorem dX5_remove_1 : decode cX5_remove 1 = .ok (.invokevirtual 55, 3) := by decide +kernel
theorem dX5_remove_4 : decode cX5_remove 4 = .ok (.aload_n 0, 1) := by decide +kernel
theorem dX5_remove_5 : decode cX5_remove 5 = .ok (.iload_n 1, 1) := by decide +kernel
theorem dX5_remove_6 : decode cX5_remove 6 = .ok (.invokevirtual 88, 3) := by decide +kernel
theorem dX5_requireKey_0 : decode cX5_requireKey 0 = .ok (.iload_n 1, 1) := by decide +kernel
theorem dX5_requireKey_1 : decode cX5_requireKey 1 = .ok (.ifCond .lt 10, 3) := by decide +kernel
theorem dX5_requireKey_11 : decode cX5_requireKey 11 = .ok (.new 66, 3) := by decide +kernel
theorem dX5_requireKey_14 : decode cX5_requireKey 14 = .ok (.dup, 1) := by decide +kernel
theorem dX5_requireKey_15 : decode cX5_requireKey 15 = .ok (.ldc 221, 2) := by decide +kernel
theorem dX5_requireKey_17 : decode cX5_requireKey 17 = .ok (.invokespecial 70, 3) := by decide +kernel
theorem dX5_requireKey_20 : decode cX5_requireKey 20 = .ok (.athrow, 1) := by decide +kernel
theorem dX5_requireKey_21 : decode cX5_requireKey 21 = .ok (.return_, 1) := by decide +kernel
theorem dX5_requireKey_4 : decode cX5_requireKey 4 = .ok (.iload_n 1, 1) := by decide +kernel
theorem dX5_requireKey_5 : decode cX5_requireKey 5 = .ok (.sipush 250, 3) := by decide +kernel
theorem dX5_requireKey_8 : decode cX5_requireKey 8 = .ok (.if_icmp .lt 13, 3) := by decide +kernel
theorem dX5_requireObject_0 : decode cX5_requireObject 0 = .ok (.aload_n 0, 1) := by decide +kernel
theorem dX5_requireObject_1 : decode cX5_requireObject 1 = .ok (.getfield 12, 3) := by decide +kernel
theorem dX5_requireObject_11 : decode cX5_requireObject 11 = .ok (.new 66, 3) := by decide +kernel
theorem dX5_requireObject_14 : decode cX5_requireObject 14 = .ok (.dup, 1) := by decide +kernel
theorem dX5_requireObject_15 : decode cX5_requireObject 15 = .ok (.ldc 219, 2) := by decide +kernel
theorem dX5_requireObject_17 : decode cX5_requireObject 17 = .ok (.invokespecial 70, 3) := by decide +kernel
theorem dX5_requireObject_20 : decode cX5_requireObject 20 = .ok (.athrow, 1) := by decide +kernel
theorem dX5_requireObject_4 : decode cX5_requireObject 4 = .ok (.iload_n 1, 1) := by decide +kernel
theorem dX5_requireObject_5 : decode cX5_requireObject 5 = .ok (.invokevirtual 216, 3) := by decide +kernel
theorem dX5_requireObject_8 : decode cX5_requireObject 8 = .ok (.ifCond .ne 13, 3) := by decide +kernel
theorem dX5_requirePrototype_0 : decode cX5_requirePrototype 0 = .ok (.iload_n 1, 1) := by decide +kernel
theorem dX5_requirePrototype_1 : decode cX5_requirePrototype 1 = .ok (.iconst (-1), 1) := by decide +kernel
theorem dX5_requirePrototype_10 : decode cX5_requirePrototype 10 = .ok (.return_, 1) := by decide +kernel
theorem dX5_requirePrototype_2 : decode cX5_requirePrototype 2 = .ok (.if_icmp .eq 8, 3) := by decide +kernel
theorem dX5_requirePrototype_5 : decode cX5_requirePrototype 5 = .ok (.aload_n 0, 1) := by decide +kernel
theorem dX5_requirePrototype_6 : decode cX5_requirePrototype 6 = .ok (.iload_n 1, 1) := by decide +kernel
theorem dX5_requirePrototype_7 : decode cX5_requirePrototype 7 = .ok (.invokevirtual 88, 3) := by decide +kernel
theorem dX5_requireValue_0 : decode cX5_requireValue 0 = .ok (.iload_n 1, 1) := by decide +kernel
theorem dX5_requireValue_1 : decode cX5_requireValue 1 = .ok (.iconst (-1), 1) := by decide +kernel
theorem dX5_requireValue_12 : decode cX5_requireValue 12 = .ok (.iconst 1, 1) := by decide +kernel
theorem dX5_requireValue_13 : decode cX5_requireValue 13 = .ok (.goto 4, 3) := by decide +kernel
theorem dX5_requireValue_16 : decode cX5_requireValue 16 = .ok (.iconst 0, 1) := by decide +kernel
theorem dX5_requireValue_17 : decode cX5_requireValue 17 = .ok (.istore_n 2, 1) := by decide +kernel
theorem dX5_requireValue_18 : decode cX5_requireValue 18 = .ok (.iload_n 2, 1) := by decide +kernel
theorem dX5_requireValue_19 : decode cX5_requireValue 19 = .ok (.ifCond .ne 24, 3) := by decide +kernel
theorem dX5_requireValue_2 : decode cX5_requireValue 2 = .ok (.if_icmp .lt 14, 3) := by decide +kernel
theorem dX5_requireValue_22 : decode cX5_requireValue 22 = .ok (.aload_n 0, 1) := by decide +kernel
theorem dX5_requireValue_23 : decode cX5_requireValue 23 = .ok (.getfield 12, 3) := by decide +kernel
theorem dX5_requireValue_26 : decode cX5_requireValue 26 = .ok (.iload_n 1, 1) := by decide +kernel
theorem dX5_requireValue_27 : decode cX5_requireValue 27 = .ok (.invokevirtual 216, 3) := by decide +kernel
theorem dX5_requireValue_30 : decode cX5_requireValue 30 = .ok (.ifCond .ne 13, 3) := by decide +kernel
theorem dX5_requireValue_33 : decode cX5_requireValue 33 = .ok (.new 66, 3) := by decide +kernel
theorem dX5_requireValue_36 : decode cX5_requireValue 36 = .ok (.dup, 1) := by decide +kernel
theorem dX5_requireValue_37 : decode cX5_requireValue 37 = .ok (.ldc 223, 2) := by decide +kernel
theorem dX5_requireValue_39 : decode cX5_requireValue 39 = .ok (.invokespecial 70, 3) := by decide +kernel
theorem dX5_requireValue_42 : decode cX5_requireValue 42 = .ok (.athrow, 1) := by decide +kernel
theorem dX5_requireValue_43 : decode cX5_requireValue 43 = .ok (.return_, 1) := by decide +kernel
theorem dX5_requireValue_5 : decode cX5_requireValue 5 = .ok (.iload_n 1, 1) := by decide +kernel
theorem dX5_requireValue_6 : decode cX5_requireValue 6 = .ok (.sipush 1250, 3) := by decide +kernel
theorem dX5_requireValue_9 : decode cX5_requireValue 9 = .ok (.if_icmp .ge 7, 3) := by decide +kernel
theorem dX5_revoke_0 : decode cX5_revoke 0 = .ok (.aload_n 0, 1) := by decide +kernel
theorem dX5_revoke_1 : decode cX5_revoke 1 = .ok (.invokevirtual 55, 3) := by decide +kernel
theorem dX5_revoke_12 : decode cX5_revoke 12 = .ok (.ifCond .ne 13, 3) := by decide +kernel
theorem dX5_revoke_15 : decode cX5_revoke 15 = .ok (.new 66, 3) := by decide +kernel
theorem dX5_revoke_18 : decode cX5_revoke 18 = .ok (.dup, 1) := by decide +kernel
theorem dX5_revoke_19 : decode cX5_revoke 19 = .ok (.ldc 99, 2) := by decide +kernel
theorem dX5_revoke_21 : decode cX5_revoke 21 = .ok (.invokespecial 70, 3) := by decide +kernel
theorem dX5_revoke_24 : decode cX5_revoke 24 = .ok (.athrow, 1) := by decide +kernel
theorem dX5_revoke_4 : decode cX5_revoke 4 = .ok (.aload_n 0, 1) := by decide +kernel
theorem dX5_revoke_5 : decode cX5_revoke 5 = .ok (.getfield 12, 3) := by decide +kernel
theorem dX5_revoke_8 : decode cX5_revoke 8 = .ok (.iload_n 1, 1) := by decide +kernel
theorem dX5_revoke_9 : decode cX5_revoke 9 = .ok (.invokevirtual 95, 3) := by decide +kernel
theorem dX5_setParent_0 : decode cX5_setParent 0 = .ok (.aload_n 0, 1) := by decide +kernel
theorem dX5_setParent_1 : decode cX5_setParent 1 = .ok (.invokevirtual 55, 3) := by decide +kernel
theorem dX5_setParent_4 : decode cX5_setParent 4 = .ok (.aload_n 0, 1) := by decide +kernel
theorem dX5_setParent_5 : decode cX5_setParent 5 = .ok (.iload_n 1, 1) := by decide +kernel
theorem dX5_setParent_6 : decode cX5_setParent 6 = .ok (.invokevirtual 88, 3) := by decide +kernel
theorem dX5_set_0 : decode cX5_set 0 = .ok (.aload_n 0, 1) := by decide +kernel
theorem dX5_set_1 : decode cX5_set 1 = .ok (.invokevirtual 55, 3) := by decide +kernel
theorem dX5_set_4 : decode cX5_set 4 = .ok (.aload_n 0, 1) := by decide +kernel
theorem dX5_set_5 : decode cX5_set 5 = .ok (.iload_n 1, 1) := by decide +kernel
theorem dX5_set_6 : decode cX5_set 6 = .ok (.invokevirtual 88, 3) := by decide +kernel
theorem dX5_shut_0 : decode cX5_shut 0 = .ok (.aload_n 0, 1) := by decide +kernel
theorem dX5_shut_1 : decode cX5_shut 1 = .ok (.invokevirtual 55, 3) := by decide +kernel
theorem dX5_shut_4 : decode cX5_shut 4 = .ok (.aload_n 0, 1) := by decide +kernel
theorem dX5_shut_5 : decode cX5_shut 5 = .ok (.iload_n 1, 1) := by decide +kernel
theorem dX5_shut_6 : decode cX5_shut 6 = .ok (.invokevirtual 88, 3) := by decide +kernel
