theorem d_Store_endSweep_0 : decode c_Store_endSweep 0 = .ok (.iconst 0, 1) := by decide +kernel
theorem d_Store_endSweep_1 : decode c_Store_endSweep 1 = .ok (.istore_n 1, 1) := by decide +kernel
theorem d_Store_endSweep_2 : decode c_Store_endSweep 2 = .ok (.iload_n 1, 1) := by decide +kernel
theorem d_Store_endSweep_3 : decode c_Store_endSweep 3 = .ok (.aload_n 0, 1) := by decide +kernel
theorem d_Store_endSweep_4 : decode c_Store_endSweep 4 = .ok (.getfield 27, 3) := by decide +kernel
theorem d_Store_endSweep_7 : decode c_Store_endSweep 7 = .ok (.if_icmp .ge 65, 3) := by decide +kernel
theorem d_Store_endSweep_10 : decode c_Store_endSweep 10 = .ok (.iload_n 1, 1) := by decide +kernel
theorem d_Store_endSweep_11 : decode c_Store_endSweep 11 = .ok (.bipush 30, 2) := by decide +kernel
theorem d_Store_endSweep_13 : decode c_Store_endSweep 13 = .ok (.if_icmp .ge 59, 3) := by decide +kernel
theorem d_Store_endSweep_16 : decode c_Store_endSweep 16 = .ok (.aload_n 0, 1) := by decide +kernel
theorem d_Store_endSweep_17 : decode c_Store_endSweep 17 = .ok (.getfield 24, 3) := by decide +kernel
theorem d_Store_endSweep_20 : decode c_Store_endSweep 20 = .ok (.iload_n 1, 1) := by decide +kernel
theorem d_Store_endSweep_21 : decode c_Store_endSweep 21 = .ok (.iaload, 1) := by decide +kernel
theorem d_Store_endSweep_22 : decode c_Store_endSweep 22 = .ok (.bipush 20, 2) := by decide +kernel
theorem d_Store_endSweep_24 : decode c_Store_endSweep 24 = .ok (.imul, 1) := by decide +kernel
theorem d_Store_endSweep_25 : decode c_Store_endSweep 25 = .ok (.istore_n 2, 1) := by decide +kernel
theorem d_Store_endSweep_26 : decode c_Store_endSweep 26 = .ok (.iload_n 2, 1) := by decide +kernel
theorem d_Store_endSweep_27 : decode c_Store_endSweep 27 = .ok (.aload_n 0, 1) := by decide +kernel
theorem d_Store_endSweep_28 : decode c_Store_endSweep 28 = .ok (.getfield 13, 3) := by decide +kernel
theorem d_Store_endSweep_31 : decode c_Store_endSweep 31 = .ok (.aload_n 0, 1) := by decide +kernel
theorem d_Store_endSweep_32 : decode c_Store_endSweep 32 = .ok (.getfield 24, 3) := by decide +kernel
theorem d_Store_endSweep_35 : decode c_Store_endSweep 35 = .ok (.iload_n 1, 1) := by decide +kernel
theorem d_Store_endSweep_36 : decode c_Store_endSweep 36 = .ok (.iaload, 1) := by decide +kernel
theorem d_Store_endSweep_37 : decode c_Store_endSweep 37 = .ok (.iaload, 1) := by decide +kernel
theorem d_Store_endSweep_38 : decode c_Store_endSweep 38 = .ok (.iadd, 1) := by decide +kernel
theorem d_Store_endSweep_39 : decode c_Store_endSweep 39 = .ok (.istore_n 3, 1) := by decide +kernel
theorem d_Store_endSweep_40 : decode c_Store_endSweep 40 = .ok (.iload_n 2, 1) := by decide +kernel
theorem d_Store_endSweep_41 : decode c_Store_endSweep 41 = .ok (.istore 4, 2) := by decide +kernel
theorem d_Store_endSweep_43 : decode c_Store_endSweep 43 = .ok (.iload 4, 2) := by decide +kernel
theorem d_Store_endSweep_45 : decode c_Store_endSweep 45 = .ok (.iload_n 3, 1) := by decide +kernel
theorem d_Store_endSweep_46 : decode c_Store_endSweep 46 = .ok (.if_icmp .ge 20, 3) := by decide +kernel
theorem d_Store_endSweep_49 : decode c_Store_endSweep 49 = .ok (.aload_n 0, 1) := by decide +kernel
theorem d_Store_endSweep_50 : decode c_Store_endSweep 50 = .ok (.aload_n 0, 1) := by decide +kernel
theorem d_Store_endSweep_51 : decode c_Store_endSweep 51 = .ok (.getfield 9, 3) := by decide +kernel
theorem d_Store_endSweep_54 : decode c_Store_endSweep 54 = .ok (.iload 4, 2) := by decide +kernel
theorem d_Store_endSweep_56 : decode c_Store_endSweep 56 = .ok (.laload, 1) := by decide +kernel
theorem d_Store_endSweep_57 : decode c_Store_endSweep 57 = .ok (.invokevirtual 61, 3) := by decide +kernel
theorem d_Store_endSweep_60 : decode c_Store_endSweep 60 = .ok (.iinc 4 1, 3) := by decide +kernel
theorem d_Store_endSweep_63 : decode c_Store_endSweep 63 = .ok (.goto (-20), 3) := by decide +kernel
theorem d_Store_endSweep_66 : decode c_Store_endSweep 66 = .ok (.iinc 1 1, 3) := by decide +kernel
theorem d_Store_endSweep_69 : decode c_Store_endSweep 69 = .ok (.goto (-67), 3) := by decide +kernel
theorem d_Store_endSweep_72 : decode c_Store_endSweep 72 = .ok (.iconst 0, 1) := by decide +kernel
theorem d_Store_endSweep_73 : decode c_Store_endSweep 73 = .ok (.istore_n 1, 1) := by decide +kernel
theorem d_Store_endSweep_74 : decode c_Store_endSweep 74 = .ok (.iload_n 1, 1) := by decide +kernel
theorem d_Store_endSweep_75 : decode c_Store_endSweep 75 = .ok (.bipush 30, 2) := by decide +kernel
theorem d_Store_endSweep_77 : decode c_Store_endSweep 77 = .ok (.if_icmp .ge 21, 3) := by decide +kernel
theorem d_Store_endSweep_80 : decode c_Store_endSweep 80 = .ok (.aload_n 0, 1) := by decide +kernel
theorem d_Store_endSweep_81 : decode c_Store_endSweep 81 = .ok (.getfield 17, 3) := by decide +kernel
theorem d_Store_endSweep_84 : decode c_Store_endSweep 84 = .ok (.iload_n 1, 1) := by decide +kernel
theorem d_Store_endSweep_85 : decode c_Store_endSweep 85 = .ok (.aload_n 0, 1) := by decide +kernel
theorem d_Store_endSweep_86 : decode c_Store_endSweep 86 = .ok (.getfield 21, 3) := by decide +kernel
theorem d_Store_endSweep_89 : decode c_Store_endSweep 89 = .ok (.iload_n 1, 1) := by decide +kernel
theorem d_Store_endSweep_90 : decode c_Store_endSweep 90 = .ok (.baload, 1) := by decide +kernel
theorem d_Store_endSweep_91 : decode c_Store_endSweep 91 = .ok (.bastore, 1) := by decide +kernel
theorem d_Store_endSweep_92 : decode c_Store_endSweep 92 = .ok (.iinc 1 1, 3) := by decide +kernel
theorem d_Store_endSweep_95 : decode c_Store_endSweep 95 = .ok (.goto (-21), 3) := by decide +kernel
theorem d_Store_endSweep_98 : decode c_Store_endSweep 98 = .ok (.aload_n 0, 1) := by decide +kernel
theorem d_Store_endSweep_99 : decode c_Store_endSweep 99 = .ok (.aload_n 0, 1) := by decide +kernel
theorem d_Store_endSweep_100 : decode c_Store_endSweep 100 = .ok (.getfield 27, 3) := by decide +kernel
theorem d_Store_endSweep_103 : decode c_Store_endSweep 103 = .ok (.putfield 31, 3) := by decide +kernel
theorem d_Store_endSweep_106 : decode c_Store_endSweep 106 = .ok (.return_, 1) := by decide +kernel
theorem d_VM_sweepIfFull_0 : decode c_VM_sweepIfFull 0 = .ok (.aload_n 0, 1) := by decide +kernel
theorem d_VM_sweepIfFull_1 : decode c_VM_sweepIfFull 1 = .ok (.getfield 33, 3) := by decide +kernel
theorem d_VM_sweepIfFull_4 : decode c_VM_sweepIfFull 4 = .ok (.invokevirtual 296, 3) := by decide +kernel
theorem d_VM_sweepIfFull_7 : decode c_VM_sweepIfFull 7 = .ok (.ifCond .ne 4, 3) := by decide +kernel
theorem d_VM_sweepIfFull_10 : decode c_VM_sweepIfFull 10 = .ok (.return_, 1) := by decide +kernel
theorem d_VM_sweepIfFull_11 : decode c_VM_sweepIfFull 11 = .ok (.aload_n 0, 1) := by decide +kernel
theorem d_VM_sweepIfFull_12 : decode c_VM_sweepIfFull 12 = .ok (.getfield 33, 3) := by decide +kernel
theorem d_VM_sweepIfFull_15 : decode c_VM_sweepIfFull 15 = .ok (.invokevirtual 301, 3) := by decide +kernel
theorem d_VM_sweepIfFull_18 : decode c_VM_sweepIfFull 18 = .ok (.aload_n 0, 1) := by decide +kernel
theorem d_VM_sweepIfFull_19 : decode c_VM_sweepIfFull 19 = .ok (.getfield 33, 3) := by decide +kernel
theorem d_VM_sweepIfFull_22 : decode c_VM_sweepIfFull 22 = .ok (.aload_n 0, 1) := by decide +kernel
theorem d_VM_sweepIfFull_23 : decode c_VM_sweepIfFull 23 = .ok (.getfield 43, 3) := by decide +kernel
theorem d_VM_sweepIfFull_26 : decode c_VM_sweepIfFull 26 = .ok (.invokevirtual 304, 3) := by decide +kernel
theorem d_VM_sweepIfFull_29 : decode c_VM_sweepIfFull 29 = .ok (.iconst 0, 1) := by decide +kernel
theorem d_VM_sweepIfFull_30 : decode c_VM_sweepIfFull 30 = .ok (.istore_n 1, 1) := by decide +kernel
theorem d_VM_sweepIfFull_31 : decode c_VM_sweepIfFull 31 = .ok (.iload_n 1, 1) := by decide +kernel
theorem d_VM_sweepIfFull_32 : decode c_VM_sweepIfFull 32 = .ok (.aload_n 0, 1) := by decide +kernel
theorem d_VM_sweepIfFull_33 : decode c_VM_sweepIfFull 33 = .ok (.getfield 19, 3) := by decide +kernel
theorem d_VM_sweepIfFull_36 : decode c_VM_sweepIfFull 36 = .ok (.getfield 148, 3) := by decide +kernel
theorem d_VM_sweepIfFull_39 : decode c_VM_sweepIfFull 39 = .ok (.if_icmp .ge 24, 3) := by decide +kernel
theorem d_VM_sweepIfFull_42 : decode c_VM_sweepIfFull 42 = .ok (.aload_n 0, 1) := by decide +kernel
theorem d_VM_sweepIfFull_43 : decode c_VM_sweepIfFull 43 = .ok (.getfield 33, 3) := by decide +kernel
theorem d_VM_sweepIfFull_46 : decode c_VM_sweepIfFull 46 = .ok (.aload_n 0, 1) := by decide +kernel
theorem d_VM_sweepIfFull_47 : decode c_VM_sweepIfFull 47 = .ok (.getfield 19, 3) := by decide +kernel
theorem d_VM_sweepIfFull_50 : decode c_VM_sweepIfFull 50 = .ok (.iload_n 1, 1) := by decide +kernel
theorem d_VM_sweepIfFull_51 : decode c_VM_sweepIfFull 51 = .ok (.invokevirtual 121, 3) := by decide +kernel
theorem d_VM_sweepIfFull_54 : decode c_VM_sweepIfFull 54 = .ok (.invokevirtual 304, 3) := by decide +kernel
theorem d_VM_sweepIfFull_57 : decode c_VM_sweepIfFull 57 = .ok (.iinc 1 1, 3) := by decide +kernel
theorem d_VM_sweepIfFull_60 : decode c_VM_sweepIfFull 60 = .ok (.goto (-29), 3) := by decide +kernel
theorem d_VM_sweepIfFull_63 : decode c_VM_sweepIfFull 63 = .ok (.iconst 0, 1) := by decide +kernel
theorem d_VM_sweepIfFull_64 : decode c_VM_sweepIfFull 64 = .ok (.istore_n 1, 1) := by decide +kernel
theorem d_VM_sweepIfFull_65 : decode c_VM_sweepIfFull 65 = .ok (.iload_n 1, 1) := by decide +kernel
theorem d_VM_sweepIfFull_66 : decode c_VM_sweepIfFull 66 = .ok (.bipush 8, 2) := by decide +kernel
theorem d_VM_sweepIfFull_68 : decode c_VM_sweepIfFull 68 = .ok (.if_icmp .ge 22, 3) := by decide +kernel
theorem d_VM_sweepIfFull_71 : decode c_VM_sweepIfFull 71 = .ok (.aload_n 0, 1) := by decide +kernel
theorem d_VM_sweepIfFull_72 : decode c_VM_sweepIfFull 72 = .ok (.getfield 33, 3) := by decide +kernel
theorem d_VM_sweepIfFull_75 : decode c_VM_sweepIfFull 75 = .ok (.aload_n 0, 1) := by decide +kernel
theorem d_VM_sweepIfFull_76 : decode c_VM_sweepIfFull 76 = .ok (.getfield 37, 3) := by decide +kernel
theorem d_VM_sweepIfFull_79 : decode c_VM_sweepIfFull 79 = .ok (.iload_n 1, 1) := by decide +kernel
theorem d_VM_sweepIfFull_80 : decode c_VM_sweepIfFull 80 = .ok (.laload, 1) := by decide +kernel
theorem d_VM_sweepIfFull_81 : decode c_VM_sweepIfFull 81 = .ok (.invokevirtual 304, 3) := by decide +kernel
theorem d_VM_sweepIfFull_84 : decode c_VM_sweepIfFull 84 = .ok (.iinc 1 1, 3) := by decide +kernel
theorem d_VM_sweepIfFull_87 : decode c_VM_sweepIfFull 87 = .ok (.goto (-22), 3) := by decide +kernel
theorem d_VM_sweepIfFull_90 : decode c_VM_sweepIfFull 90 = .ok (.aload_n 0, 1) := by decide +kernel
theorem d_VM_sweepIfFull_91 : decode c_VM_sweepIfFull 91 = .ok (.getfield 33, 3) := by decide +kernel
theorem d_VM_sweepIfFull_94 : decode c_VM_sweepIfFull 94 = .ok (.invokevirtual 307, 3) := by decide +kernel
theorem d_VM_sweepIfFull_97 : decode c_VM_sweepIfFull 97 = .ok (.return_, 1) := by decide +kernel
theorem d_Store_freeRow_0 : decode c_Store_freeRow 0 = .ok (.iconst 0, 1) := by decide +kernel
theorem d_Store_freeRow_1 : decode c_Store_freeRow 1 = .ok (.istore_n 1, 1) := by decide +kernel
theorem d_Store_freeRow_2 : decode c_Store_freeRow 2 = .ok (.iload_n 1, 1) := by decide +kernel
theorem d_Store_freeRow_3 : decode c_Store_freeRow 3 = .ok (.bipush 29, 2) := by decide +kernel
theorem d_Store_freeRow_5 : decode c_Store_freeRow 5 = .ok (.if_icmp .ge 18, 3) := by decide +kernel
theorem d_Store_freeRow_8 : decode c_Store_freeRow 8 = .ok (.aload_n 0, 1) := by decide +kernel
theorem d_Store_freeRow_9 : decode c_Store_freeRow 9 = .ok (.getfield 17, 3) := by decide +kernel
theorem d_Store_freeRow_12 : decode c_Store_freeRow 12 = .ok (.iload_n 1, 1) := by decide +kernel
theorem d_Store_freeRow_13 : decode c_Store_freeRow 13 = .ok (.baload, 1) := by decide +kernel
theorem d_Store_freeRow_14 : decode c_Store_freeRow 14 = .ok (.ifCond .eq 9, 3) := by decide +kernel
theorem d_Store_freeRow_17 : decode c_Store_freeRow 17 = .ok (.iinc 1 1, 3) := by decide +kernel
theorem d_Store_freeRow_20 : decode c_Store_freeRow 20 = .ok (.goto (-18), 3) := by decide +kernel
theorem d_Store_freeRow_23 : decode c_Store_freeRow 23 = .ok (.iload_n 1, 1) := by decide +kernel
theorem d_Store_freeRow_24 : decode c_Store_freeRow 24 = .ok (.ireturn, 1) := by decide +kernel
theorem d_Store_make_0 : decode c_Store_make 0 = .ok (.aload_n 0, 1) := by decide +kernel
theorem d_Store_make_1 : decode c_Store_make 1 = .ok (.invokevirtual 40, 3) := by decide +kernel
theorem d_Store_make_4 : decode c_Store_make 4 = .ok (.istore_n 3, 1) := by decide +kernel
theorem d_Store_make_5 : decode c_Store_make 5 = .ok (.iload_n 3, 1) := by decide +kernel
theorem d_Store_make_6 : decode c_Store_make 6 = .ok (.bipush 20, 2) := by decide +kernel
theorem d_Store_make_8 : decode c_Store_make 8 = .ok (.imul, 1) := by decide +kernel
theorem d_Store_make_9 : decode c_Store_make 9 = .ok (.istore 4, 2) := by decide +kernel
theorem d_Store_make_11 : decode c_Store_make 11 = .ok (.iload 4, 2) := by decide +kernel
theorem d_Store_make_13 : decode c_Store_make 13 = .ok (.istore 5, 2) := by decide +kernel
theorem d_Store_make_15 : decode c_Store_make 15 = .ok (.iload 5, 2) := by decide +kernel
theorem d_Store_make_17 : decode c_Store_make 17 = .ok (.iload 4, 2) := by decide +kernel
theorem d_Store_make_19 : decode c_Store_make 19 = .ok (.iload_n 2, 1) := by decide +kernel
theorem d_Store_make_20 : decode c_Store_make 20 = .ok (.iadd, 1) := by decide +kernel
theorem d_Store_make_21 : decode c_Store_make 21 = .ok (.if_icmp .ge 17, 3) := by decide +kernel
theorem d_Store_make_24 : decode c_Store_make 24 = .ok (.aload_n 0, 1) := by decide +kernel
theorem d_Store_make_25 : decode c_Store_make 25 = .ok (.getfield 9, 3) := by decide +kernel
theorem d_Store_make_28 : decode c_Store_make 28 = .ok (.iload 5, 2) := by decide +kernel
theorem d_Store_make_30 : decode c_Store_make 30 = .ok (.lconst 0, 1) := by decide +kernel
theorem d_Store_make_31 : decode c_Store_make 31 = .ok (.lastore, 1) := by decide +kernel
theorem d_Store_make_32 : decode c_Store_make 32 = .ok (.iinc 5 1, 3) := by decide +kernel
theorem d_Store_make_35 : decode c_Store_make 35 = .ok (.goto (-20), 3) := by decide +kernel
theorem d_Store_make_38 : decode c_Store_make 38 = .ok (.aload_n 0, 1) := by decide +kernel
theorem d_Store_make_39 : decode c_Store_make 39 = .ok (.getfield 13, 3) := by decide +kernel
theorem d_Store_make_42 : decode c_Store_make 42 = .ok (.iload_n 3, 1) := by decide +kernel
theorem d_Store_make_43 : decode c_Store_make 43 = .ok (.iload_n 2, 1) := by decide +kernel
theorem d_Store_make_44 : decode c_Store_make 44 = .ok (.iastore, 1) := by decide +kernel
theorem d_Store_make_45 : decode c_Store_make 45 = .ok (.aload_n 0, 1) := by decide +kernel
theorem d_Store_make_46 : decode c_Store_make 46 = .ok (.getfield 17, 3) := by decide +kernel
theorem d_Store_make_49 : decode c_Store_make 49 = .ok (.iload_n 3, 1) := by decide +kernel
theorem d_Store_make_50 : decode c_Store_make 50 = .ok (.iconst 1, 1) := by decide +kernel
theorem d_Store_make_51 : decode c_Store_make 51 = .ok (.bastore, 1) := by decide +kernel
theorem d_Store_make_52 : decode c_Store_make 52 = .ok (.aload_n 0, 1) := by decide +kernel
theorem d_Store_make_53 : decode c_Store_make 53 = .ok (.dup, 1) := by decide +kernel
theorem d_Store_make_54 : decode c_Store_make 54 = .ok (.getfield 31, 3) := by decide +kernel
theorem d_Store_make_57 : decode c_Store_make 57 = .ok (.iconst 1, 1) := by decide +kernel
theorem d_Store_make_58 : decode c_Store_make 58 = .ok (.iadd, 1) := by decide +kernel
theorem d_Store_make_59 : decode c_Store_make 59 = .ok (.putfield 31, 3) := by decide +kernel
theorem d_Store_make_62 : decode c_Store_make 62 = .ok (.aload_n 0, 1) := by decide +kernel
theorem d_Store_make_63 : decode c_Store_make 63 = .ok (.dup, 1) := by decide +kernel
theorem d_Store_make_64 : decode c_Store_make 64 = .ok (.getfield 34, 3) := by decide +kernel
theorem d_Store_make_67 : decode c_Store_make 67 = .ok (.iconst 1, 1) := by decide +kernel
theorem d_Store_make_68 : decode c_Store_make 68 = .ok (.iadd, 1) := by decide +kernel
theorem d_Store_make_69 : decode c_Store_make 69 = .ok (.putfield 34, 3) := by decide +kernel
theorem d_Store_make_72 : decode c_Store_make 72 = .ok (.iload_n 1, 1) := by decide +kernel
theorem d_Store_make_73 : decode c_Store_make 73 = .ok (.iload_n 3, 1) := by decide +kernel
theorem d_Store_make_74 : decode c_Store_make 74 = .ok (.invokestatic 46, 3) := by decide +kernel
theorem d_Store_make_77 : decode c_Store_make 77 = .ok (.lreturn, 1) := by decide +kernel
theorem d_VM_makeObject_0 : decode c_VM_makeObject 0 = .ok (.aload_n 0, 1) := by decide +kernel
theorem d_VM_makeObject_1 : decode c_VM_makeObject 1 = .ok (.invokevirtual 293, 3) := by decide +kernel
theorem d_VM_makeObject_4 : decode c_VM_makeObject 4 = .ok (.aload_n 0, 1) := by decide +kernel
theorem d_VM_makeObject_5 : decode c_VM_makeObject 5 = .ok (.getfield 33, 3) := by decide +kernel
theorem d_VM_makeObject_8 : decode c_VM_makeObject 8 = .ok (.invokevirtual 296, 3) := by decide +kernel
theorem d_VM_makeObject_11 : decode c_VM_makeObject 11 = .ok (.ifCond .eq 6, 3) := by decide +kernel
theorem d_VM_makeObject_14 : decode c_VM_makeObject 14 = .ok (.bipush 6, 2) := by decide +kernel
theorem d_VM_makeObject_16 : decode c_VM_makeObject 16 = .ok (.ireturn, 1) := by decide +kernel
theorem d_VM_makeObject_17 : decode c_VM_makeObject 17 = .ok (.aload_n 0, 1) := by decide +kernel
theorem d_VM_makeObject_18 : decode c_VM_makeObject 18 = .ok (.aload_n 0, 1) := by decide +kernel
theorem d_VM_makeObject_19 : decode c_VM_makeObject 19 = .ok (.getfield 33, 3) := by decide +kernel
theorem d_VM_makeObject_22 : decode c_VM_makeObject 22 = .ok (.iconst 4, 1) := by decide +kernel
theorem d_VM_makeObject_23 : decode c_VM_makeObject 23 = .ok (.bipush 16, 2) := by decide +kernel
theorem d_VM_makeObject_25 : decode c_VM_makeObject 25 = .ok (.invokevirtual 297, 3) := by decide +kernel
theorem d_VM_makeObject_28 : decode c_VM_makeObject 28 = .ok (.invokevirtual 178, 3) := by decide +kernel
theorem d_VM_makeObject_31 : decode c_VM_makeObject 31 = .ok (.ireturn, 1) := by decide +kernel
theorem d_VM_makeArray_0 : decode c_VM_makeArray 0 = .ok (.aload_n 0, 1) := by decide +kernel
theorem d_VM_makeArray_1 : decode c_VM_makeArray 1 = .ok (.getfield 19, 3) := by decide +kernel
theorem d_VM_makeArray_4 : decode c_VM_makeArray 4 = .ok (.iload_n 1, 1) := by decide +kernel
theorem d_VM_makeArray_5 : decode c_VM_makeArray 5 = .ok (.invokevirtual 263, 3) := by decide +kernel
theorem d_VM_makeArray_8 : decode c_VM_makeArray 8 = .ok (.ifCond .ne 5, 3) := by decide +kernel
theorem d_VM_makeArray_11 : decode c_VM_makeArray 11 = .ok (.iconst 3, 1) := by decide +kernel
theorem d_VM_makeArray_12 : decode c_VM_makeArray 12 = .ok (.ireturn, 1) := by decide +kernel
theorem d_VM_makeArray_13 : decode c_VM_makeArray 13 = .ok (.iload_n 1, 1) := by decide +kernel
theorem d_VM_makeArray_14 : decode c_VM_makeArray 14 = .ok (.bipush 20, 2) := by decide +kernel
theorem d_VM_makeArray_16 : decode c_VM_makeArray 16 = .ok (.if_icmp .le 5, 3) := by decide +kernel
theorem d_VM_makeArray_19 : decode c_VM_makeArray 19 = .ok (.iconst 2, 1) := by decide +kernel
theorem d_VM_makeArray_20 : decode c_VM_makeArray 20 = .ok (.ireturn, 1) := by decide +kernel
theorem d_VM_makeArray_21 : decode c_VM_makeArray 21 = .ok (.aload_n 0, 1) := by decide +kernel
theorem d_VM_makeArray_22 : decode c_VM_makeArray 22 = .ok (.invokevirtual 293, 3) := by decide +kernel
theorem d_VM_makeArray_25 : decode c_VM_makeArray 25 = .ok (.aload_n 0, 1) := by decide +kernel
theorem d_VM_makeArray_26 : decode c_VM_makeArray 26 = .ok (.getfield 33, 3) := by decide +kernel
theorem d_VM_makeArray_29 : decode c_VM_makeArray 29 = .ok (.invokevirtual 296, 3) := by decide +kernel
theorem d_VM_makeArray_32 : decode c_VM_makeArray 32 = .ok (.ifCond .eq 6, 3) := by decide +kernel
theorem d_VM_makeArray_35 : decode c_VM_makeArray 35 = .ok (.bipush 6, 2) := by decide +kernel
theorem d_VM_makeArray_37 : decode c_VM_makeArray 37 = .ok (.ireturn, 1) := by decide +kernel
theorem d_VM_makeArray_38 : decode c_VM_makeArray 38 = .ok (.aload_n 0, 1) := by decide +kernel
theorem d_VM_makeArray_39 : decode c_VM_makeArray 39 = .ok (.getfield 33, 3) := by decide +kernel
theorem d_VM_makeArray_42 : decode c_VM_makeArray 42 = .ok (.iconst 5, 1) := by decide +kernel
theorem d_VM_makeArray_43 : decode c_VM_makeArray 43 = .ok (.iload_n 1, 1) := by decide +kernel
theorem d_VM_makeArray_44 : decode c_VM_makeArray 44 = .ok (.invokevirtual 297, 3) := by decide +kernel
theorem d_VM_makeArray_47 : decode c_VM_makeArray 47 = .ok (.lstore_n 2, 1) := by decide +kernel
theorem d_VM_makeArray_48 : decode c_VM_makeArray 48 = .ok (.iconst 0, 1) := by decide +kernel
theorem d_VM_makeArray_49 : decode c_VM_makeArray 49 = .ok (.istore 4, 2) := by decide +kernel
theorem d_VM_makeArray_51 : decode c_VM_makeArray 51 = .ok (.iload 4, 2) := by decide +kernel
theorem d_VM_makeArray_53 : decode c_VM_makeArray 53 = .ok (.iload_n 1, 1) := by decide +kernel
theorem d_VM_makeArray_54 : decode c_VM_makeArray 54 = .ok (.if_icmp .ge 32, 3) := by decide +kernel
theorem d_VM_makeArray_57 : decode c_VM_makeArray 57 = .ok (.aload_n 0, 1) := by decide +kernel
theorem d_VM_makeArray_58 : decode c_VM_makeArray 58 = .ok (.getfield 33, 3) := by decide +kernel
theorem d_VM_makeArray_61 : decode c_VM_makeArray 61 = .ok (.lload_n 2, 1) := by decide +kernel
theorem d_VM_makeArray_62 : decode c_VM_makeArray 62 = .ok (.iload 4, 2) := by decide +kernel
theorem d_VM_makeArray_64 : decode c_VM_makeArray 64 = .ok (.aload_n 0, 1) := by decide +kernel
theorem d_VM_makeArray_65 : decode c_VM_makeArray 65 = .ok (.getfield 19, 3) := by decide +kernel
theorem d_VM_makeArray_68 : decode c_VM_makeArray 68 = .ok (.iload_n 1, 1) := by decide +kernel
theorem d_VM_makeArray_69 : decode c_VM_makeArray 69 = .ok (.iconst 1, 1) := by decide +kernel
theorem d_VM_makeArray_70 : decode c_VM_makeArray 70 = .ok (.isub, 1) := by decide +kernel
theorem d_VM_makeArray_71 : decode c_VM_makeArray 71 = .ok (.iload 4, 2) := by decide +kernel
theorem d_VM_makeArray_73 : decode c_VM_makeArray 73 = .ok (.isub, 1) := by decide +kernel
theorem d_VM_makeArray_74 : decode c_VM_makeArray 74 = .ok (.invokevirtual 121, 3) := by decide +kernel
theorem d_VM_makeArray_77 : decode c_VM_makeArray 77 = .ok (.invokevirtual 276, 3) := by decide +kernel
theorem d_VM_makeArray_80 : decode c_VM_makeArray 80 = .ok (.iinc 4 1, 3) := by decide +kernel
theorem d_VM_makeArray_83 : decode c_VM_makeArray 83 = .ok (.goto (-32), 3) := by decide +kernel
theorem d_VM_makeArray_86 : decode c_VM_makeArray 86 = .ok (.aload_n 0, 1) := by decide +kernel
theorem d_VM_makeArray_87 : decode c_VM_makeArray 87 = .ok (.getfield 19, 3) := by decide +kernel
theorem d_VM_makeArray_90 : decode c_VM_makeArray 90 = .ok (.iload_n 1, 1) := by decide +kernel
theorem d_VM_makeArray_91 : decode c_VM_makeArray 91 = .ok (.invokevirtual 259, 3) := by decide +kernel
theorem d_VM_makeArray_94 : decode c_VM_makeArray 94 = .ok (.aload_n 0, 1) := by decide +kernel
theorem d_VM_makeArray_95 : decode c_VM_makeArray 95 = .ok (.lload_n 2, 1) := by decide +kernel
theorem d_VM_makeArray_96 : decode c_VM_makeArray 96 = .ok (.invokevirtual 178, 3) := by decide +kernel
theorem d_VM_makeArray_99 : decode c_VM_makeArray 99 = .ok (.ireturn, 1) := by decide +kernel
theorem d_VM_makeFunction_0 : decode c_VM_makeFunction 0 = .ok (.iload_n 1, 1) := by decide +kernel
theorem d_VM_makeFunction_1 : decode c_VM_makeFunction 1 = .ok (.ifCond .lt 17, 3) := by decide +kernel
theorem d_VM_makeFunction_4 : decode c_VM_makeFunction 4 = .ok (.aload_n 0, 1) := by decide +kernel
theorem d_VM_makeFunction_5 : decode c_VM_makeFunction 5 = .ok (.getfield 10, 3) := by decide +kernel
theorem d_VM_makeFunction_8 : decode c_VM_makeFunction 8 = .ok (.iload_n 1, 1) := by decide +kernel
theorem d_VM_makeFunction_9 : decode c_VM_makeFunction 9 = .ok (.bipush 8, 2) := by decide +kernel
theorem d_VM_makeFunction_11 : decode c_VM_makeFunction 11 = .ok (.idiv, 1) := by decide +kernel
theorem d_VM_makeFunction_12 : decode c_VM_makeFunction 12 = .ok (.invokevirtual 287, 3) := by decide +kernel
theorem d_VM_makeFunction_15 : decode c_VM_makeFunction 15 = .ok (.ifCond .ne 6, 3) := by decide +kernel
theorem d_VM_makeFunction_18 : decode c_VM_makeFunction 18 = .ok (.bipush 8, 2) := by decide +kernel
theorem d_VM_makeFunction_20 : decode c_VM_makeFunction 20 = .ok (.ireturn, 1) := by decide +kernel
theorem d_VM_makeFunction_21 : decode c_VM_makeFunction 21 = .ok (.aload_n 0, 1) := by decide +kernel
theorem d_VM_makeFunction_22 : decode c_VM_makeFunction 22 = .ok (.bipush 6, 2) := by decide +kernel
theorem d_VM_makeFunction_24 : decode c_VM_makeFunction 24 = .ok (.iload_n 1, 1) := by decide +kernel
theorem d_VM_makeFunction_25 : decode c_VM_makeFunction 25 = .ok (.invokestatic 310, 3) := by decide +kernel
theorem d_VM_makeFunction_28 : decode c_VM_makeFunction 28 = .ok (.invokevirtual 178, 3) := by decide +kernel
theorem d_VM_makeFunction_31 : decode c_VM_makeFunction 31 = .ok (.ireturn, 1) := by decide +kernel
theorem d_Notes_isFull_0 : decode c_Notes_isFull 0 = .ok (.aload_n 0, 1) := by decide +kernel
theorem d_Notes_isFull_1 : decode c_Notes_isFull 1 = .ok (.getfield 18, 3) := by decide +kernel
theorem d_Notes_isFull_4 : decode c_Notes_isFull 4 = .ok (.bipush 40, 2) := by decide +kernel
theorem d_Notes_isFull_6 : decode c_Notes_isFull 6 = .ok (.if_icmp .lt 7, 3) := by decide +kernel
theorem d_Notes_isFull_9 : decode c_Notes_isFull 9 = .ok (.iconst 1, 1) := by decide +kernel
theorem d_Notes_isFull_10 : decode c_Notes_isFull 10 = .ok (.goto 4, 3) := by decide +kernel
theorem d_Notes_isFull_13 : decode c_Notes_isFull 13 = .ok (.iconst 0, 1) := by decide +kernel
theorem d_Notes_isFull_14 : decode c_Notes_isFull 14 = .ok (.ireturn, 1) := by decide +kernel
theorem d_Notes_add_0 : decode c_Notes_add 0 = .ok (.aload_n 0, 1) := by decide +kernel
theorem d_Notes_add_1 : decode c_Notes_add 1 = .ok (.getfield 11, 3) := by decide +kernel
theorem d_Notes_add_4 : decode c_Notes_add 4 = .ok (.aload_n 0, 1) := by decide +kernel
theorem d_Notes_add_5 : decode c_Notes_add 5 = .ok (.getfield 18, 3) := by decide +kernel
theorem d_Notes_add_8 : decode c_Notes_add 8 = .ok (.iload_n 1, 1) := by decide +kernel
theorem d_Notes_add_9 : decode c_Notes_add 9 = .ok (.iastore, 1) := by decide +kernel
theorem d_Notes_add_10 : decode c_Notes_add 10 = .ok (.aload_n 0, 1) := by decide +kernel
theorem d_Notes_add_11 : decode c_Notes_add 11 = .ok (.getfield 15, 3) := by decide +kernel
theorem d_Notes_add_14 : decode c_Notes_add 14 = .ok (.aload_n 0, 1) := by decide +kernel
theorem d_Notes_add_15 : decode c_Notes_add 15 = .ok (.getfield 18, 3) := by decide +kernel
theorem d_Notes_add_18 : decode c_Notes_add 18 = .ok (.iload_n 2, 1) := by decide +kernel
theorem d_Notes_add_19 : decode c_Notes_add 19 = .ok (.iastore, 1) := by decide +kernel
theorem d_Notes_add_20 : decode c_Notes_add 20 = .ok (.aload_n 0, 1) := by decide +kernel
theorem d_Notes_add_21 : decode c_Notes_add 21 = .ok (.dup, 1) := by decide +kernel
theorem d_Notes_add_22 : decode c_Notes_add 22 = .ok (.getfield 18, 3) := by decide +kernel
theorem d_Notes_add_25 : decode c_Notes_add 25 = .ok (.iconst 1, 1) := by decide +kernel
theorem d_Notes_add_26 : decode c_Notes_add 26 = .ok (.iadd, 1) := by decide +kernel
theorem d_Notes_add_27 : decode c_Notes_add 27 = .ok (.putfield 18, 3) := by decide +kernel
theorem d_Notes_add_30 : decode c_Notes_add 30 = .ok (.return_, 1) := by decide +kernel
theorem d_Notes_addCall_0 : decode c_Notes_addCall 0 = .ok (.aload_n 0, 1) := by decide +kernel
theorem d_Notes_addCall_1 : decode c_Notes_addCall 1 = .ok (.iload_n 1, 1) := by decide +kernel
theorem d_Notes_addCall_2 : decode c_Notes_addCall 2 = .ok (.iconst (-1), 1) := by decide +kernel
theorem d_Notes_addCall_3 : decode c_Notes_addCall 3 = .ok (.invokevirtual 22, 3) := by decide +kernel
theorem d_Notes_addCall_6 : decode c_Notes_addCall 6 = .ok (.return_, 1) := by decide +kernel
theorem d_VM_callFunction_0 : decode c_VM_callFunction 0 = .ok (.aload_n 0, 1) := by decide +kernel
theorem d_VM_callFunction_1 : decode c_VM_callFunction 1 = .ok (.getfield 19, 3) := by decide +kernel
theorem d_VM_callFunction_4 : decode c_VM_callFunction 4 = .ok (.iload_n 1, 1) := by decide +kernel
theorem d_VM_callFunction_5 : decode c_VM_callFunction 5 = .ok (.invokevirtual 263, 3) := by decide +kernel
theorem d_VM_callFunction_8 : decode c_VM_callFunction 8 = .ok (.ifCond .ne 5, 3) := by decide +kernel
theorem d_VM_callFunction_11 : decode c_VM_callFunction 11 = .ok (.iconst 3, 1) := by decide +kernel
theorem d_VM_callFunction_12 : decode c_VM_callFunction 12 = .ok (.ireturn, 1) := by decide +kernel
theorem d_VM_callFunction_13 : decode c_VM_callFunction 13 = .ok (.aload_n 0, 1) := by decide +kernel
theorem d_VM_callFunction_14 : decode c_VM_callFunction 14 = .ok (.getfield 43, 3) := by decide +kernel
theorem d_VM_callFunction_17 : decode c_VM_callFunction 17 = .ok (.invokestatic 142, 3) := by decide +kernel
theorem d_VM_callFunction_20 : decode c_VM_callFunction 20 = .ok (.istore_n 2, 1) := by decide +kernel
theorem d_VM_callFunction_21 : decode c_VM_callFunction 21 = .ok (.aload_n 0, 1) := by decide +kernel
theorem d_VM_callFunction_22 : decode c_VM_callFunction 22 = .ok (.getfield 43, 3) := by decide +kernel
theorem d_VM_callFunction_25 : decode c_VM_callFunction 25 = .ok (.invokestatic 139, 3) := by decide +kernel
theorem d_VM_callFunction_28 : decode c_VM_callFunction 28 = .ok (.bipush 6, 2) := by decide +kernel
theorem d_VM_callFunction_30 : decode c_VM_callFunction 30 = .ok (.if_icmp .ne 11, 3) := by decide +kernel
theorem d_VM_callFunction_33 : decode c_VM_callFunction 33 = .ok (.iload_n 2, 1) := by decide +kernel
theorem d_VM_callFunction_34 : decode c_VM_callFunction 34 = .ok (.bipush 8, 2) := by decide +kernel
theorem d_VM_callFunction_36 : decode c_VM_callFunction 36 = .ok (.irem, 1) := by decide +kernel
theorem d_VM_callFunction_37 : decode c_VM_callFunction 37 = .ok (.iload_n 1, 1) := by decide +kernel
theorem d_VM_callFunction_38 : decode c_VM_callFunction 38 = .ok (.if_icmp .eq 5, 3) := by decide +kernel
theorem d_VM_callFunction_41 : decode c_VM_callFunction 41 = .ok (.iconst 1, 1) := by decide +kernel
theorem d_VM_callFunction_42 : decode c_VM_callFunction 42 = .ok (.ireturn, 1) := by decide +kernel
theorem d_VM_callFunction_43 : decode c_VM_callFunction 43 = .ok (.aload_n 0, 1) := by decide +kernel
theorem d_VM_callFunction_44 : decode c_VM_callFunction 44 = .ok (.getfield 26, 3) := by decide +kernel
theorem d_VM_callFunction_47 : decode c_VM_callFunction 47 = .ok (.invokevirtual 313, 3) := by decide +kernel
theorem d_VM_callFunction_50 : decode c_VM_callFunction 50 = .ok (.ifCond .eq 5, 3) := by decide +kernel
theorem d_VM_callFunction_53 : decode c_VM_callFunction 53 = .ok (.iconst 4, 1) := by decide +kernel
theorem d_VM_callFunction_54 : decode c_VM_callFunction 54 = .ok (.ireturn, 1) := by decide +kernel
theorem d_VM_callFunction_55 : decode c_VM_callFunction 55 = .ok (.aload_n 0, 1) := by decide +kernel
theorem d_VM_callFunction_56 : decode c_VM_callFunction 56 = .ok (.getfield 26, 3) := by decide +kernel
theorem d_VM_callFunction_59 : decode c_VM_callFunction 59 = .ok (.aload_n 0, 1) := by decide +kernel
theorem d_VM_callFunction_60 : decode c_VM_callFunction 60 = .ok (.getfield 57, 3) := by decide +kernel
theorem d_VM_callFunction_63 : decode c_VM_callFunction 63 = .ok (.invokevirtual 314, 3) := by decide +kernel
theorem d_VM_callFunction_66 : decode c_VM_callFunction 66 = .ok (.aload_n 0, 1) := by decide +kernel
theorem d_VM_callFunction_67 : decode c_VM_callFunction 67 = .ok (.iload_n 2, 1) := by decide +kernel
theorem d_VM_callFunction_68 : decode c_VM_callFunction 68 = .ok (.bipush 8, 2) := by decide +kernel
theorem d_VM_callFunction_70 : decode c_VM_callFunction 70 = .ok (.idiv, 1) := by decide +kernel
theorem d_VM_callFunction_71 : decode c_VM_callFunction 71 = .ok (.putfield 57, 3) := by decide +kernel
theorem d_VM_callFunction_74 : decode c_VM_callFunction 74 = .ok (.iconst 0, 1) := by decide +kernel
theorem d_VM_callFunction_75 : decode c_VM_callFunction 75 = .ok (.ireturn, 1) := by decide +kernel
theorem d_Notes_endWithCall_0 : decode c_Notes_endWithCall 0 = .ok (.aload_n 0, 1) := by decide +kernel
theorem d_Notes_endWithCall_1 : decode c_Notes_endWithCall 1 = .ok (.getfield 18, 3) := by decide +kernel
theorem d_Notes_endWithCall_4 : decode c_Notes_endWithCall 4 = .ok (.ifCond .le 22, 3) := by decide +kernel
theorem d_Notes_endWithCall_7 : decode c_Notes_endWithCall 7 = .ok (.aload_n 0, 1) := by decide +kernel
theorem d_Notes_endWithCall_8 : decode c_Notes_endWithCall 8 = .ok (.getfield 15, 3) := by decide +kernel
theorem d_Notes_endWithCall_11 : decode c_Notes_endWithCall 11 = .ok (.aload_n 0, 1) := by decide +kernel
theorem d_Notes_endWithCall_12 : decode c_Notes_endWithCall 12 = .ok (.getfield 18, 3) := by decide +kernel
theorem d_Notes_endWithCall_15 : decode c_Notes_endWithCall 15 = .ok (.iconst 1, 1) := by decide +kernel
theorem d_Notes_endWithCall_16 : decode c_Notes_endWithCall 16 = .ok (.isub, 1) := by decide +kernel
theorem d_Notes_endWithCall_17 : decode c_Notes_endWithCall 17 = .ok (.iaload, 1) := by decide +kernel
theorem d_Notes_endWithCall_18 : decode c_Notes_endWithCall 18 = .ok (.iconst (-1), 1) := by decide +kernel
theorem d_Notes_endWithCall_19 : decode c_Notes_endWithCall 19 = .ok (.if_icmp .ne 7, 3) := by decide +kernel
theorem d_Notes_endWithCall_22 : decode c_Notes_endWithCall 22 = .ok (.iconst 1, 1) := by decide +kernel
theorem d_Notes_endWithCall_23 : decode c_Notes_endWithCall 23 = .ok (.goto 4, 3) := by decide +kernel
theorem d_Notes_endWithCall_26 : decode c_Notes_endWithCall 26 = .ok (.iconst 0, 1) := by decide +kernel
theorem d_Notes_endWithCall_27 : decode c_Notes_endWithCall 27 = .ok (.ireturn, 1) := by decide +kernel
theorem d_Notes_placeOf_0 : decode c_Notes_placeOf 0 = .ok (.aload_n 0, 1) := by decide +kernel
theorem d_Notes_placeOf_1 : decode c_Notes_placeOf 1 = .ok (.getfield 11, 3) := by decide +kernel
theorem d_Notes_placeOf_4 : decode c_Notes_placeOf 4 = .ok (.iload_n 1, 1) := by decide +kernel
theorem d_Notes_placeOf_5 : decode c_Notes_placeOf 5 = .ok (.iaload, 1) := by decide +kernel
theorem d_Notes_placeOf_6 : decode c_Notes_placeOf 6 = .ok (.ireturn, 1) := by decide +kernel
theorem d_VM_returnFromCall_0 : decode c_VM_returnFromCall 0 = .ok (.aload_n 0, 1) := by decide +kernel
theorem d_VM_returnFromCall_1 : decode c_VM_returnFromCall 1 = .ok (.getfield 19, 3) := by decide +kernel
theorem d_VM_returnFromCall_4 : decode c_VM_returnFromCall 4 = .ok (.iload_n 1, 1) := by decide +kernel
theorem d_VM_returnFromCall_5 : decode c_VM_returnFromCall 5 = .ok (.invokevirtual 263, 3) := by decide +kernel
theorem d_VM_returnFromCall_8 : decode c_VM_returnFromCall 8 = .ok (.ifCond .ne 5, 3) := by decide +kernel
theorem d_VM_returnFromCall_11 : decode c_VM_returnFromCall 11 = .ok (.iconst 3, 1) := by decide +kernel
theorem d_VM_returnFromCall_12 : decode c_VM_returnFromCall 12 = .ok (.ireturn, 1) := by decide +kernel
theorem d_VM_returnFromCall_13 : decode c_VM_returnFromCall 13 = .ok (.aload_n 0, 1) := by decide +kernel
theorem d_VM_returnFromCall_14 : decode c_VM_returnFromCall 14 = .ok (.getfield 26, 3) := by decide +kernel
theorem d_VM_returnFromCall_17 : decode c_VM_returnFromCall 17 = .ok (.invokevirtual 317, 3) := by decide +kernel
theorem d_VM_returnFromCall_20 : decode c_VM_returnFromCall 20 = .ok (.ifCond .ne 6, 3) := by decide +kernel
theorem d_VM_returnFromCall_23 : decode c_VM_returnFromCall 23 = .ok (.bipush 7, 2) := by decide +kernel
theorem d_VM_returnFromCall_25 : decode c_VM_returnFromCall 25 = .ok (.ireturn, 1) := by decide +kernel
theorem d_VM_returnFromCall_26 : decode c_VM_returnFromCall 26 = .ok (.aload_n 0, 1) := by decide +kernel
theorem d_VM_returnFromCall_27 : decode c_VM_returnFromCall 27 = .ok (.getfield 19, 3) := by decide +kernel
theorem d_VM_returnFromCall_30 : decode c_VM_returnFromCall 30 = .ok (.iload_n 1, 1) := by decide +kernel
theorem d_VM_returnFromCall_31 : decode c_VM_returnFromCall 31 = .ok (.invokevirtual 259, 3) := by decide +kernel
theorem d_VM_returnFromCall_34 : decode c_VM_returnFromCall 34 = .ok (.aload_n 0, 1) := by decide +kernel
theorem d_VM_returnFromCall_35 : decode c_VM_returnFromCall 35 = .ok (.getfield 26, 3) := by decide +kernel
theorem d_VM_returnFromCall_38 : decode c_VM_returnFromCall 38 = .ok (.dup, 1) := by decide +kernel
theorem d_VM_returnFromCall_39 : decode c_VM_returnFromCall 39 = .ok (.getfield 151, 3) := by decide +kernel
theorem d_VM_returnFromCall_42 : decode c_VM_returnFromCall 42 = .ok (.iconst 1, 1) := by decide +kernel
theorem d_VM_returnFromCall_43 : decode c_VM_returnFromCall 43 = .ok (.isub, 1) := by decide +kernel
theorem d_VM_returnFromCall_44 : decode c_VM_returnFromCall 44 = .ok (.putfield 151, 3) := by decide +kernel
theorem d_VM_returnFromCall_47 : decode c_VM_returnFromCall 47 = .ok (.aload_n 0, 1) := by decide +kernel
theorem d_VM_returnFromCall_48 : decode c_VM_returnFromCall 48 = .ok (.aload_n 0, 1) := by decide +kernel
theorem d_VM_returnFromCall_49 : decode c_VM_returnFromCall 49 = .ok (.getfield 26, 3) := by decide +kernel
theorem d_VM_returnFromCall_52 : decode c_VM_returnFromCall 52 = .ok (.aload_n 0, 1) := by decide +kernel
theorem d_VM_returnFromCall_53 : decode c_VM_returnFromCall 53 = .ok (.getfield 26, 3) := by decide +kernel
theorem d_VM_returnFromCall_56 : decode c_VM_returnFromCall 56 = .ok (.getfield 151, 3) := by decide +kernel
theorem d_VM_returnFromCall_59 : decode c_VM_returnFromCall 59 = .ok (.invokevirtual 167, 3) := by decide +kernel
theorem d_VM_returnFromCall_62 : decode c_VM_returnFromCall 62 = .ok (.putfield 57, 3) := by decide +kernel
theorem d_VM_returnFromCall_65 : decode c_VM_returnFromCall 65 = .ok (.iconst 0, 1) := by decide +kernel
theorem d_VM_returnFromCall_66 : decode c_VM_returnFromCall 66 = .ok (.ireturn, 1) := by decide +kernel
theorem d_Notes_addTrap_0 : decode c_Notes_addTrap 0 = .ok (.aload_n 0, 1) := by decide +kernel
theorem d_Notes_addTrap_1 : decode c_Notes_addTrap 1 = .ok (.iload_n 1, 1) := by decide +kernel
theorem d_Notes_addTrap_2 : decode c_Notes_addTrap 2 = .ok (.iload_n 2, 1) := by decide +kernel
theorem d_Notes_addTrap_3 : decode c_Notes_addTrap 3 = .ok (.invokevirtual 22, 3) := by decide +kernel
theorem d_Notes_addTrap_6 : decode c_Notes_addTrap 6 = .ok (.return_, 1) := by decide +kernel
theorem d_VM_noteTrap_0 : decode c_VM_noteTrap 0 = .ok (.aload_n 0, 1) := by decide +kernel
theorem d_VM_noteTrap_1 : decode c_VM_noteTrap 1 = .ok (.getfield 26, 3) := by decide +kernel
theorem d_VM_noteTrap_4 : decode c_VM_noteTrap 4 = .ok (.invokevirtual 313, 3) := by decide +kernel
theorem d_VM_noteTrap_7 : decode c_VM_noteTrap 7 = .ok (.ifCond .eq 5, 3) := by decide +kernel
theorem d_VM_noteTrap_10 : decode c_VM_noteTrap 10 = .ok (.iconst 4, 1) := by decide +kernel
theorem d_VM_noteTrap_11 : decode c_VM_noteTrap 11 = .ok (.ireturn, 1) := by decide +kernel
theorem d_VM_noteTrap_12 : decode c_VM_noteTrap 12 = .ok (.aload_n 0, 1) := by decide +kernel
theorem d_VM_noteTrap_13 : decode c_VM_noteTrap 13 = .ok (.getfield 10, 3) := by decide +kernel
theorem d_VM_noteTrap_16 : decode c_VM_noteTrap 16 = .ok (.iload_n 1, 1) := by decide +kernel
theorem d_VM_noteTrap_17 : decode c_VM_noteTrap 17 = .ok (.invokevirtual 287, 3) := by decide +kernel
theorem d_VM_noteTrap_20 : decode c_VM_noteTrap 20 = .ok (.ifCond .ne 6, 3) := by decide +kernel
theorem d_VM_noteTrap_23 : decode c_VM_noteTrap 23 = .ok (.bipush 8, 2) := by decide +kernel
theorem d_VM_noteTrap_25 : decode c_VM_noteTrap 25 = .ok (.ireturn, 1) := by decide +kernel
theorem d_VM_noteTrap_26 : decode c_VM_noteTrap 26 = .ok (.aload_n 0, 1) := by decide +kernel
theorem d_VM_noteTrap_27 : decode c_VM_noteTrap 27 = .ok (.getfield 26, 3) := by decide +kernel
theorem d_VM_noteTrap_30 : decode c_VM_noteTrap 30 = .ok (.iload_n 1, 1) := by decide +kernel
theorem d_VM_noteTrap_31 : decode c_VM_noteTrap 31 = .ok (.aload_n 0, 1) := by decide +kernel
theorem d_VM_noteTrap_32 : decode c_VM_noteTrap 32 = .ok (.getfield 19, 3) := by decide +kernel
theorem d_VM_noteTrap_35 : decode c_VM_noteTrap 35 = .ok (.getfield 148, 3) := by decide +kernel
theorem d_VM_noteTrap_38 : decode c_VM_noteTrap 38 = .ok (.invokevirtual 320, 3) := by decide +kernel
theorem d_VM_noteTrap_41 : decode c_VM_noteTrap 41 = .ok (.iconst 0, 1) := by decide +kernel
theorem d_VM_noteTrap_42 : decode c_VM_noteTrap 42 = .ok (.ireturn, 1) := by decide +kernel
