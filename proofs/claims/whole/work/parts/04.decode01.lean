theorem d_VM_setGlobal_0 : decode c_VM_setGlobal 0 = .ok (.iload_n 1, 1) := by decide +kernel
theorem d_VM_setGlobal_1 : decode c_VM_setGlobal 1 = .ok (.invokestatic 124, 3) := by decide +kernel
theorem d_VM_setGlobal_4 : decode c_VM_setGlobal 4 = .ok (.ifCond .ne 6, 3) := by decide +kernel
theorem d_VM_setGlobal_7 : decode c_VM_setGlobal 7 = .ok (.bipush 8, 2) := by decide +kernel
theorem d_VM_setGlobal_9 : decode c_VM_setGlobal 9 = .ok (.ireturn, 1) := by decide +kernel
theorem d_VM_setGlobal_10 : decode c_VM_setGlobal 10 = .ok (.aload_n 0, 1) := by decide +kernel
theorem d_VM_setGlobal_11 : decode c_VM_setGlobal 11 = .ok (.getfield 37, 3) := by decide +kernel
theorem d_VM_setGlobal_14 : decode c_VM_setGlobal 14 = .ok (.iload_n 1, 1) := by decide +kernel
theorem d_VM_setGlobal_15 : decode c_VM_setGlobal 15 = .ok (.aload_n 0, 1) := by decide +kernel
theorem d_VM_setGlobal_16 : decode c_VM_setGlobal 16 = .ok (.getfield 43, 3) := by decide +kernel
theorem d_VM_setGlobal_19 : decode c_VM_setGlobal 19 = .ok (.lastore, 1) := by decide +kernel
theorem d_VM_setGlobal_20 : decode c_VM_setGlobal 20 = .ok (.iconst 0, 1) := by decide +kernel
theorem d_VM_setGlobal_21 : decode c_VM_setGlobal 21 = .ok (.ireturn, 1) := by decide +kernel
theorem d_Store_setPart_0 : decode c_Store_setPart 0 = .ok (.aload_n 0, 1) := by decide +kernel
theorem d_Store_setPart_1 : decode c_Store_setPart 1 = .ok (.getfield 9, 3) := by decide +kernel
theorem d_Store_setPart_4 : decode c_Store_setPart 4 = .ok (.lload_n 1, 1) := by decide +kernel
theorem d_Store_setPart_5 : decode c_Store_setPart 5 = .ok (.invokestatic 50, 3) := by decide +kernel
theorem d_Store_setPart_8 : decode c_Store_setPart 8 = .ok (.bipush 20, 2) := by decide +kernel
theorem d_Store_setPart_10 : decode c_Store_setPart 10 = .ok (.imul, 1) := by decide +kernel
theorem d_Store_setPart_11 : decode c_Store_setPart 11 = .ok (.iload_n 3, 1) := by decide +kernel
theorem d_Store_setPart_12 : decode c_Store_setPart 12 = .ok (.iadd, 1) := by decide +kernel
theorem d_Store_setPart_13 : decode c_Store_setPart 13 = .ok (.lload 4, 2) := by decide +kernel
theorem d_Store_setPart_15 : decode c_Store_setPart 15 = .ok (.lastore, 1) := by decide +kernel
theorem d_Store_setPart_16 : decode c_Store_setPart 16 = .ok (.return_, 1) := by decide +kernel
theorem d_VM_setField_0 : decode c_VM_setField 0 = .ok (.aload_n 0, 1) := by decide +kernel
theorem d_VM_setField_1 : decode c_VM_setField 1 = .ok (.getfield 19, 3) := by decide +kernel
theorem d_VM_setField_4 : decode c_VM_setField 4 = .ok (.iconst 1, 1) := by decide +kernel
theorem d_VM_setField_5 : decode c_VM_setField 5 = .ok (.invokevirtual 263, 3) := by decide +kernel
theorem d_VM_setField_8 : decode c_VM_setField 8 = .ok (.ifCond .ne 5, 3) := by decide +kernel
theorem d_VM_setField_11 : decode c_VM_setField 11 = .ok (.iconst 3, 1) := by decide +kernel
theorem d_VM_setField_12 : decode c_VM_setField 12 = .ok (.ireturn, 1) := by decide +kernel
theorem d_VM_setField_13 : decode c_VM_setField 13 = .ok (.aload_n 0, 1) := by decide +kernel
theorem d_VM_setField_14 : decode c_VM_setField 14 = .ok (.getfield 19, 3) := by decide +kernel
theorem d_VM_setField_17 : decode c_VM_setField 17 = .ok (.iconst 0, 1) := by decide +kernel
theorem d_VM_setField_18 : decode c_VM_setField 18 = .ok (.invokevirtual 121, 3) := by decide +kernel
theorem d_VM_setField_21 : decode c_VM_setField 21 = .ok (.lstore_n 2, 1) := by decide +kernel
theorem d_VM_setField_22 : decode c_VM_setField 22 = .ok (.lload_n 2, 1) := by decide +kernel
theorem d_VM_setField_23 : decode c_VM_setField 23 = .ok (.invokestatic 139, 3) := by decide +kernel
theorem d_VM_setField_26 : decode c_VM_setField 26 = .ok (.iconst 4, 1) := by decide +kernel
theorem d_VM_setField_27 : decode c_VM_setField 27 = .ok (.if_icmp .eq 5, 3) := by decide +kernel
theorem d_VM_setField_30 : decode c_VM_setField 30 = .ok (.iconst 1, 1) := by decide +kernel
theorem d_VM_setField_31 : decode c_VM_setField 31 = .ok (.ireturn, 1) := by decide +kernel
theorem d_VM_setField_32 : decode c_VM_setField 32 = .ok (.aload_n 0, 1) := by decide +kernel
theorem d_VM_setField_33 : decode c_VM_setField 33 = .ok (.getfield 33, 3) := by decide +kernel
theorem d_VM_setField_36 : decode c_VM_setField 36 = .ok (.lload_n 2, 1) := by decide +kernel
theorem d_VM_setField_37 : decode c_VM_setField 37 = .ok (.iload_n 1, 1) := by decide +kernel
theorem d_VM_setField_38 : decode c_VM_setField 38 = .ok (.invokevirtual 131, 3) := by decide +kernel
theorem d_VM_setField_41 : decode c_VM_setField 41 = .ok (.ifCond .ne 6, 3) := by decide +kernel
theorem d_VM_setField_44 : decode c_VM_setField 44 = .ok (.bipush 8, 2) := by decide +kernel
theorem d_VM_setField_46 : decode c_VM_setField 46 = .ok (.ireturn, 1) := by decide +kernel
theorem d_VM_setField_47 : decode c_VM_setField 47 = .ok (.aload_n 0, 1) := by decide +kernel
theorem d_VM_setField_48 : decode c_VM_setField 48 = .ok (.getfield 33, 3) := by decide +kernel
theorem d_VM_setField_51 : decode c_VM_setField 51 = .ok (.lload_n 2, 1) := by decide +kernel
theorem d_VM_setField_52 : decode c_VM_setField 52 = .ok (.iload_n 1, 1) := by decide +kernel
theorem d_VM_setField_53 : decode c_VM_setField 53 = .ok (.aload_n 0, 1) := by decide +kernel
theorem d_VM_setField_54 : decode c_VM_setField 54 = .ok (.getfield 43, 3) := by decide +kernel
theorem d_VM_setField_57 : decode c_VM_setField 57 = .ok (.invokevirtual 276, 3) := by decide +kernel
theorem d_VM_setField_60 : decode c_VM_setField 60 = .ok (.aload_n 0, 1) := by decide +kernel
theorem d_VM_setField_61 : decode c_VM_setField 61 = .ok (.getfield 19, 3) := by decide +kernel
theorem d_VM_setField_64 : decode c_VM_setField 64 = .ok (.iconst 1, 1) := by decide +kernel
theorem d_VM_setField_65 : decode c_VM_setField 65 = .ok (.invokevirtual 259, 3) := by decide +kernel
theorem d_VM_setField_68 : decode c_VM_setField 68 = .ok (.iconst 0, 1) := by decide +kernel
theorem d_VM_setField_69 : decode c_VM_setField 69 = .ok (.ireturn, 1) := by decide +kernel
theorem d_VM_setElement_0 : decode c_VM_setElement 0 = .ok (.aload_n 0, 1) := by decide +kernel
theorem d_VM_setElement_1 : decode c_VM_setElement 1 = .ok (.getfield 19, 3) := by decide +kernel
theorem d_VM_setElement_4 : decode c_VM_setElement 4 = .ok (.iconst 2, 1) := by decide +kernel
theorem d_VM_setElement_5 : decode c_VM_setElement 5 = .ok (.invokevirtual 263, 3) := by decide +kernel
theorem d_VM_setElement_8 : decode c_VM_setElement 8 = .ok (.ifCond .ne 5, 3) := by decide +kernel
theorem d_VM_setElement_11 : decode c_VM_setElement 11 = .ok (.iconst 3, 1) := by decide +kernel
theorem d_VM_setElement_12 : decode c_VM_setElement 12 = .ok (.ireturn, 1) := by decide +kernel
theorem d_VM_setElement_13 : decode c_VM_setElement 13 = .ok (.aload_n 0, 1) := by decide +kernel
theorem d_VM_setElement_14 : decode c_VM_setElement 14 = .ok (.getfield 19, 3) := by decide +kernel
theorem d_VM_setElement_17 : decode c_VM_setElement 17 = .ok (.iconst 1, 1) := by decide +kernel
theorem d_VM_setElement_18 : decode c_VM_setElement 18 = .ok (.invokevirtual 121, 3) := by decide +kernel
theorem d_VM_setElement_21 : decode c_VM_setElement 21 = .ok (.lstore_n 1, 1) := by decide +kernel
theorem d_VM_setElement_22 : decode c_VM_setElement 22 = .ok (.aload_n 0, 1) := by decide +kernel
theorem d_VM_setElement_23 : decode c_VM_setElement 23 = .ok (.getfield 19, 3) := by decide +kernel
theorem d_VM_setElement_26 : decode c_VM_setElement 26 = .ok (.iconst 0, 1) := by decide +kernel
theorem d_VM_setElement_27 : decode c_VM_setElement 27 = .ok (.invokevirtual 121, 3) := by decide +kernel
theorem d_VM_setElement_30 : decode c_VM_setElement 30 = .ok (.lstore_n 3, 1) := by decide +kernel
theorem d_VM_setElement_31 : decode c_VM_setElement 31 = .ok (.aload_n 0, 1) := by decide +kernel
theorem d_VM_setElement_32 : decode c_VM_setElement 32 = .ok (.lload_n 1, 1) := by decide +kernel
theorem d_VM_setElement_33 : decode c_VM_setElement 33 = .ok (.lload_n 3, 1) := by decide +kernel
theorem d_VM_setElement_34 : decode c_VM_setElement 34 = .ok (.invokevirtual 266, 3) := by decide +kernel
theorem d_VM_setElement_37 : decode c_VM_setElement 37 = .ok (.istore 5, 2) := by decide +kernel
theorem d_VM_setElement_39 : decode c_VM_setElement 39 = .ok (.iload 5, 2) := by decide +kernel
theorem d_VM_setElement_41 : decode c_VM_setElement 41 = .ok (.ifCond .eq 6, 3) := by decide +kernel
theorem d_VM_setElement_44 : decode c_VM_setElement 44 = .ok (.iload 5, 2) := by decide +kernel
theorem d_VM_setElement_46 : decode c_VM_setElement 46 = .ok (.ireturn, 1) := by decide +kernel
theorem d_VM_setElement_47 : decode c_VM_setElement 47 = .ok (.aload_n 0, 1) := by decide +kernel
theorem d_VM_setElement_48 : decode c_VM_setElement 48 = .ok (.getfield 33, 3) := by decide +kernel
theorem d_VM_setElement_51 : decode c_VM_setElement 51 = .ok (.lload_n 1, 1) := by decide +kernel
theorem d_VM_setElement_52 : decode c_VM_setElement 52 = .ok (.lload_n 3, 1) := by decide +kernel
theorem d_VM_setElement_53 : decode c_VM_setElement 53 = .ok (.invokestatic 142, 3) := by decide +kernel
theorem d_VM_setElement_56 : decode c_VM_setElement 56 = .ok (.aload_n 0, 1) := by decide +kernel
theorem d_VM_setElement_57 : decode c_VM_setElement 57 = .ok (.getfield 43, 3) := by decide +kernel
theorem d_VM_setElement_60 : decode c_VM_setElement 60 = .ok (.invokevirtual 276, 3) := by decide +kernel
theorem d_VM_setElement_63 : decode c_VM_setElement 63 = .ok (.aload_n 0, 1) := by decide +kernel
theorem d_VM_setElement_64 : decode c_VM_setElement 64 = .ok (.getfield 19, 3) := by decide +kernel
theorem d_VM_setElement_67 : decode c_VM_setElement 67 = .ok (.iconst 2, 1) := by decide +kernel
theorem d_VM_setElement_68 : decode c_VM_setElement 68 = .ok (.invokevirtual 259, 3) := by decide +kernel
theorem d_VM_setElement_71 : decode c_VM_setElement 71 = .ok (.iconst 0, 1) := by decide +kernel
theorem d_VM_setElement_72 : decode c_VM_setElement 72 = .ok (.ireturn, 1) := by decide +kernel
theorem d_ValueStack_isFull_0 : decode c_ValueStack_isFull 0 = .ok (.aload_n 0, 1) := by decide +kernel
theorem d_ValueStack_isFull_1 : decode c_ValueStack_isFull 1 = .ok (.getfield 13, 3) := by decide +kernel
theorem d_ValueStack_isFull_4 : decode c_ValueStack_isFull 4 = .ok (.bipush 120, 2) := by decide +kernel
theorem d_ValueStack_isFull_6 : decode c_ValueStack_isFull 6 = .ok (.if_icmp .lt 7, 3) := by decide +kernel
theorem d_ValueStack_isFull_9 : decode c_ValueStack_isFull 9 = .ok (.iconst 1, 1) := by decide +kernel
theorem d_ValueStack_isFull_10 : decode c_ValueStack_isFull 10 = .ok (.goto 4, 3) := by decide +kernel
theorem d_ValueStack_isFull_13 : decode c_ValueStack_isFull 13 = .ok (.iconst 0, 1) := by decide +kernel
theorem d_ValueStack_isFull_14 : decode c_ValueStack_isFull 14 = .ok (.ireturn, 1) := by decide +kernel
theorem d_ValueStack_push_0 : decode c_ValueStack_push 0 = .ok (.aload_n 0, 1) := by decide +kernel
theorem d_ValueStack_push_1 : decode c_ValueStack_push 1 = .ok (.getfield 9, 3) := by decide +kernel
theorem d_ValueStack_push_4 : decode c_ValueStack_push 4 = .ok (.aload_n 0, 1) := by decide +kernel
theorem d_ValueStack_push_5 : decode c_ValueStack_push 5 = .ok (.getfield 13, 3) := by decide +kernel
theorem d_ValueStack_push_8 : decode c_ValueStack_push 8 = .ok (.lload_n 1, 1) := by decide +kernel
theorem d_ValueStack_push_9 : decode c_ValueStack_push 9 = .ok (.lastore, 1) := by decide +kernel
theorem d_ValueStack_push_10 : decode c_ValueStack_push 10 = .ok (.aload_n 0, 1) := by decide +kernel
theorem d_ValueStack_push_11 : decode c_ValueStack_push 11 = .ok (.dup, 1) := by decide +kernel
theorem d_ValueStack_push_12 : decode c_ValueStack_push 12 = .ok (.getfield 13, 3) := by decide +kernel
theorem d_ValueStack_push_15 : decode c_ValueStack_push 15 = .ok (.iconst 1, 1) := by decide +kernel
theorem d_ValueStack_push_16 : decode c_ValueStack_push 16 = .ok (.iadd, 1) := by decide +kernel
theorem d_ValueStack_push_17 : decode c_ValueStack_push 17 = .ok (.putfield 13, 3) := by decide +kernel
theorem d_ValueStack_push_20 : decode c_ValueStack_push 20 = .ok (.return_, 1) := by decide +kernel
theorem d_VM_push_0 : decode c_VM_push 0 = .ok (.aload_n 0, 1) := by decide +kernel
theorem d_VM_push_1 : decode c_VM_push 1 = .ok (.getfield 19, 3) := by decide +kernel
theorem d_VM_push_4 : decode c_VM_push 4 = .ok (.invokevirtual 280, 3) := by decide +kernel
theorem d_VM_push_7 : decode c_VM_push 7 = .ok (.ifCond .eq 5, 3) := by decide +kernel
theorem d_VM_push_10 : decode c_VM_push 10 = .ok (.iconst 4, 1) := by decide +kernel
theorem d_VM_push_11 : decode c_VM_push 11 = .ok (.ireturn, 1) := by decide +kernel
theorem d_VM_push_12 : decode c_VM_push 12 = .ok (.aload_n 0, 1) := by decide +kernel
theorem d_VM_push_13 : decode c_VM_push 13 = .ok (.getfield 19, 3) := by decide +kernel
theorem d_VM_push_16 : decode c_VM_push 16 = .ok (.aload_n 0, 1) := by decide +kernel
theorem d_VM_push_17 : decode c_VM_push 17 = .ok (.getfield 43, 3) := by decide +kernel
theorem d_VM_push_20 : decode c_VM_push 20 = .ok (.invokevirtual 284, 3) := by decide +kernel
theorem d_VM_push_23 : decode c_VM_push 23 = .ok (.iconst 0, 1) := by decide +kernel
theorem d_VM_push_24 : decode c_VM_push 24 = .ok (.ireturn, 1) := by decide +kernel
theorem d_VM_pop_0 : decode c_VM_pop 0 = .ok (.aload_n 0, 1) := by decide +kernel
theorem d_VM_pop_1 : decode c_VM_pop 1 = .ok (.getfield 19, 3) := by decide +kernel
theorem d_VM_pop_4 : decode c_VM_pop 4 = .ok (.iload_n 1, 1) := by decide +kernel
theorem d_VM_pop_5 : decode c_VM_pop 5 = .ok (.invokevirtual 263, 3) := by decide +kernel
theorem d_VM_pop_8 : decode c_VM_pop 8 = .ok (.ifCond .ne 5, 3) := by decide +kernel
theorem d_VM_pop_11 : decode c_VM_pop 11 = .ok (.iconst 3, 1) := by decide +kernel
theorem d_VM_pop_12 : decode c_VM_pop 12 = .ok (.ireturn, 1) := by decide +kernel
theorem d_VM_pop_13 : decode c_VM_pop 13 = .ok (.aload_n 0, 1) := by decide +kernel
theorem d_VM_pop_14 : decode c_VM_pop 14 = .ok (.getfield 19, 3) := by decide +kernel
theorem d_VM_pop_17 : decode c_VM_pop 17 = .ok (.iload_n 1, 1) := by decide +kernel
theorem d_VM_pop_18 : decode c_VM_pop 18 = .ok (.invokevirtual 259, 3) := by decide +kernel
theorem d_VM_pop_21 : decode c_VM_pop 21 = .ok (.iconst 0, 1) := by decide +kernel
theorem d_VM_pop_22 : decode c_VM_pop 22 = .ok (.ireturn, 1) := by decide +kernel
theorem d_Code_hasPlace_0 : decode c_Code_hasPlace 0 = .ok (.iload_n 1, 1) := by decide +kernel
theorem d_Code_hasPlace_1 : decode c_Code_hasPlace 1 = .ok (.ifCond .lt 15, 3) := by decide +kernel
theorem d_Code_hasPlace_4 : decode c_Code_hasPlace 4 = .ok (.iload_n 1, 1) := by decide +kernel
theorem d_Code_hasPlace_5 : decode c_Code_hasPlace 5 = .ok (.aload_n 0, 1) := by decide +kernel
theorem d_Code_hasPlace_6 : decode c_Code_hasPlace 6 = .ok (.getfield 16, 3) := by decide +kernel
theorem d_Code_hasPlace_9 : decode c_Code_hasPlace 9 = .ok (.if_icmp .gt 7, 3) := by decide +kernel
theorem d_Code_hasPlace_12 : decode c_Code_hasPlace 12 = .ok (.iconst 1, 1) := by decide +kernel
theorem d_Code_hasPlace_13 : decode c_Code_hasPlace 13 = .ok (.goto 4, 3) := by decide +kernel
theorem d_Code_hasPlace_16 : decode c_Code_hasPlace 16 = .ok (.iconst 0, 1) := by decide +kernel
theorem d_Code_hasPlace_17 : decode c_Code_hasPlace 17 = .ok (.ireturn, 1) := by decide +kernel
theorem d_VM_goIf_0 : decode c_VM_goIf 0 = .ok (.aload_n 0, 1) := by decide +kernel
theorem d_VM_goIf_1 : decode c_VM_goIf 1 = .ok (.getfield 10, 3) := by decide +kernel
theorem d_VM_goIf_4 : decode c_VM_goIf 4 = .ok (.iload_n 2, 1) := by decide +kernel
theorem d_VM_goIf_5 : decode c_VM_goIf 5 = .ok (.invokevirtual 287, 3) := by decide +kernel
theorem d_VM_goIf_8 : decode c_VM_goIf 8 = .ok (.ifCond .ne 6, 3) := by decide +kernel
theorem d_VM_goIf_11 : decode c_VM_goIf 11 = .ok (.bipush 8, 2) := by decide +kernel
theorem d_VM_goIf_13 : decode c_VM_goIf 13 = .ok (.ireturn, 1) := by decide +kernel
theorem d_VM_goIf_14 : decode c_VM_goIf 14 = .ok (.iload_n 1, 1) := by decide +kernel
theorem d_VM_goIf_15 : decode c_VM_goIf 15 = .ok (.ifCond .eq 8, 3) := by decide +kernel
theorem d_VM_goIf_18 : decode c_VM_goIf 18 = .ok (.aload_n 0, 1) := by decide +kernel
theorem d_VM_goIf_19 : decode c_VM_goIf 19 = .ok (.iload_n 2, 1) := by decide +kernel
theorem d_VM_goIf_20 : decode c_VM_goIf 20 = .ok (.putfield 57, 3) := by decide +kernel
theorem d_VM_goIf_23 : decode c_VM_goIf 23 = .ok (.iconst 0, 1) := by decide +kernel
theorem d_VM_goIf_24 : decode c_VM_goIf 24 = .ok (.ireturn, 1) := by decide +kernel
theorem d_Value_truth_0 : decode c_Value_truth 0 = .ok (.iload_n 0, 1) := by decide +kernel
theorem d_Value_truth_1 : decode c_Value_truth 1 = .ok (.ifCond .eq 9, 3) := by decide +kernel
theorem d_Value_truth_4 : decode c_Value_truth 4 = .ok (.ldc2_w 15, 3) := by decide +kernel
theorem d_Value_truth_7 : decode c_Value_truth 7 = .ok (.goto 6, 3) := by decide +kernel
theorem d_Value_truth_10 : decode c_Value_truth 10 = .ok (.ldc2_w 17, 3) := by decide +kernel
theorem d_Value_truth_13 : decode c_Value_truth 13 = .ok (.lreturn, 1) := by decide +kernel
theorem d_VM_compareSame_0 : decode c_VM_compareSame 0 = .ok (.aload_n 0, 1) := by decide +kernel
theorem d_VM_compareSame_1 : decode c_VM_compareSame 1 = .ok (.getfield 19, 3) := by decide +kernel
theorem d_VM_compareSame_4 : decode c_VM_compareSame 4 = .ok (.iconst 1, 1) := by decide +kernel
theorem d_VM_compareSame_5 : decode c_VM_compareSame 5 = .ok (.invokevirtual 263, 3) := by decide +kernel
theorem d_VM_compareSame_8 : decode c_VM_compareSame 8 = .ok (.ifCond .eq 34, 3) := by decide +kernel
theorem d_VM_compareSame_11 : decode c_VM_compareSame 11 = .ok (.aload_n 0, 1) := by decide +kernel
theorem d_VM_compareSame_12 : decode c_VM_compareSame 12 = .ok (.aload_n 0, 1) := by decide +kernel
theorem d_VM_compareSame_13 : decode c_VM_compareSame 13 = .ok (.getfield 19, 3) := by decide +kernel
theorem d_VM_compareSame_16 : decode c_VM_compareSame 16 = .ok (.iconst 0, 1) := by decide +kernel
theorem d_VM_compareSame_17 : decode c_VM_compareSame 17 = .ok (.invokevirtual 121, 3) := by decide +kernel
theorem d_VM_compareSame_20 : decode c_VM_compareSame 20 = .ok (.aload_n 0, 1) := by decide +kernel
theorem d_VM_compareSame_21 : decode c_VM_compareSame 21 = .ok (.getfield 43, 3) := by decide +kernel
theorem d_VM_compareSame_24 : decode c_VM_compareSame 24 = .ok (.lcmp, 1) := by decide +kernel
theorem d_VM_compareSame_25 : decode c_VM_compareSame 25 = .ok (.ifCond .ne 7, 3) := by decide +kernel
theorem d_VM_compareSame_28 : decode c_VM_compareSame 28 = .ok (.iconst 1, 1) := by decide +kernel
theorem d_VM_compareSame_29 : decode c_VM_compareSame 29 = .ok (.goto 4, 3) := by decide +kernel
theorem d_VM_compareSame_32 : decode c_VM_compareSame 32 = .ok (.iconst 0, 1) := by decide +kernel
theorem d_VM_compareSame_33 : decode c_VM_compareSame 33 = .ok (.invokestatic 234, 3) := by decide +kernel
theorem d_VM_compareSame_36 : decode c_VM_compareSame 36 = .ok (.invokevirtual 270, 3) := by decide +kernel
theorem d_VM_compareSame_39 : decode c_VM_compareSame 39 = .ok (.goto 4, 3) := by decide +kernel
theorem d_VM_compareSame_42 : decode c_VM_compareSame 42 = .ok (.iconst 3, 1) := by decide +kernel
theorem d_VM_compareSame_43 : decode c_VM_compareSame 43 = .ok (.ireturn, 1) := by decide +kernel
theorem d_VM_integersFault_0 : decode c_VM_integersFault 0 = .ok (.aload_n 0, 1) := by decide +kernel
theorem d_VM_integersFault_1 : decode c_VM_integersFault 1 = .ok (.getfield 19, 3) := by decide +kernel
theorem d_VM_integersFault_4 : decode c_VM_integersFault 4 = .ok (.iconst 1, 1) := by decide +kernel
theorem d_VM_integersFault_5 : decode c_VM_integersFault 5 = .ok (.invokevirtual 263, 3) := by decide +kernel
theorem d_VM_integersFault_8 : decode c_VM_integersFault 8 = .ok (.ifCond .ne 5, 3) := by decide +kernel
theorem d_VM_integersFault_11 : decode c_VM_integersFault 11 = .ok (.iconst 3, 1) := by decide +kernel
theorem d_VM_integersFault_12 : decode c_VM_integersFault 12 = .ok (.ireturn, 1) := by decide +kernel
theorem d_VM_integersFault_13 : decode c_VM_integersFault 13 = .ok (.aload_n 0, 1) := by decide +kernel
theorem d_VM_integersFault_14 : decode c_VM_integersFault 14 = .ok (.getfield 19, 3) := by decide +kernel
theorem d_VM_integersFault_17 : decode c_VM_integersFault 17 = .ok (.iconst 0, 1) := by decide +kernel
theorem d_VM_integersFault_18 : decode c_VM_integersFault 18 = .ok (.invokevirtual 121, 3) := by decide +kernel
theorem d_VM_integersFault_21 : decode c_VM_integersFault 21 = .ok (.invokestatic 139, 3) := by decide +kernel
theorem d_VM_integersFault_24 : decode c_VM_integersFault 24 = .ok (.iconst 3, 1) := by decide +kernel
theorem d_VM_integersFault_25 : decode c_VM_integersFault 25 = .ok (.if_icmp .ne 18, 3) := by decide +kernel
theorem d_VM_integersFault_28 : decode c_VM_integersFault 28 = .ok (.aload_n 0, 1) := by decide +kernel
theorem d_VM_integersFault_29 : decode c_VM_integersFault 29 = .ok (.getfield 43, 3) := by decide +kernel
theorem d_VM_integersFault_32 : decode c_VM_integersFault 32 = .ok (.invokestatic 139, 3) := by decide +kernel
theorem d_VM_integersFault_35 : decode c_VM_integersFault 35 = .ok (.iconst 3, 1) := by decide +kernel
theorem d_VM_integersFault_36 : decode c_VM_integersFault 36 = .ok (.if_icmp .ne 7, 3) := by decide +kernel
theorem d_VM_integersFault_39 : decode c_VM_integersFault 39 = .ok (.iconst 1, 1) := by decide +kernel
theorem d_VM_integersFault_40 : decode c_VM_integersFault 40 = .ok (.goto 4, 3) := by decide +kernel
theorem d_VM_integersFault_43 : decode c_VM_integersFault 43 = .ok (.iconst 0, 1) := by decide +kernel
theorem d_VM_integersFault_44 : decode c_VM_integersFault 44 = .ok (.istore_n 1, 1) := by decide +kernel
theorem d_VM_integersFault_45 : decode c_VM_integersFault 45 = .ok (.iload_n 1, 1) := by decide +kernel
theorem d_VM_integersFault_46 : decode c_VM_integersFault 46 = .ok (.ifCond .eq 7, 3) := by decide +kernel
theorem d_VM_integersFault_49 : decode c_VM_integersFault 49 = .ok (.iconst 0, 1) := by decide +kernel
theorem d_VM_integersFault_50 : decode c_VM_integersFault 50 = .ok (.goto 4, 3) := by decide +kernel
theorem d_VM_integersFault_53 : decode c_VM_integersFault 53 = .ok (.iconst 1, 1) := by decide +kernel
theorem d_VM_integersFault_54 : decode c_VM_integersFault 54 = .ok (.ireturn, 1) := by decide +kernel
theorem d_VM_compareLess_0 : decode c_VM_compareLess 0 = .ok (.aload_n 0, 1) := by decide +kernel
theorem d_VM_compareLess_1 : decode c_VM_compareLess 1 = .ok (.invokevirtual 290, 3) := by decide +kernel
theorem d_VM_compareLess_4 : decode c_VM_compareLess 4 = .ok (.istore_n 1, 1) := by decide +kernel
theorem d_VM_compareLess_5 : decode c_VM_compareLess 5 = .ok (.iload_n 1, 1) := by decide +kernel
theorem d_VM_compareLess_6 : decode c_VM_compareLess 6 = .ok (.ifCond .eq 5, 3) := by decide +kernel
theorem d_VM_compareLess_9 : decode c_VM_compareLess 9 = .ok (.iload_n 1, 1) := by decide +kernel
theorem d_VM_compareLess_10 : decode c_VM_compareLess 10 = .ok (.ireturn, 1) := by decide +kernel
theorem d_VM_compareLess_11 : decode c_VM_compareLess 11 = .ok (.aload_n 0, 1) := by decide +kernel
theorem d_VM_compareLess_12 : decode c_VM_compareLess 12 = .ok (.aload_n 0, 1) := by decide +kernel
theorem d_VM_compareLess_13 : decode c_VM_compareLess 13 = .ok (.getfield 19, 3) := by decide +kernel
theorem d_VM_compareLess_16 : decode c_VM_compareLess 16 = .ok (.iconst 0, 1) := by decide +kernel
theorem d_VM_compareLess_17 : decode c_VM_compareLess 17 = .ok (.invokevirtual 121, 3) := by decide +kernel
theorem d_VM_compareLess_20 : decode c_VM_compareLess 20 = .ok (.invokestatic 142, 3) := by decide +kernel
theorem d_VM_compareLess_23 : decode c_VM_compareLess 23 = .ok (.aload_n 0, 1) := by decide +kernel
theorem d_VM_compareLess_24 : decode c_VM_compareLess 24 = .ok (.getfield 43, 3) := by decide +kernel
theorem d_VM_compareLess_27 : decode c_VM_compareLess 27 = .ok (.invokestatic 142, 3) := by decide +kernel
theorem d_VM_compareLess_30 : decode c_VM_compareLess 30 = .ok (.if_icmp .ge 7, 3) := by decide +kernel
theorem d_VM_compareLess_33 : decode c_VM_compareLess 33 = .ok (.iconst 1, 1) := by decide +kernel
theorem d_VM_compareLess_34 : decode c_VM_compareLess 34 = .ok (.goto 4, 3) := by decide +kernel
theorem d_VM_compareLess_37 : decode c_VM_compareLess 37 = .ok (.iconst 0, 1) := by decide +kernel
theorem d_VM_compareLess_38 : decode c_VM_compareLess 38 = .ok (.invokestatic 234, 3) := by decide +kernel
theorem d_VM_compareLess_41 : decode c_VM_compareLess 41 = .ok (.invokevirtual 270, 3) := by decide +kernel
theorem d_VM_compareLess_44 : decode c_VM_compareLess 44 = .ok (.ireturn, 1) := by decide +kernel
theorem d_VM_calculate_0 : decode c_VM_calculate 0 = .ok (.aload_n 0, 1) := by decide +kernel
theorem d_VM_calculate_1 : decode c_VM_calculate 1 = .ok (.invokevirtual 290, 3) := by decide +kernel
theorem d_VM_calculate_4 : decode c_VM_calculate 4 = .ok (.istore_n 2, 1) := by decide +kernel
theorem d_VM_calculate_5 : decode c_VM_calculate 5 = .ok (.iload_n 2, 1) := by decide +kernel
theorem d_VM_calculate_6 : decode c_VM_calculate 6 = .ok (.ifCond .eq 5, 3) := by decide +kernel
theorem d_VM_calculate_9 : decode c_VM_calculate 9 = .ok (.iload_n 2, 1) := by decide +kernel
theorem d_VM_calculate_10 : decode c_VM_calculate 10 = .ok (.ireturn, 1) := by decide +kernel
theorem d_VM_calculate_11 : decode c_VM_calculate 11 = .ok (.aload_n 0, 1) := by decide +kernel
theorem d_VM_calculate_12 : decode c_VM_calculate 12 = .ok (.getfield 19, 3) := by decide +kernel
theorem d_VM_calculate_15 : decode c_VM_calculate 15 = .ok (.iconst 0, 1) := by decide +kernel
theorem d_VM_calculate_16 : decode c_VM_calculate 16 = .ok (.invokevirtual 121, 3) := by decide +kernel
theorem d_VM_calculate_19 : decode c_VM_calculate 19 = .ok (.invokestatic 142, 3) := by decide +kernel
theorem d_VM_calculate_22 : decode c_VM_calculate 22 = .ok (.istore_n 3, 1) := by decide +kernel
theorem d_VM_calculate_23 : decode c_VM_calculate 23 = .ok (.aload_n 0, 1) := by decide +kernel
theorem d_VM_calculate_24 : decode c_VM_calculate 24 = .ok (.getfield 43, 3) := by decide +kernel
theorem d_VM_calculate_27 : decode c_VM_calculate 27 = .ok (.invokestatic 142, 3) := by decide +kernel
theorem d_VM_calculate_30 : decode c_VM_calculate 30 = .ok (.istore 4, 2) := by decide +kernel
theorem d_VM_calculate_32 : decode c_VM_calculate 32 = .ok (.iload_n 1, 1) := by decide +kernel
theorem d_VM_calculate_33 : decode c_VM_calculate 33 = .ok (.lookupswitch 51 #[(20, 27), (21, 39)], 27) := by decide +kernel
theorem d_VM_calculate_60 : decode c_VM_calculate 60 = .ok (.aload_n 0, 1) := by decide +kernel
theorem d_VM_calculate_61 : decode c_VM_calculate 61 = .ok (.iload_n 3, 1) := by decide +kernel
theorem d_VM_calculate_62 : decode c_VM_calculate 62 = .ok (.iload 4, 2) := by decide +kernel
theorem d_VM_calculate_64 : decode c_VM_calculate 64 = .ok (.iadd, 1) := by decide +kernel
theorem d_VM_calculate_65 : decode c_VM_calculate 65 = .ok (.invokestatic 105, 3) := by decide +kernel
theorem d_VM_calculate_68 : decode c_VM_calculate 68 = .ok (.invokevirtual 270, 3) := by decide +kernel
theorem d_VM_calculate_71 : decode c_VM_calculate 71 = .ok (.ireturn, 1) := by decide +kernel
theorem d_VM_calculate_72 : decode c_VM_calculate 72 = .ok (.aload_n 0, 1) := by decide +kernel
theorem d_VM_calculate_73 : decode c_VM_calculate 73 = .ok (.iload_n 3, 1) := by decide +kernel
theorem d_VM_calculate_74 : decode c_VM_calculate 74 = .ok (.iload 4, 2) := by decide +kernel
theorem d_VM_calculate_76 : decode c_VM_calculate 76 = .ok (.isub, 1) := by decide +kernel
theorem d_VM_calculate_77 : decode c_VM_calculate 77 = .ok (.invokestatic 105, 3) := by decide +kernel
theorem d_VM_calculate_80 : decode c_VM_calculate 80 = .ok (.invokevirtual 270, 3) := by decide +kernel
theorem d_VM_calculate_83 : decode c_VM_calculate 83 = .ok (.ireturn, 1) := by decide +kernel
theorem d_VM_calculate_84 : decode c_VM_calculate 84 = .ok (.aload_n 0, 1) := by decide +kernel
theorem d_VM_calculate_85 : decode c_VM_calculate 85 = .ok (.iload_n 3, 1) := by decide +kernel
theorem d_VM_calculate_86 : decode c_VM_calculate 86 = .ok (.iload 4, 2) := by decide +kernel
theorem d_VM_calculate_88 : decode c_VM_calculate 88 = .ok (.imul, 1) := by decide +kernel
theorem d_VM_calculate_89 : decode c_VM_calculate 89 = .ok (.invokestatic 105, 3) := by decide +kernel
theorem d_VM_calculate_92 : decode c_VM_calculate 92 = .ok (.invokevirtual 270, 3) := by decide +kernel
theorem d_VM_calculate_95 : decode c_VM_calculate 95 = .ok (.ireturn, 1) := by decide +kernel
theorem d_VM_divide_0 : decode c_VM_divide 0 = .ok (.aload_n 0, 1) := by decide +kernel
theorem d_VM_divide_1 : decode c_VM_divide 1 = .ok (.invokevirtual 290, 3) := by decide +kernel
theorem d_VM_divide_4 : decode c_VM_divide 4 = .ok (.istore_n 2, 1) := by decide +kernel
theorem d_VM_divide_5 : decode c_VM_divide 5 = .ok (.iload_n 2, 1) := by decide +kernel
theorem d_VM_divide_6 : decode c_VM_divide 6 = .ok (.ifCond .eq 5, 3) := by decide +kernel
theorem d_VM_divide_9 : decode c_VM_divide 9 = .ok (.iload_n 2, 1) := by decide +kernel
theorem d_VM_divide_10 : decode c_VM_divide 10 = .ok (.ireturn, 1) := by decide +kernel
theorem d_VM_divide_11 : decode c_VM_divide 11 = .ok (.aload_n 0, 1) := by decide +kernel
theorem d_VM_divide_12 : decode c_VM_divide 12 = .ok (.getfield 19, 3) := by decide +kernel
theorem d_VM_divide_15 : decode c_VM_divide 15 = .ok (.iconst 0, 1) := by decide +kernel
theorem d_VM_divide_16 : decode c_VM_divide 16 = .ok (.invokevirtual 121, 3) := by decide +kernel
theorem d_VM_divide_19 : decode c_VM_divide 19 = .ok (.invokestatic 142, 3) := by decide +kernel
theorem d_VM_divide_22 : decode c_VM_divide 22 = .ok (.istore_n 3, 1) := by decide +kernel
theorem d_VM_divide_23 : decode c_VM_divide 23 = .ok (.aload_n 0, 1) := by decide +kernel
theorem d_VM_divide_24 : decode c_VM_divide 24 = .ok (.getfield 43, 3) := by decide +kernel
theorem d_VM_divide_27 : decode c_VM_divide 27 = .ok (.invokestatic 142, 3) := by decide +kernel
theorem d_VM_divide_30 : decode c_VM_divide 30 = .ok (.istore 4, 2) := by decide +kernel
theorem d_VM_divide_32 : decode c_VM_divide 32 = .ok (.iload 4, 2) := by decide +kernel
theorem d_VM_divide_34 : decode c_VM_divide 34 = .ok (.ifCond .ne 5, 3) := by decide +kernel
theorem d_VM_divide_37 : decode c_VM_divide 37 = .ok (.iconst 5, 1) := by decide +kernel
theorem d_VM_divide_38 : decode c_VM_divide 38 = .ok (.ireturn, 1) := by decide +kernel
theorem d_VM_divide_39 : decode c_VM_divide 39 = .ok (.aload_n 0, 1) := by decide +kernel
theorem d_VM_divide_40 : decode c_VM_divide 40 = .ok (.iload_n 1, 1) := by decide +kernel
theorem d_VM_divide_41 : decode c_VM_divide 41 = .ok (.bipush 23, 2) := by decide +kernel
theorem d_VM_divide_43 : decode c_VM_divide 43 = .ok (.if_icmp .ne 10, 3) := by decide +kernel
theorem d_VM_divide_46 : decode c_VM_divide 46 = .ok (.iload_n 3, 1) := by decide +kernel
theorem d_VM_divide_47 : decode c_VM_divide 47 = .ok (.iload 4, 2) := by decide +kernel
theorem d_VM_divide_49 : decode c_VM_divide 49 = .ok (.idiv, 1) := by decide +kernel
theorem d_VM_divide_50 : decode c_VM_divide 50 = .ok (.goto 7, 3) := by decide +kernel
theorem d_VM_divide_53 : decode c_VM_divide 53 = .ok (.iload_n 3, 1) := by decide +kernel
theorem d_VM_divide_54 : decode c_VM_divide 54 = .ok (.iload 4, 2) := by decide +kernel
theorem d_VM_divide_56 : decode c_VM_divide 56 = .ok (.irem, 1) := by decide +kernel
theorem d_VM_divide_57 : decode c_VM_divide 57 = .ok (.invokestatic 105, 3) := by decide +kernel
theorem d_VM_divide_60 : decode c_VM_divide 60 = .ok (.invokevirtual 270, 3) := by decide +kernel
theorem d_VM_divide_63 : decode c_VM_divide 63 = .ok (.ireturn, 1) := by decide +kernel
theorem d_Store_isFull_0 : decode c_Store_isFull 0 = .ok (.aload_n 0, 1) := by decide +kernel
theorem d_Store_isFull_1 : decode c_Store_isFull 1 = .ok (.getfield 31, 3) := by decide +kernel
theorem d_Store_isFull_4 : decode c_Store_isFull 4 = .ok (.bipush 30, 2) := by decide +kernel
theorem d_Store_isFull_6 : decode c_Store_isFull 6 = .ok (.if_icmp .lt 7, 3) := by decide +kernel
theorem d_Store_isFull_9 : decode c_Store_isFull 9 = .ok (.iconst 1, 1) := by decide +kernel
theorem d_Store_isFull_10 : decode c_Store_isFull 10 = .ok (.goto 4, 3) := by decide +kernel
theorem d_Store_isFull_13 : decode c_Store_isFull 13 = .ok (.iconst 0, 1) := by decide +kernel
theorem d_Store_isFull_14 : decode c_Store_isFull 14 = .ok (.ireturn, 1) := by decide +kernel
theorem d_Store_beginSweep_0 : decode c_Store_beginSweep 0 = .ok (.aload_n 0, 1) := by decide +kernel
theorem d_Store_beginSweep_1 : decode c_Store_beginSweep 1 = .ok (.dup, 1) := by decide +kernel
theorem d_Store_beginSweep_2 : decode c_Store_beginSweep 2 = .ok (.getfield 37, 3) := by decide +kernel
theorem d_Store_beginSweep_5 : decode c_Store_beginSweep 5 = .ok (.iconst 1, 1) := by decide +kernel
theorem d_Store_beginSweep_6 : decode c_Store_beginSweep 6 = .ok (.iadd, 1) := by decide +kernel
theorem d_Store_beginSweep_7 : decode c_Store_beginSweep 7 = .ok (.putfield 37, 3) := by decide +kernel
theorem d_Store_beginSweep_10 : decode c_Store_beginSweep 10 = .ok (.aload_n 0, 1) := by decide +kernel
theorem d_Store_beginSweep_11 : decode c_Store_beginSweep 11 = .ok (.iconst 0, 1) := by decide +kernel
theorem d_Store_beginSweep_12 : decode c_Store_beginSweep 12 = .ok (.putfield 27, 3) := by decide +kernel
theorem d_Store_beginSweep_15 : decode c_Store_beginSweep 15 = .ok (.iconst 0, 1) := by decide +kernel
theorem d_Store_beginSweep_16 : decode c_Store_beginSweep 16 = .ok (.istore_n 1, 1) := by decide +kernel
theorem d_Store_beginSweep_17 : decode c_Store_beginSweep 17 = .ok (.iload_n 1, 1) := by decide +kernel
theorem d_Store_beginSweep_18 : decode c_Store_beginSweep 18 = .ok (.bipush 30, 2) := by decide +kernel
theorem d_Store_beginSweep_20 : decode c_Store_beginSweep 20 = .ok (.if_icmp .ge 16, 3) := by decide +kernel
theorem d_Store_beginSweep_23 : decode c_Store_beginSweep 23 = .ok (.aload_n 0, 1) := by decide +kernel
theorem d_Store_beginSweep_24 : decode c_Store_beginSweep 24 = .ok (.getfield 21, 3) := by decide +kernel
theorem d_Store_beginSweep_27 : decode c_Store_beginSweep 27 = .ok (.iload_n 1, 1) := by decide +kernel
theorem d_Store_beginSweep_28 : decode c_Store_beginSweep 28 = .ok (.iconst 0, 1) := by decide +kernel
theorem d_Store_beginSweep_29 : decode c_Store_beginSweep 29 = .ok (.bastore, 1) := by decide +kernel
theorem d_Store_beginSweep_30 : decode c_Store_beginSweep 30 = .ok (.iinc 1 1, 3) := by decide +kernel
theorem d_Store_beginSweep_33 : decode c_Store_beginSweep 33 = .ok (.goto (-16), 3) := by decide +kernel
theorem d_Store_beginSweep_36 : decode c_Store_beginSweep 36 = .ok (.return_, 1) := by decide +kernel
theorem d_Value_isThing_0 : decode c_Value_isThing 0 = .ok (.lload_n 0, 1) := by decide +kernel
theorem d_Value_isThing_1 : decode c_Value_isThing 1 = .ok (.bipush 32, 2) := by decide +kernel
theorem d_Value_isThing_3 : decode c_Value_isThing 3 = .ok (.lshr, 1) := by decide +kernel
theorem d_Value_isThing_4 : decode c_Value_isThing 4 = .ok (.l2i, 1) := by decide +kernel
theorem d_Value_isThing_5 : decode c_Value_isThing 5 = .ok (.istore_n 2, 1) := by decide +kernel
theorem d_Value_isThing_6 : decode c_Value_isThing 6 = .ok (.iload_n 2, 1) := by decide +kernel
theorem d_Value_isThing_7 : decode c_Value_isThing 7 = .ok (.iconst 4, 1) := by decide +kernel
theorem d_Value_isThing_8 : decode c_Value_isThing 8 = .ok (.if_icmp .eq 8, 3) := by decide +kernel
theorem d_Value_isThing_11 : decode c_Value_isThing 11 = .ok (.iload_n 2, 1) := by decide +kernel
theorem d_Value_isThing_12 : decode c_Value_isThing 12 = .ok (.iconst 5, 1) := by decide +kernel
theorem d_Value_isThing_13 : decode c_Value_isThing 13 = .ok (.if_icmp .ne 7, 3) := by decide +kernel
theorem d_Value_isThing_16 : decode c_Value_isThing 16 = .ok (.iconst 1, 1) := by decide +kernel
theorem d_Value_isThing_17 : decode c_Value_isThing 17 = .ok (.goto 4, 3) := by decide +kernel
theorem d_Value_isThing_20 : decode c_Value_isThing 20 = .ok (.iconst 0, 1) := by decide +kernel
theorem d_Value_isThing_21 : decode c_Value_isThing 21 = .ok (.ireturn, 1) := by decide +kernel
theorem d_Store_reach_0 : decode c_Store_reach 0 = .ok (.lload_n 1, 1) := by decide +kernel
theorem d_Store_reach_1 : decode c_Store_reach 1 = .ok (.invokestatic 57, 3) := by decide +kernel
theorem d_Store_reach_4 : decode c_Store_reach 4 = .ok (.ifCond .eq 15, 3) := by decide +kernel
theorem d_Store_reach_7 : decode c_Store_reach 7 = .ok (.aload_n 0, 1) := by decide +kernel
theorem d_Store_reach_8 : decode c_Store_reach 8 = .ok (.getfield 21, 3) := by decide +kernel
theorem d_Store_reach_11 : decode c_Store_reach 11 = .ok (.lload_n 1, 1) := by decide +kernel
theorem d_Store_reach_12 : decode c_Store_reach 12 = .ok (.invokestatic 50, 3) := by decide +kernel
theorem d_Store_reach_15 : decode c_Store_reach 15 = .ok (.baload, 1) := by decide +kernel
theorem d_Store_reach_16 : decode c_Store_reach 16 = .ok (.ifCond .eq 4, 3) := by decide +kernel
theorem d_Store_reach_19 : decode c_Store_reach 19 = .ok (.return_, 1) := by decide +kernel
theorem d_Store_reach_20 : decode c_Store_reach 20 = .ok (.lload_n 1, 1) := by decide +kernel
theorem d_Store_reach_21 : decode c_Store_reach 21 = .ok (.invokestatic 50, 3) := by decide +kernel
theorem d_Store_reach_24 : decode c_Store_reach 24 = .ok (.istore_n 3, 1) := by decide +kernel
theorem d_Store_reach_25 : decode c_Store_reach 25 = .ok (.aload_n 0, 1) := by decide +kernel
theorem d_Store_reach_26 : decode c_Store_reach 26 = .ok (.getfield 21, 3) := by decide +kernel
theorem d_Store_reach_29 : decode c_Store_reach 29 = .ok (.iload_n 3, 1) := by decide +kernel
theorem d_Store_reach_30 : decode c_Store_reach 30 = .ok (.iconst 1, 1) := by decide +kernel
theorem d_Store_reach_31 : decode c_Store_reach 31 = .ok (.bastore, 1) := by decide +kernel
theorem d_Store_reach_32 : decode c_Store_reach 32 = .ok (.aload_n 0, 1) := by decide +kernel
theorem d_Store_reach_33 : decode c_Store_reach 33 = .ok (.getfield 24, 3) := by decide +kernel
theorem d_Store_reach_36 : decode c_Store_reach 36 = .ok (.aload_n 0, 1) := by decide +kernel
theorem d_Store_reach_37 : decode c_Store_reach 37 = .ok (.getfield 27, 3) := by decide +kernel
theorem d_Store_reach_40 : decode c_Store_reach 40 = .ok (.iload_n 3, 1) := by decide +kernel
theorem d_Store_reach_41 : decode c_Store_reach 41 = .ok (.iastore, 1) := by decide +kernel
theorem d_Store_reach_42 : decode c_Store_reach 42 = .ok (.aload_n 0, 1) := by decide +kernel
theorem d_Store_reach_43 : decode c_Store_reach 43 = .ok (.dup, 1) := by decide +kernel
theorem d_Store_reach_44 : decode c_Store_reach 44 = .ok (.getfield 27, 3) := by decide +kernel
theorem d_Store_reach_47 : decode c_Store_reach 47 = .ok (.iconst 1, 1) := by decide +kernel
theorem d_Store_reach_48 : decode c_Store_reach 48 = .ok (.iadd, 1) := by decide +kernel
theorem d_Store_reach_49 : decode c_Store_reach 49 = .ok (.putfield 27, 3) := by decide +kernel
theorem d_Store_reach_52 : decode c_Store_reach 52 = .ok (.return_, 1) := by decide +kernel
