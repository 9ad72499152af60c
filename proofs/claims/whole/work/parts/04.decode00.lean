theorem d_Code_append_0 : decode c_Code_append 0 = .ok (.aload_n 0, 1) := by decide +kernel
theorem d_Code_append_1 : decode c_Code_append 1 = .ok (.getfield 16, 3) := by decide +kernel
theorem d_Code_append_4 : decode c_Code_append 4 = .ok (.sipush 150, 3) := by decide +kernel
theorem d_Code_append_7 : decode c_Code_append 7 = .ok (.if_icmp .lt 5, 3) := by decide +kernel
theorem d_Code_append_10 : decode c_Code_append 10 = .ok (.iconst 0, 1) := by decide +kernel
theorem d_Code_append_11 : decode c_Code_append 11 = .ok (.ireturn, 1) := by decide +kernel
theorem d_Code_append_12 : decode c_Code_append 12 = .ok (.aload_n 0, 1) := by decide +kernel
theorem d_Code_append_13 : decode c_Code_append 13 = .ok (.getfield 9, 3) := by decide +kernel
theorem d_Code_append_16 : decode c_Code_append 16 = .ok (.aload_n 0, 1) := by decide +kernel
theorem d_Code_append_17 : decode c_Code_append 17 = .ok (.getfield 16, 3) := by decide +kernel
theorem d_Code_append_20 : decode c_Code_append 20 = .ok (.iload_n 1, 1) := by decide +kernel
theorem d_Code_append_21 : decode c_Code_append 21 = .ok (.iastore, 1) := by decide +kernel
theorem d_Code_append_22 : decode c_Code_append 22 = .ok (.aload_n 0, 1) := by decide +kernel
theorem d_Code_append_23 : decode c_Code_append 23 = .ok (.getfield 13, 3) := by decide +kernel
theorem d_Code_append_26 : decode c_Code_append 26 = .ok (.aload_n 0, 1) := by decide +kernel
theorem d_Code_append_27 : decode c_Code_append 27 = .ok (.getfield 16, 3) := by decide +kernel
theorem d_Code_append_30 : decode c_Code_append 30 = .ok (.iload_n 2, 1) := by decide +kernel
theorem d_Code_append_31 : decode c_Code_append 31 = .ok (.iastore, 1) := by decide +kernel
theorem d_Code_append_32 : decode c_Code_append 32 = .ok (.aload_n 0, 1) := by decide +kernel
theorem d_Code_append_33 : decode c_Code_append 33 = .ok (.dup, 1) := by decide +kernel
theorem d_Code_append_34 : decode c_Code_append 34 = .ok (.getfield 16, 3) := by decide +kernel
theorem d_Code_append_37 : decode c_Code_append 37 = .ok (.iconst 1, 1) := by decide +kernel
theorem d_Code_append_38 : decode c_Code_append 38 = .ok (.iadd, 1) := by decide +kernel
theorem d_Code_append_39 : decode c_Code_append 39 = .ok (.putfield 16, 3) := by decide +kernel
theorem d_Code_append_42 : decode c_Code_append 42 = .ok (.iconst 1, 1) := by decide +kernel
theorem d_Code_append_43 : decode c_Code_append 43 = .ok (.ireturn, 1) := by decide +kernel
theorem d_VM_code_0 : decode c_VM_code 0 = .ok (.iload_n 1, 1) := by decide +kernel
theorem d_VM_code_1 : decode c_VM_code 1 = .ok (.ifCond .lt 9, 3) := by decide +kernel
theorem d_VM_code_4 : decode c_VM_code 4 = .ok (.iload_n 1, 1) := by decide +kernel
theorem d_VM_code_5 : decode c_VM_code 5 = .ok (.bipush 34, 2) := by decide +kernel
theorem d_VM_code_7 : decode c_VM_code 7 = .ok (.if_icmp .le 13, 3) := by decide +kernel
theorem d_VM_code_10 : decode c_VM_code 10 = .ok (.new 69, 3) := by decide +kernel
theorem d_VM_code_13 : decode c_VM_code 13 = .ok (.dup, 1) := by decide +kernel
theorem d_VM_code_14 : decode c_VM_code 14 = .ok (.ldc 71, 2) := by decide +kernel
theorem d_VM_code_16 : decode c_VM_code 16 = .ok (.invokespecial 73, 3) := by decide +kernel
theorem d_VM_code_19 : decode c_VM_code 19 = .ok (.athrow, 1) := by decide +kernel
theorem d_VM_code_20 : decode c_VM_code 20 = .ok (.aload_n 0, 1) := by decide +kernel
theorem d_VM_code_21 : decode c_VM_code 21 = .ok (.getfield 10, 3) := by decide +kernel
theorem d_VM_code_24 : decode c_VM_code 24 = .ok (.iload_n 1, 1) := by decide +kernel
theorem d_VM_code_25 : decode c_VM_code 25 = .ok (.iload_n 2, 1) := by decide +kernel
theorem d_VM_code_26 : decode c_VM_code 26 = .ok (.invokevirtual 76, 3) := by decide +kernel
theorem d_VM_code_29 : decode c_VM_code 29 = .ok (.ifCond .eq 13, 3) := by decide +kernel
theorem d_VM_code_32 : decode c_VM_code 32 = .ok (.aload_n 0, 1) := by decide +kernel
theorem d_VM_code_33 : decode c_VM_code 33 = .ok (.getfield 10, 3) := by decide +kernel
theorem d_VM_code_36 : decode c_VM_code 36 = .ok (.getfield 80, 3) := by decide +kernel
theorem d_VM_code_39 : decode c_VM_code 39 = .ok (.goto 4, 3) := by decide +kernel
theorem d_VM_code_42 : decode c_VM_code 42 = .ok (.iconst (-1), 1) := by decide +kernel
theorem d_VM_code_43 : decode c_VM_code 43 = .ok (.ireturn, 1) := by decide +kernel
theorem d_Store_empty_0 : decode c_Store_empty 0 = .ok (.iconst 0, 1) := by decide +kernel
theorem d_Store_empty_1 : decode c_Store_empty 1 = .ok (.istore_n 1, 1) := by decide +kernel
theorem d_Store_empty_2 : decode c_Store_empty 2 = .ok (.iload_n 1, 1) := by decide +kernel
theorem d_Store_empty_3 : decode c_Store_empty 3 = .ok (.bipush 30, 2) := by decide +kernel
theorem d_Store_empty_5 : decode c_Store_empty 5 = .ok (.if_icmp .ge 16, 3) := by decide +kernel
theorem d_Store_empty_8 : decode c_Store_empty 8 = .ok (.aload_n 0, 1) := by decide +kernel
theorem d_Store_empty_9 : decode c_Store_empty 9 = .ok (.getfield 17, 3) := by decide +kernel
theorem d_Store_empty_12 : decode c_Store_empty 12 = .ok (.iload_n 1, 1) := by decide +kernel
theorem d_Store_empty_13 : decode c_Store_empty 13 = .ok (.iconst 0, 1) := by decide +kernel
theorem d_Store_empty_14 : decode c_Store_empty 14 = .ok (.bastore, 1) := by decide +kernel
theorem d_Store_empty_15 : decode c_Store_empty 15 = .ok (.iinc 1 1, 3) := by decide +kernel
theorem d_Store_empty_18 : decode c_Store_empty 18 = .ok (.goto (-16), 3) := by decide +kernel
theorem d_Store_empty_21 : decode c_Store_empty 21 = .ok (.aload_n 0, 1) := by decide +kernel
theorem d_Store_empty_22 : decode c_Store_empty 22 = .ok (.iconst 0, 1) := by decide +kernel
theorem d_Store_empty_23 : decode c_Store_empty 23 = .ok (.putfield 31, 3) := by decide +kernel
theorem d_Store_empty_26 : decode c_Store_empty 26 = .ok (.aload_n 0, 1) := by decide +kernel
theorem d_Store_empty_27 : decode c_Store_empty 27 = .ok (.iconst 0, 1) := by decide +kernel
theorem d_Store_empty_28 : decode c_Store_empty 28 = .ok (.putfield 34, 3) := by decide +kernel
theorem d_Store_empty_31 : decode c_Store_empty 31 = .ok (.aload_n 0, 1) := by decide +kernel
theorem d_Store_empty_32 : decode c_Store_empty 32 = .ok (.iconst 0, 1) := by decide +kernel
theorem d_Store_empty_33 : decode c_Store_empty 33 = .ok (.putfield 37, 3) := by decide +kernel
theorem d_Store_empty_36 : decode c_Store_empty 36 = .ok (.return_, 1) := by decide +kernel
theorem d_VM_begin_0 : decode c_VM_begin 0 = .ok (.aload_n 0, 1) := by decide +kernel
theorem d_VM_begin_1 : decode c_VM_begin 1 = .ok (.getfield 19, 3) := by decide +kernel
theorem d_VM_begin_4 : decode c_VM_begin 4 = .ok (.iconst 0, 1) := by decide +kernel
theorem d_VM_begin_5 : decode c_VM_begin 5 = .ok (.putfield 148, 3) := by decide +kernel
theorem d_VM_begin_8 : decode c_VM_begin 8 = .ok (.aload_n 0, 1) := by decide +kernel
theorem d_VM_begin_9 : decode c_VM_begin 9 = .ok (.getfield 26, 3) := by decide +kernel
theorem d_VM_begin_12 : decode c_VM_begin 12 = .ok (.iconst 0, 1) := by decide +kernel
theorem d_VM_begin_13 : decode c_VM_begin 13 = .ok (.putfield 151, 3) := by decide +kernel
theorem d_VM_begin_16 : decode c_VM_begin 16 = .ok (.aload_n 0, 1) := by decide +kernel
theorem d_VM_begin_17 : decode c_VM_begin 17 = .ok (.getfield 33, 3) := by decide +kernel
theorem d_VM_begin_20 : decode c_VM_begin 20 = .ok (.invokevirtual 161, 3) := by decide +kernel
theorem d_VM_begin_23 : decode c_VM_begin 23 = .ok (.iconst 0, 1) := by decide +kernel
theorem d_VM_begin_24 : decode c_VM_begin 24 = .ok (.istore_n 1, 1) := by decide +kernel
theorem d_VM_begin_25 : decode c_VM_begin 25 = .ok (.iload_n 1, 1) := by decide +kernel
theorem d_VM_begin_26 : decode c_VM_begin 26 = .ok (.bipush 8, 2) := by decide +kernel
theorem d_VM_begin_28 : decode c_VM_begin 28 = .ok (.if_icmp .ge 16, 3) := by decide +kernel
theorem d_VM_begin_31 : decode c_VM_begin 31 = .ok (.aload_n 0, 1) := by decide +kernel
theorem d_VM_begin_32 : decode c_VM_begin 32 = .ok (.getfield 37, 3) := by decide +kernel
theorem d_VM_begin_35 : decode c_VM_begin 35 = .ok (.iload_n 1, 1) := by decide +kernel
theorem d_VM_begin_36 : decode c_VM_begin 36 = .ok (.lconst 0, 1) := by decide +kernel
theorem d_VM_begin_37 : decode c_VM_begin 37 = .ok (.lastore, 1) := by decide +kernel
theorem d_VM_begin_38 : decode c_VM_begin 38 = .ok (.iinc 1 1, 3) := by decide +kernel
theorem d_VM_begin_41 : decode c_VM_begin 41 = .ok (.goto (-16), 3) := by decide +kernel
theorem d_VM_begin_44 : decode c_VM_begin 44 = .ok (.aload_n 0, 1) := by decide +kernel
theorem d_VM_begin_45 : decode c_VM_begin 45 = .ok (.lconst 0, 1) := by decide +kernel
theorem d_VM_begin_46 : decode c_VM_begin 46 = .ok (.putfield 43, 3) := by decide +kernel
theorem d_VM_begin_49 : decode c_VM_begin 49 = .ok (.aload_n 0, 1) := by decide +kernel
theorem d_VM_begin_50 : decode c_VM_begin 50 = .ok (.lconst 0, 1) := by decide +kernel
theorem d_VM_begin_51 : decode c_VM_begin 51 = .ok (.putfield 47, 3) := by decide +kernel
theorem d_VM_begin_54 : decode c_VM_begin 54 = .ok (.aload_n 0, 1) := by decide +kernel
theorem d_VM_begin_55 : decode c_VM_begin 55 = .ok (.lconst 0, 1) := by decide +kernel
theorem d_VM_begin_56 : decode c_VM_begin 56 = .ok (.putfield 50, 3) := by decide +kernel
theorem d_VM_begin_59 : decode c_VM_begin 59 = .ok (.aload_n 0, 1) := by decide +kernel
theorem d_VM_begin_60 : decode c_VM_begin 60 = .ok (.iconst 0, 1) := by decide +kernel
theorem d_VM_begin_61 : decode c_VM_begin 61 = .ok (.putfield 53, 3) := by decide +kernel
theorem d_VM_begin_64 : decode c_VM_begin 64 = .ok (.aload_n 0, 1) := by decide +kernel
theorem d_VM_begin_65 : decode c_VM_begin 65 = .ok (.iconst 0, 1) := by decide +kernel
theorem d_VM_begin_66 : decode c_VM_begin 66 = .ok (.putfield 57, 3) := by decide +kernel
theorem d_VM_begin_69 : decode c_VM_begin 69 = .ok (.aload_n 0, 1) := by decide +kernel
theorem d_VM_begin_70 : decode c_VM_begin 70 = .ok (.iconst 0, 1) := by decide +kernel
theorem d_VM_begin_71 : decode c_VM_begin 71 = .ok (.putfield 61, 3) := by decide +kernel
theorem d_VM_begin_74 : decode c_VM_begin 74 = .ok (.aload_n 0, 1) := by decide +kernel
theorem d_VM_begin_75 : decode c_VM_begin 75 = .ok (.iconst 0, 1) := by decide +kernel
theorem d_VM_begin_76 : decode c_VM_begin 76 = .ok (.putfield 64, 3) := by decide +kernel
theorem d_VM_begin_79 : decode c_VM_begin 79 = .ok (.return_, 1) := by decide +kernel
theorem d_VM_clear_0 : decode c_VM_clear 0 = .ok (.aload_n 0, 1) := by decide +kernel
theorem d_VM_clear_1 : decode c_VM_clear 1 = .ok (.getfield 10, 3) := by decide +kernel
theorem d_VM_clear_4 : decode c_VM_clear 4 = .ok (.iconst 0, 1) := by decide +kernel
theorem d_VM_clear_5 : decode c_VM_clear 5 = .ok (.putfield 80, 3) := by decide +kernel
theorem d_VM_clear_8 : decode c_VM_clear 8 = .ok (.aload_n 0, 1) := by decide +kernel
theorem d_VM_clear_9 : decode c_VM_clear 9 = .ok (.invokevirtual 83, 3) := by decide +kernel
theorem d_VM_clear_12 : decode c_VM_clear 12 = .ok (.return_, 1) := by decide +kernel
theorem d_VM_reset_0 : decode c_VM_reset 0 = .ok (.aload_n 0, 1) := by decide +kernel
theorem d_VM_reset_1 : decode c_VM_reset 1 = .ok (.invokevirtual 83, 3) := by decide +kernel
theorem d_VM_reset_4 : decode c_VM_reset 4 = .ok (.return_, 1) := by decide +kernel
theorem d_VM_state_0 : decode c_VM_state 0 = .ok (.aload_n 0, 1) := by decide +kernel
theorem d_VM_state_1 : decode c_VM_state 1 = .ok (.getfield 53, 3) := by decide +kernel
theorem d_VM_state_4 : decode c_VM_state 4 = .ok (.ifCond .eq 5, 3) := by decide +kernel
theorem d_VM_state_7 : decode c_VM_state 7 = .ok (.iconst 2, 1) := by decide +kernel
theorem d_VM_state_8 : decode c_VM_state 8 = .ok (.ireturn, 1) := by decide +kernel
theorem d_VM_state_9 : decode c_VM_state 9 = .ok (.aload_n 0, 1) := by decide +kernel
theorem d_VM_state_10 : decode c_VM_state 10 = .ok (.getfield 57, 3) := by decide +kernel
theorem d_VM_state_13 : decode c_VM_state 13 = .ok (.aload_n 0, 1) := by decide +kernel
theorem d_VM_state_14 : decode c_VM_state 14 = .ok (.getfield 10, 3) := by decide +kernel
theorem d_VM_state_17 : decode c_VM_state 17 = .ok (.getfield 80, 3) := by decide +kernel
theorem d_VM_state_20 : decode c_VM_state 20 = .ok (.if_icmp .ge 7, 3) := by decide +kernel
theorem d_VM_state_23 : decode c_VM_state 23 = .ok (.iconst 0, 1) := by decide +kernel
theorem d_VM_state_24 : decode c_VM_state 24 = .ok (.goto 4, 3) := by decide +kernel
theorem d_VM_state_27 : decode c_VM_state 27 = .ok (.iconst 1, 1) := by decide +kernel
theorem d_VM_state_28 : decode c_VM_state 28 = .ok (.ireturn, 1) := by decide +kernel
theorem d_Code_instructionAt_0 : decode c_Code_instructionAt 0 = .ok (.aload_n 0, 1) := by decide +kernel
theorem d_Code_instructionAt_1 : decode c_Code_instructionAt 1 = .ok (.getfield 9, 3) := by decide +kernel
theorem d_Code_instructionAt_4 : decode c_Code_instructionAt 4 = .ok (.iload_n 1, 1) := by decide +kernel
theorem d_Code_instructionAt_5 : decode c_Code_instructionAt 5 = .ok (.iaload, 1) := by decide +kernel
theorem d_Code_instructionAt_6 : decode c_Code_instructionAt 6 = .ok (.ireturn, 1) := by decide +kernel
theorem d_Code_numberAt_0 : decode c_Code_numberAt 0 = .ok (.aload_n 0, 1) := by decide +kernel
theorem d_Code_numberAt_1 : decode c_Code_numberAt 1 = .ok (.getfield 13, 3) := by decide +kernel
theorem d_Code_numberAt_4 : decode c_Code_numberAt 4 = .ok (.iload_n 1, 1) := by decide +kernel
theorem d_Code_numberAt_5 : decode c_Code_numberAt 5 = .ok (.iaload, 1) := by decide +kernel
theorem d_Code_numberAt_6 : decode c_Code_numberAt 6 = .ok (.ireturn, 1) := by decide +kernel
theorem d_VM_accept_0 : decode c_VM_accept 0 = .ok (.aload_n 0, 1) := by decide +kernel
theorem d_VM_accept_1 : decode c_VM_accept 1 = .ok (.lload_n 1, 1) := by decide +kernel
theorem d_VM_accept_2 : decode c_VM_accept 2 = .ok (.putfield 43, 3) := by decide +kernel
theorem d_VM_accept_5 : decode c_VM_accept 5 = .ok (.iconst 0, 1) := by decide +kernel
theorem d_VM_accept_6 : decode c_VM_accept 6 = .ok (.ireturn, 1) := by decide +kernel
theorem d_Value_of_0 : decode c_Value_of 0 = .ok (.iload_n 0, 1) := by decide +kernel
theorem d_Value_of_1 : decode c_Value_of 1 = .ok (.i2l, 1) := by decide +kernel
theorem d_Value_of_2 : decode c_Value_of 2 = .ok (.bipush 32, 2) := by decide +kernel
theorem d_Value_of_4 : decode c_Value_of 4 = .ok (.lshl, 1) := by decide +kernel
theorem d_Value_of_5 : decode c_Value_of 5 = .ok (.iload_n 1, 1) := by decide +kernel
theorem d_Value_of_6 : decode c_Value_of 6 = .ok (.i2l, 1) := by decide +kernel
theorem d_Value_of_7 : decode c_Value_of 7 = .ok (.ldc2_w 7, 3) := by decide +kernel
theorem d_Value_of_10 : decode c_Value_of 10 = .ok (.land, 1) := by decide +kernel
theorem d_Value_of_11 : decode c_Value_of 11 = .ok (.lor, 1) := by decide +kernel
theorem d_Value_of_12 : decode c_Value_of 12 = .ok (.lreturn, 1) := by decide +kernel
theorem d_Value_integer_0 : decode c_Value_integer 0 = .ok (.iconst 3, 1) := by decide +kernel
theorem d_Value_integer_1 : decode c_Value_integer 1 = .ok (.iload_n 0, 1) := by decide +kernel
theorem d_Value_integer_2 : decode c_Value_integer 2 = .ok (.invokestatic 11, 3) := by decide +kernel
theorem d_Value_integer_5 : decode c_Value_integer 5 = .ok (.lreturn, 1) := by decide +kernel
theorem d_ValueStack_reaches_0 : decode c_ValueStack_reaches 0 = .ok (.iload_n 1, 1) := by decide +kernel
theorem d_ValueStack_reaches_1 : decode c_ValueStack_reaches 1 = .ok (.ifCond .lt 15, 3) := by decide +kernel
theorem d_ValueStack_reaches_4 : decode c_ValueStack_reaches 4 = .ok (.iload_n 1, 1) := by decide +kernel
theorem d_ValueStack_reaches_5 : decode c_ValueStack_reaches 5 = .ok (.aload_n 0, 1) := by decide +kernel
theorem d_ValueStack_reaches_6 : decode c_ValueStack_reaches 6 = .ok (.getfield 13, 3) := by decide +kernel
theorem d_ValueStack_reaches_9 : decode c_ValueStack_reaches 9 = .ok (.if_icmp .ge 7, 3) := by decide +kernel
theorem d_ValueStack_reaches_12 : decode c_ValueStack_reaches 12 = .ok (.iconst 1, 1) := by decide +kernel
theorem d_ValueStack_reaches_13 : decode c_ValueStack_reaches 13 = .ok (.goto 4, 3) := by decide +kernel
theorem d_ValueStack_reaches_16 : decode c_ValueStack_reaches 16 = .ok (.iconst 0, 1) := by decide +kernel
theorem d_ValueStack_reaches_17 : decode c_ValueStack_reaches 17 = .ok (.ireturn, 1) := by decide +kernel
theorem d_ValueStack_at_0 : decode c_ValueStack_at 0 = .ok (.aload_n 0, 1) := by decide +kernel
theorem d_ValueStack_at_1 : decode c_ValueStack_at 1 = .ok (.getfield 9, 3) := by decide +kernel
theorem d_ValueStack_at_4 : decode c_ValueStack_at 4 = .ok (.aload_n 0, 1) := by decide +kernel
theorem d_ValueStack_at_5 : decode c_ValueStack_at 5 = .ok (.getfield 13, 3) := by decide +kernel
theorem d_ValueStack_at_8 : decode c_ValueStack_at 8 = .ok (.iconst 1, 1) := by decide +kernel
theorem d_ValueStack_at_9 : decode c_ValueStack_at 9 = .ok (.isub, 1) := by decide +kernel
theorem d_ValueStack_at_10 : decode c_ValueStack_at 10 = .ok (.iload_n 1, 1) := by decide +kernel
theorem d_ValueStack_at_11 : decode c_ValueStack_at 11 = .ok (.isub, 1) := by decide +kernel
theorem d_ValueStack_at_12 : decode c_ValueStack_at 12 = .ok (.laload, 1) := by decide +kernel
theorem d_ValueStack_at_13 : decode c_ValueStack_at 13 = .ok (.lreturn, 1) := by decide +kernel
theorem d_VM_takeStack_0 : decode c_VM_takeStack 0 = .ok (.aload_n 0, 1) := by decide +kernel
theorem d_VM_takeStack_1 : decode c_VM_takeStack 1 = .ok (.getfield 19, 3) := by decide +kernel
theorem d_VM_takeStack_4 : decode c_VM_takeStack 4 = .ok (.iload_n 1, 1) := by decide +kernel
theorem d_VM_takeStack_5 : decode c_VM_takeStack 5 = .ok (.invokevirtual 117, 3) := by decide +kernel
theorem d_VM_takeStack_8 : decode c_VM_takeStack 8 = .ok (.ifCond .eq 18, 3) := by decide +kernel
theorem d_VM_takeStack_11 : decode c_VM_takeStack 11 = .ok (.aload_n 0, 1) := by decide +kernel
theorem d_VM_takeStack_12 : decode c_VM_takeStack 12 = .ok (.aload_n 0, 1) := by decide +kernel
theorem d_VM_takeStack_13 : decode c_VM_takeStack 13 = .ok (.getfield 19, 3) := by decide +kernel
theorem d_VM_takeStack_16 : decode c_VM_takeStack 16 = .ok (.iload_n 1, 1) := by decide +kernel
theorem d_VM_takeStack_17 : decode c_VM_takeStack 17 = .ok (.invokevirtual 121, 3) := by decide +kernel
theorem d_VM_takeStack_20 : decode c_VM_takeStack 20 = .ok (.invokevirtual 178, 3) := by decide +kernel
theorem d_VM_takeStack_23 : decode c_VM_takeStack 23 = .ok (.goto 4, 3) := by decide +kernel
theorem d_VM_takeStack_26 : decode c_VM_takeStack 26 = .ok (.iconst 3, 1) := by decide +kernel
theorem d_VM_takeStack_27 : decode c_VM_takeStack 27 = .ok (.ireturn, 1) := by decide +kernel
theorem d_VM_isGlobal_0 : decode c_VM_isGlobal 0 = .ok (.iload_n 0, 1) := by decide +kernel
theorem d_VM_isGlobal_1 : decode c_VM_isGlobal 1 = .ok (.ifCond .lt 13, 3) := by decide +kernel
theorem d_VM_isGlobal_4 : decode c_VM_isGlobal 4 = .ok (.iload_n 0, 1) := by decide +kernel
theorem d_VM_isGlobal_5 : decode c_VM_isGlobal 5 = .ok (.bipush 8, 2) := by decide +kernel
theorem d_VM_isGlobal_7 : decode c_VM_isGlobal 7 = .ok (.if_icmp .ge 7, 3) := by decide +kernel
theorem d_VM_isGlobal_10 : decode c_VM_isGlobal 10 = .ok (.iconst 1, 1) := by decide +kernel
theorem d_VM_isGlobal_11 : decode c_VM_isGlobal 11 = .ok (.goto 4, 3) := by decide +kernel
theorem d_VM_isGlobal_14 : decode c_VM_isGlobal 14 = .ok (.iconst 0, 1) := by decide +kernel
theorem d_VM_isGlobal_15 : decode c_VM_isGlobal 15 = .ok (.ireturn, 1) := by decide +kernel
theorem d_VM_takeGlobal_0 : decode c_VM_takeGlobal 0 = .ok (.iload_n 1, 1) := by decide +kernel
theorem d_VM_takeGlobal_1 : decode c_VM_takeGlobal 1 = .ok (.invokestatic 124, 3) := by decide +kernel
theorem d_VM_takeGlobal_4 : decode c_VM_takeGlobal 4 = .ok (.ifCond .eq 16, 3) := by decide +kernel
theorem d_VM_takeGlobal_7 : decode c_VM_takeGlobal 7 = .ok (.aload_n 0, 1) := by decide +kernel
theorem d_VM_takeGlobal_8 : decode c_VM_takeGlobal 8 = .ok (.aload_n 0, 1) := by decide +kernel
theorem d_VM_takeGlobal_9 : decode c_VM_takeGlobal 9 = .ok (.getfield 37, 3) := by decide +kernel
theorem d_VM_takeGlobal_12 : decode c_VM_takeGlobal 12 = .ok (.iload_n 1, 1) := by decide +kernel
theorem d_VM_takeGlobal_13 : decode c_VM_takeGlobal 13 = .ok (.laload, 1) := by decide +kernel
theorem d_VM_takeGlobal_14 : decode c_VM_takeGlobal 14 = .ok (.invokevirtual 178, 3) := by decide +kernel
theorem d_VM_takeGlobal_17 : decode c_VM_takeGlobal 17 = .ok (.goto 5, 3) := by decide +kernel
theorem d_VM_takeGlobal_20 : decode c_VM_takeGlobal 20 = .ok (.bipush 8, 2) := by decide +kernel
theorem d_VM_takeGlobal_22 : decode c_VM_takeGlobal 22 = .ok (.ireturn, 1) := by decide +kernel
theorem d_Value_sortOf_0 : decode c_Value_sortOf 0 = .ok (.lload_n 0, 1) := by decide +kernel
theorem d_Value_sortOf_1 : decode c_Value_sortOf 1 = .ok (.bipush 32, 2) := by decide +kernel
theorem d_Value_sortOf_3 : decode c_Value_sortOf 3 = .ok (.lshr, 1) := by decide +kernel
theorem d_Value_sortOf_4 : decode c_Value_sortOf 4 = .ok (.l2i, 1) := by decide +kernel
theorem d_Value_sortOf_5 : decode c_Value_sortOf 5 = .ok (.ireturn, 1) := by decide +kernel
theorem d_Value_numberOf_0 : decode c_Value_numberOf 0 = .ok (.lload_n 0, 1) := by decide +kernel
theorem d_Value_numberOf_1 : decode c_Value_numberOf 1 = .ok (.l2i, 1) := by decide +kernel
theorem d_Value_numberOf_2 : decode c_Value_numberOf 2 = .ok (.ireturn, 1) := by decide +kernel
theorem d_Store_sizeOf_0 : decode c_Store_sizeOf 0 = .ok (.aload_n 0, 1) := by decide +kernel
theorem d_Store_sizeOf_1 : decode c_Store_sizeOf 1 = .ok (.getfield 13, 3) := by decide +kernel
theorem d_Store_sizeOf_4 : decode c_Store_sizeOf 4 = .ok (.lload_n 1, 1) := by decide +kernel
theorem d_Store_sizeOf_5 : decode c_Store_sizeOf 5 = .ok (.invokestatic 50, 3) := by decide +kernel
theorem d_Store_sizeOf_8 : decode c_Store_sizeOf 8 = .ok (.iaload, 1) := by decide +kernel
theorem d_Store_sizeOf_9 : decode c_Store_sizeOf 9 = .ok (.ireturn, 1) := by decide +kernel
theorem d_Store_hasPart_0 : decode c_Store_hasPart 0 = .ok (.iload_n 3, 1) := by decide +kernel
theorem d_Store_hasPart_1 : decode c_Store_hasPart 1 = .ok (.ifCond .lt 16, 3) := by decide +kernel
theorem d_Store_hasPart_4 : decode c_Store_hasPart 4 = .ok (.iload_n 3, 1) := by decide +kernel
theorem d_Store_hasPart_5 : decode c_Store_hasPart 5 = .ok (.aload_n 0, 1) := by decide +kernel
theorem d_Store_hasPart_6 : decode c_Store_hasPart 6 = .ok (.lload_n 1, 1) := by decide +kernel
theorem d_Store_hasPart_7 : decode c_Store_hasPart 7 = .ok (.invokevirtual 54, 3) := by decide +kernel
theorem d_Store_hasPart_10 : decode c_Store_hasPart 10 = .ok (.if_icmp .ge 7, 3) := by decide +kernel
theorem d_Store_hasPart_13 : decode c_Store_hasPart 13 = .ok (.iconst 1, 1) := by decide +kernel
theorem d_Store_hasPart_14 : decode c_Store_hasPart 14 = .ok (.goto 4, 3) := by decide +kernel
theorem d_Store_hasPart_17 : decode c_Store_hasPart 17 = .ok (.iconst 0, 1) := by decide +kernel
theorem d_Store_hasPart_18 : decode c_Store_hasPart 18 = .ok (.ireturn, 1) := by decide +kernel
theorem d_Store_part_0 : decode c_Store_part 0 = .ok (.aload_n 0, 1) := by decide +kernel
theorem d_Store_part_1 : decode c_Store_part 1 = .ok (.getfield 9, 3) := by decide +kernel
theorem d_Store_part_4 : decode c_Store_part 4 = .ok (.lload_n 1, 1) := by decide +kernel
theorem d_Store_part_5 : decode c_Store_part 5 = .ok (.invokestatic 50, 3) := by decide +kernel
theorem d_Store_part_8 : decode c_Store_part 8 = .ok (.bipush 20, 2) := by decide +kernel
theorem d_Store_part_10 : decode c_Store_part 10 = .ok (.imul, 1) := by decide +kernel
theorem d_Store_part_11 : decode c_Store_part 11 = .ok (.iload_n 3, 1) := by decide +kernel
theorem d_Store_part_12 : decode c_Store_part 12 = .ok (.iadd, 1) := by decide +kernel
theorem d_Store_part_13 : decode c_Store_part 13 = .ok (.laload, 1) := by decide +kernel
theorem d_Store_part_14 : decode c_Store_part 14 = .ok (.lreturn, 1) := by decide +kernel
theorem d_VM_takeField_0 : decode c_VM_takeField 0 = .ok (.aload_n 0, 1) := by decide +kernel
theorem d_VM_takeField_1 : decode c_VM_takeField 1 = .ok (.getfield 43, 3) := by decide +kernel
theorem d_VM_takeField_4 : decode c_VM_takeField 4 = .ok (.invokestatic 139, 3) := by decide +kernel
theorem d_VM_takeField_7 : decode c_VM_takeField 7 = .ok (.iconst 4, 1) := by decide +kernel
theorem d_VM_takeField_8 : decode c_VM_takeField 8 = .ok (.if_icmp .eq 5, 3) := by decide +kernel
theorem d_VM_takeField_11 : decode c_VM_takeField 11 = .ok (.iconst 1, 1) := by decide +kernel
theorem d_VM_takeField_12 : decode c_VM_takeField 12 = .ok (.ireturn, 1) := by decide +kernel
theorem d_VM_takeField_13 : decode c_VM_takeField 13 = .ok (.aload_n 0, 1) := by decide +kernel
theorem d_VM_takeField_14 : decode c_VM_takeField 14 = .ok (.getfield 33, 3) := by decide +kernel
theorem d_VM_takeField_17 : decode c_VM_takeField 17 = .ok (.aload_n 0, 1) := by decide +kernel
theorem d_VM_takeField_18 : decode c_VM_takeField 18 = .ok (.getfield 43, 3) := by decide +kernel
theorem d_VM_takeField_21 : decode c_VM_takeField 21 = .ok (.iload_n 1, 1) := by decide +kernel
theorem d_VM_takeField_22 : decode c_VM_takeField 22 = .ok (.invokevirtual 131, 3) := by decide +kernel
theorem d_VM_takeField_25 : decode c_VM_takeField 25 = .ok (.ifCond .eq 22, 3) := by decide +kernel
theorem d_VM_takeField_28 : decode c_VM_takeField 28 = .ok (.aload_n 0, 1) := by decide +kernel
theorem d_VM_takeField_29 : decode c_VM_takeField 29 = .ok (.aload_n 0, 1) := by decide +kernel
theorem d_VM_takeField_30 : decode c_VM_takeField 30 = .ok (.getfield 33, 3) := by decide +kernel
theorem d_VM_takeField_33 : decode c_VM_takeField 33 = .ok (.aload_n 0, 1) := by decide +kernel
theorem d_VM_takeField_34 : decode c_VM_takeField 34 = .ok (.getfield 43, 3) := by decide +kernel
theorem d_VM_takeField_37 : decode c_VM_takeField 37 = .ok (.iload_n 1, 1) := by decide +kernel
theorem d_VM_takeField_38 : decode c_VM_takeField 38 = .ok (.invokevirtual 135, 3) := by decide +kernel
theorem d_VM_takeField_41 : decode c_VM_takeField 41 = .ok (.invokevirtual 178, 3) := by decide +kernel
theorem d_VM_takeField_44 : decode c_VM_takeField 44 = .ok (.goto 5, 3) := by decide +kernel
theorem d_VM_takeField_47 : decode c_VM_takeField 47 = .ok (.bipush 8, 2) := by decide +kernel
theorem d_VM_takeField_49 : decode c_VM_takeField 49 = .ok (.ireturn, 1) := by decide +kernel
theorem d_ValueStack_holds_0 : decode c_ValueStack_holds 0 = .ok (.iload_n 1, 1) := by decide +kernel
theorem d_ValueStack_holds_1 : decode c_ValueStack_holds 1 = .ok (.ifCond .lt 15, 3) := by decide +kernel
theorem d_ValueStack_holds_4 : decode c_ValueStack_holds 4 = .ok (.iload_n 1, 1) := by decide +kernel
theorem d_ValueStack_holds_5 : decode c_ValueStack_holds 5 = .ok (.aload_n 0, 1) := by decide +kernel
theorem d_ValueStack_holds_6 : decode c_ValueStack_holds 6 = .ok (.getfield 13, 3) := by decide +kernel
theorem d_ValueStack_holds_9 : decode c_ValueStack_holds 9 = .ok (.if_icmp .gt 7, 3) := by decide +kernel
theorem d_ValueStack_holds_12 : decode c_ValueStack_holds 12 = .ok (.iconst 1, 1) := by decide +kernel
theorem d_ValueStack_holds_13 : decode c_ValueStack_holds 13 = .ok (.goto 4, 3) := by decide +kernel
theorem d_ValueStack_holds_16 : decode c_ValueStack_holds 16 = .ok (.iconst 0, 1) := by decide +kernel
theorem d_ValueStack_holds_17 : decode c_ValueStack_holds 17 = .ok (.ireturn, 1) := by decide +kernel
theorem d_VM_elementFault_0 : decode c_VM_elementFault 0 = .ok (.lload_n 1, 1) := by decide +kernel
theorem d_VM_elementFault_1 : decode c_VM_elementFault 1 = .ok (.invokestatic 139, 3) := by decide +kernel
theorem d_VM_elementFault_4 : decode c_VM_elementFault 4 = .ok (.iconst 5, 1) := by decide +kernel
theorem d_VM_elementFault_5 : decode c_VM_elementFault 5 = .ok (.if_icmp .ne 11, 3) := by decide +kernel
theorem d_VM_elementFault_8 : decode c_VM_elementFault 8 = .ok (.lload_n 3, 1) := by decide +kernel
theorem d_VM_elementFault_9 : decode c_VM_elementFault 9 = .ok (.invokestatic 139, 3) := by decide +kernel
theorem d_VM_elementFault_12 : decode c_VM_elementFault 12 = .ok (.iconst 3, 1) := by decide +kernel
theorem d_VM_elementFault_13 : decode c_VM_elementFault 13 = .ok (.if_icmp .eq 5, 3) := by decide +kernel
theorem d_VM_elementFault_16 : decode c_VM_elementFault 16 = .ok (.iconst 1, 1) := by decide +kernel
theorem d_VM_elementFault_17 : decode c_VM_elementFault 17 = .ok (.ireturn, 1) := by decide +kernel
theorem d_VM_elementFault_18 : decode c_VM_elementFault 18 = .ok (.aload_n 0, 1) := by decide +kernel
theorem d_VM_elementFault_19 : decode c_VM_elementFault 19 = .ok (.getfield 33, 3) := by decide +kernel
theorem d_VM_elementFault_22 : decode c_VM_elementFault 22 = .ok (.lload_n 1, 1) := by decide +kernel
theorem d_VM_elementFault_23 : decode c_VM_elementFault 23 = .ok (.lload_n 3, 1) := by decide +kernel
theorem d_VM_elementFault_24 : decode c_VM_elementFault 24 = .ok (.invokestatic 142, 3) := by decide +kernel
theorem d_VM_elementFault_27 : decode c_VM_elementFault 27 = .ok (.invokevirtual 131, 3) := by decide +kernel
theorem d_VM_elementFault_30 : decode c_VM_elementFault 30 = .ok (.ifCond .eq 7, 3) := by decide +kernel
theorem d_VM_elementFault_33 : decode c_VM_elementFault 33 = .ok (.iconst 0, 1) := by decide +kernel
theorem d_VM_elementFault_34 : decode c_VM_elementFault 34 = .ok (.goto 4, 3) := by decide +kernel
theorem d_VM_elementFault_37 : decode c_VM_elementFault 37 = .ok (.iconst 2, 1) := by decide +kernel
theorem d_VM_elementFault_38 : decode c_VM_elementFault 38 = .ok (.ireturn, 1) := by decide +kernel
theorem d_ValueStack_drop_0 : decode c_ValueStack_drop 0 = .ok (.aload_n 0, 1) := by decide +kernel
theorem d_ValueStack_drop_1 : decode c_ValueStack_drop 1 = .ok (.dup, 1) := by decide +kernel
theorem d_ValueStack_drop_2 : decode c_ValueStack_drop 2 = .ok (.getfield 13, 3) := by decide +kernel
theorem d_ValueStack_drop_5 : decode c_ValueStack_drop 5 = .ok (.iload_n 1, 1) := by decide +kernel
theorem d_ValueStack_drop_6 : decode c_ValueStack_drop 6 = .ok (.isub, 1) := by decide +kernel
theorem d_ValueStack_drop_7 : decode c_ValueStack_drop 7 = .ok (.putfield 13, 3) := by decide +kernel
theorem d_ValueStack_drop_10 : decode c_ValueStack_drop 10 = .ok (.return_, 1) := by decide +kernel
theorem d_VM_acceptForTop_0 : decode c_VM_acceptForTop 0 = .ok (.aload_n 0, 1) := by decide +kernel
theorem d_VM_acceptForTop_1 : decode c_VM_acceptForTop 1 = .ok (.getfield 19, 3) := by decide +kernel
theorem d_VM_acceptForTop_4 : decode c_VM_acceptForTop 4 = .ok (.iconst 1, 1) := by decide +kernel
theorem d_VM_acceptForTop_5 : decode c_VM_acceptForTop 5 = .ok (.invokevirtual 259, 3) := by decide +kernel
theorem d_VM_acceptForTop_8 : decode c_VM_acceptForTop 8 = .ok (.aload_n 0, 1) := by decide +kernel
theorem d_VM_acceptForTop_9 : decode c_VM_acceptForTop 9 = .ok (.lload_n 1, 1) := by decide +kernel
theorem d_VM_acceptForTop_10 : decode c_VM_acceptForTop 10 = .ok (.invokevirtual 178, 3) := by decide +kernel
theorem d_VM_acceptForTop_13 : decode c_VM_acceptForTop 13 = .ok (.ireturn, 1) := by decide +kernel
theorem d_VM_takeElement_0 : decode c_VM_takeElement 0 = .ok (.aload_n 0, 1) := by decide +kernel
theorem d_VM_takeElement_1 : decode c_VM_takeElement 1 = .ok (.getfield 19, 3) := by decide +kernel
theorem d_VM_takeElement_4 : decode c_VM_takeElement 4 = .ok (.iconst 1, 1) := by decide +kernel
theorem d_VM_takeElement_5 : decode c_VM_takeElement 5 = .ok (.invokevirtual 263, 3) := by decide +kernel
theorem d_VM_takeElement_8 : decode c_VM_takeElement 8 = .ok (.ifCond .ne 5, 3) := by decide +kernel
theorem d_VM_takeElement_11 : decode c_VM_takeElement 11 = .ok (.iconst 3, 1) := by decide +kernel
theorem d_VM_takeElement_12 : decode c_VM_takeElement 12 = .ok (.ireturn, 1) := by decide +kernel
theorem d_VM_takeElement_13 : decode c_VM_takeElement 13 = .ok (.aload_n 0, 1) := by decide +kernel
theorem d_VM_takeElement_14 : decode c_VM_takeElement 14 = .ok (.getfield 19, 3) := by decide +kernel
theorem d_VM_takeElement_17 : decode c_VM_takeElement 17 = .ok (.iconst 0, 1) := by decide +kernel
theorem d_VM_takeElement_18 : decode c_VM_takeElement 18 = .ok (.invokevirtual 121, 3) := by decide +kernel
theorem d_VM_takeElement_21 : decode c_VM_takeElement 21 = .ok (.lstore_n 1, 1) := by decide +kernel
theorem d_VM_takeElement_22 : decode c_VM_takeElement 22 = .ok (.aload_n 0, 1) := by decide +kernel
theorem d_VM_takeElement_23 : decode c_VM_takeElement 23 = .ok (.lload_n 1, 1) := by decide +kernel
theorem d_VM_takeElement_24 : decode c_VM_takeElement 24 = .ok (.aload_n 0, 1) := by decide +kernel
theorem d_VM_takeElement_25 : decode c_VM_takeElement 25 = .ok (.getfield 43, 3) := by decide +kernel
theorem d_VM_takeElement_28 : decode c_VM_takeElement 28 = .ok (.invokevirtual 266, 3) := by decide +kernel
theorem d_VM_takeElement_31 : decode c_VM_takeElement 31 = .ok (.istore_n 3, 1) := by decide +kernel
theorem d_VM_takeElement_32 : decode c_VM_takeElement 32 = .ok (.iload_n 3, 1) := by decide +kernel
theorem d_VM_takeElement_33 : decode c_VM_takeElement 33 = .ok (.ifCond .eq 5, 3) := by decide +kernel
theorem d_VM_takeElement_36 : decode c_VM_takeElement 36 = .ok (.iload_n 3, 1) := by decide +kernel
theorem d_VM_takeElement_37 : decode c_VM_takeElement 37 = .ok (.ireturn, 1) := by decide +kernel
theorem d_VM_takeElement_38 : decode c_VM_takeElement 38 = .ok (.aload_n 0, 1) := by decide +kernel
theorem d_VM_takeElement_39 : decode c_VM_takeElement 39 = .ok (.aload_n 0, 1) := by decide +kernel
theorem d_VM_takeElement_40 : decode c_VM_takeElement 40 = .ok (.getfield 33, 3) := by decide +kernel
theorem d_VM_takeElement_43 : decode c_VM_takeElement 43 = .ok (.lload_n 1, 1) := by decide +kernel
theorem d_VM_takeElement_44 : decode c_VM_takeElement 44 = .ok (.aload_n 0, 1) := by decide +kernel
theorem d_VM_takeElement_45 : decode c_VM_takeElement 45 = .ok (.getfield 43, 3) := by decide +kernel
theorem d_VM_takeElement_48 : decode c_VM_takeElement 48 = .ok (.invokestatic 142, 3) := by decide +kernel
theorem d_VM_takeElement_51 : decode c_VM_takeElement 51 = .ok (.invokevirtual 135, 3) := by decide +kernel
theorem d_VM_takeElement_54 : decode c_VM_takeElement 54 = .ok (.invokevirtual 270, 3) := by decide +kernel
theorem d_VM_takeElement_57 : decode c_VM_takeElement 57 = .ok (.ireturn, 1) := by decide +kernel
theorem d_VM_takeSize_0 : decode c_VM_takeSize 0 = .ok (.aload_n 0, 1) := by decide +kernel
theorem d_VM_takeSize_1 : decode c_VM_takeSize 1 = .ok (.getfield 43, 3) := by decide +kernel
theorem d_VM_takeSize_4 : decode c_VM_takeSize 4 = .ok (.invokestatic 139, 3) := by decide +kernel
theorem d_VM_takeSize_7 : decode c_VM_takeSize 7 = .ok (.iconst 5, 1) := by decide +kernel
theorem d_VM_takeSize_8 : decode c_VM_takeSize 8 = .ok (.if_icmp .eq 5, 3) := by decide +kernel
theorem d_VM_takeSize_11 : decode c_VM_takeSize 11 = .ok (.iconst 1, 1) := by decide +kernel
theorem d_VM_takeSize_12 : decode c_VM_takeSize 12 = .ok (.ireturn, 1) := by decide +kernel
theorem d_VM_takeSize_13 : decode c_VM_takeSize 13 = .ok (.aload_n 0, 1) := by decide +kernel
theorem d_VM_takeSize_14 : decode c_VM_takeSize 14 = .ok (.aload_n 0, 1) := by decide +kernel
theorem d_VM_takeSize_15 : decode c_VM_takeSize 15 = .ok (.getfield 33, 3) := by decide +kernel
theorem d_VM_takeSize_18 : decode c_VM_takeSize 18 = .ok (.aload_n 0, 1) := by decide +kernel
theorem d_VM_takeSize_19 : decode c_VM_takeSize 19 = .ok (.getfield 43, 3) := by decide +kernel
theorem d_VM_takeSize_22 : decode c_VM_takeSize 22 = .ok (.invokevirtual 145, 3) := by decide +kernel
theorem d_VM_takeSize_25 : decode c_VM_takeSize 25 = .ok (.invokestatic 105, 3) := by decide +kernel
theorem d_VM_takeSize_28 : decode c_VM_takeSize 28 = .ok (.invokevirtual 178, 3) := by decide +kernel
theorem d_VM_takeSize_31 : decode c_VM_takeSize 31 = .ok (.ireturn, 1) := by decide +kernel
theorem d_ValueStack_set_0 : decode c_ValueStack_set 0 = .ok (.aload_n 0, 1) := by decide +kernel
theorem d_ValueStack_set_1 : decode c_ValueStack_set 1 = .ok (.getfield 9, 3) := by decide +kernel
theorem d_ValueStack_set_4 : decode c_ValueStack_set 4 = .ok (.aload_n 0, 1) := by decide +kernel
theorem d_ValueStack_set_5 : decode c_ValueStack_set 5 = .ok (.getfield 13, 3) := by decide +kernel
theorem d_ValueStack_set_8 : decode c_ValueStack_set 8 = .ok (.iconst 1, 1) := by decide +kernel
theorem d_ValueStack_set_9 : decode c_ValueStack_set 9 = .ok (.isub, 1) := by decide +kernel
theorem d_ValueStack_set_10 : decode c_ValueStack_set 10 = .ok (.iload_n 1, 1) := by decide +kernel
theorem d_ValueStack_set_11 : decode c_ValueStack_set 11 = .ok (.isub, 1) := by decide +kernel
theorem d_ValueStack_set_12 : decode c_ValueStack_set 12 = .ok (.lload_n 2, 1) := by decide +kernel
theorem d_ValueStack_set_13 : decode c_ValueStack_set 13 = .ok (.lastore, 1) := by decide +kernel
theorem d_ValueStack_set_14 : decode c_ValueStack_set 14 = .ok (.return_, 1) := by decide +kernel
theorem d_VM_setStack_0 : decode c_VM_setStack 0 = .ok (.aload_n 0, 1) := by decide +kernel
theorem d_VM_setStack_1 : decode c_VM_setStack 1 = .ok (.getfield 19, 3) := by decide +kernel
theorem d_VM_setStack_4 : decode c_VM_setStack 4 = .ok (.iload_n 1, 1) := by decide +kernel
theorem d_VM_setStack_5 : decode c_VM_setStack 5 = .ok (.invokevirtual 117, 3) := by decide +kernel
theorem d_VM_setStack_8 : decode c_VM_setStack 8 = .ok (.ifCond .ne 5, 3) := by decide +kernel
theorem d_VM_setStack_11 : decode c_VM_setStack 11 = .ok (.iconst 3, 1) := by decide +kernel
theorem d_VM_setStack_12 : decode c_VM_setStack 12 = .ok (.ireturn, 1) := by decide +kernel
theorem d_VM_setStack_13 : decode c_VM_setStack 13 = .ok (.aload_n 0, 1) := by decide +kernel
theorem d_VM_setStack_14 : decode c_VM_setStack 14 = .ok (.getfield 19, 3) := by decide +kernel
theorem d_VM_setStack_17 : decode c_VM_setStack 17 = .ok (.iload_n 1, 1) := by decide +kernel
theorem d_VM_setStack_18 : decode c_VM_setStack 18 = .ok (.aload_n 0, 1) := by decide +kernel
theorem d_VM_setStack_19 : decode c_VM_setStack 19 = .ok (.getfield 43, 3) := by decide +kernel
theorem d_VM_setStack_22 : decode c_VM_setStack 22 = .ok (.invokevirtual 273, 3) := by decide +kernel
theorem d_VM_setStack_25 : decode c_VM_setStack 25 = .ok (.iconst 0, 1) := by decide +kernel
theorem d_VM_setStack_26 : decode c_VM_setStack 26 = .ok (.ireturn, 1) := by decide +kernel
