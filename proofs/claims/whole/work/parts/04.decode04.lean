theorem d_VM_isSame_0 : decode c_VM_isSame 0 = .ok (.aload_n 0, 1) := by decide +kernel
theorem d_VM_isSame_1 : decode c_VM_isSame 1 = .ok (.getfield 47, 3) := by decide +kernel
theorem d_VM_isSame_4 : decode c_VM_isSame 4 = .ok (.aload_n 0, 1) := by decide +kernel
theorem d_VM_isSame_5 : decode c_VM_isSame 5 = .ok (.getfield 43, 3) := by decide +kernel
theorem d_VM_isSame_8 : decode c_VM_isSame 8 = .ok (.lcmp, 1) := by decide +kernel
theorem d_VM_isSame_9 : decode c_VM_isSame 9 = .ok (.ifCond .ne 7, 3) := by decide +kernel
theorem d_VM_isSame_12 : decode c_VM_isSame 12 = .ok (.iconst 1, 1) := by decide +kernel
theorem d_VM_isSame_13 : decode c_VM_isSame 13 = .ok (.goto 4, 3) := by decide +kernel
theorem d_VM_isSame_16 : decode c_VM_isSame 16 = .ok (.iconst 0, 1) := by decide +kernel
theorem d_VM_isSame_17 : decode c_VM_isSame 17 = .ok (.ireturn, 1) := by decide +kernel
theorem d_VM_count_0 : decode c_VM_count 0 = .ok (.iload_n 1, 1) := by decide +kernel
theorem d_VM_count_1 : decode c_VM_count 1 = .ok (.tableswitch 114 0 8 #[51, 59, 64, 72, 80, 88, 96, 104, 109], 51) := by decide +kernel
theorem d_VM_count_52 : decode c_VM_count 52 = .ok (.aload_n 0, 1) := by decide +kernel
theorem d_VM_count_53 : decode c_VM_count 53 = .ok (.getfield 10, 3) := by decide +kernel
theorem d_VM_count_56 : decode c_VM_count 56 = .ok (.getfield 80, 3) := by decide +kernel
theorem d_VM_count_59 : decode c_VM_count 59 = .ok (.ireturn, 1) := by decide +kernel
theorem d_VM_count_60 : decode c_VM_count 60 = .ok (.aload_n 0, 1) := by decide +kernel
theorem d_VM_count_61 : decode c_VM_count 61 = .ok (.getfield 57, 3) := by decide +kernel
theorem d_VM_count_64 : decode c_VM_count 64 = .ok (.ireturn, 1) := by decide +kernel
theorem d_VM_count_65 : decode c_VM_count 65 = .ok (.aload_n 0, 1) := by decide +kernel
theorem d_VM_count_66 : decode c_VM_count 66 = .ok (.getfield 19, 3) := by decide +kernel
theorem d_VM_count_69 : decode c_VM_count 69 = .ok (.getfield 148, 3) := by decide +kernel
theorem d_VM_count_72 : decode c_VM_count 72 = .ok (.ireturn, 1) := by decide +kernel
theorem d_VM_count_73 : decode c_VM_count 73 = .ok (.aload_n 0, 1) := by decide +kernel
theorem d_VM_count_74 : decode c_VM_count 74 = .ok (.getfield 26, 3) := by decide +kernel
theorem d_VM_count_77 : decode c_VM_count 77 = .ok (.getfield 151, 3) := by decide +kernel
theorem d_VM_count_80 : decode c_VM_count 80 = .ok (.ireturn, 1) := by decide +kernel
theorem d_VM_count_81 : decode c_VM_count 81 = .ok (.aload_n 0, 1) := by decide +kernel
theorem d_VM_count_82 : decode c_VM_count 82 = .ok (.getfield 33, 3) := by decide +kernel
theorem d_VM_count_85 : decode c_VM_count 85 = .ok (.getfield 152, 3) := by decide +kernel
theorem d_VM_count_88 : decode c_VM_count 88 = .ok (.ireturn, 1) := by decide +kernel
theorem d_VM_count_89 : decode c_VM_count 89 = .ok (.aload_n 0, 1) := by decide +kernel
theorem d_VM_count_90 : decode c_VM_count 90 = .ok (.getfield 33, 3) := by decide +kernel
theorem d_VM_count_93 : decode c_VM_count 93 = .ok (.getfield 155, 3) := by decide +kernel
theorem d_VM_count_96 : decode c_VM_count 96 = .ok (.ireturn, 1) := by decide +kernel
theorem d_VM_count_97 : decode c_VM_count 97 = .ok (.aload_n 0, 1) := by decide +kernel
theorem d_VM_count_98 : decode c_VM_count 98 = .ok (.getfield 33, 3) := by decide +kernel
theorem d_VM_count_101 : decode c_VM_count 101 = .ok (.getfield 158, 3) := by decide +kernel
theorem d_VM_count_104 : decode c_VM_count 104 = .ok (.ireturn, 1) := by decide +kernel
theorem d_VM_count_105 : decode c_VM_count 105 = .ok (.aload_n 0, 1) := by decide +kernel
theorem d_VM_count_106 : decode c_VM_count 106 = .ok (.getfield 61, 3) := by decide +kernel
theorem d_VM_count_109 : decode c_VM_count 109 = .ok (.ireturn, 1) := by decide +kernel
theorem d_VM_count_110 : decode c_VM_count 110 = .ok (.aload_n 0, 1) := by decide +kernel
theorem d_VM_count_111 : decode c_VM_count 111 = .ok (.getfield 64, 3) := by decide +kernel
theorem d_VM_count_114 : decode c_VM_count 114 = .ok (.ireturn, 1) := by decide +kernel
theorem d_VM_count_115 : decode c_VM_count 115 = .ok (.iconst (-1), 1) := by decide +kernel
theorem d_VM_count_116 : decode c_VM_count 116 = .ok (.ireturn, 1) := by decide +kernel
theorem d_Ref_thrown_0 : decode c_Ref_thrown 0 = .ok (.aload_n 0, 1) := by decide +kernel
theorem d_Ref_thrown_1 : decode c_Ref_thrown 1 = .ok (.getfield 50, 3) := by decide +kernel
theorem d_Ref_thrown_4 : decode c_Ref_thrown 4 = .ok (.ireturn, 1) := by decide +kernel
theorem d_Ref_code_0 : decode c_Ref_code 0 = .ok (.aload_n 0, 1) := by decide +kernel
theorem d_Ref_code_1 : decode c_Ref_code 1 = .ok (.iload_n 1, 1) := by decide +kernel
theorem d_Ref_code_2 : decode c_Ref_code 2 = .ok (.ifCond .lt 9, 3) := by decide +kernel
theorem d_Ref_code_5 : decode c_Ref_code 5 = .ok (.iload_n 1, 1) := by decide +kernel
theorem d_Ref_code_6 : decode c_Ref_code 6 = .ok (.bipush 34, 2) := by decide +kernel
theorem d_Ref_code_8 : decode c_Ref_code 8 = .ok (.if_icmp .le 7, 3) := by decide +kernel
theorem d_Ref_code_11 : decode c_Ref_code 11 = .ok (.iconst 1, 1) := by decide +kernel
theorem d_Ref_code_12 : decode c_Ref_code 12 = .ok (.goto 4, 3) := by decide +kernel
theorem d_Ref_code_15 : decode c_Ref_code 15 = .ok (.iconst 0, 1) := by decide +kernel
theorem d_Ref_code_16 : decode c_Ref_code 16 = .ok (.putfield 50, 3) := by decide +kernel
theorem d_Ref_code_19 : decode c_Ref_code 19 = .ok (.aload_n 0, 1) := by decide +kernel
theorem d_Ref_code_20 : decode c_Ref_code 20 = .ok (.getfield 50, 3) := by decide +kernel
theorem d_Ref_code_23 : decode c_Ref_code 23 = .ok (.ifCond .le 5, 3) := by decide +kernel
theorem d_Ref_code_26 : decode c_Ref_code 26 = .ok (.iconst 0, 1) := by decide +kernel
theorem d_Ref_code_27 : decode c_Ref_code 27 = .ok (.ireturn, 1) := by decide +kernel
theorem d_Ref_code_28 : decode c_Ref_code 28 = .ok (.aload_n 0, 1) := by decide +kernel
theorem d_Ref_code_29 : decode c_Ref_code 29 = .ok (.getfield 54, 3) := by decide +kernel
theorem d_Ref_code_32 : decode c_Ref_code 32 = .ok (.sipush 150, 3) := by decide +kernel
theorem d_Ref_code_35 : decode c_Ref_code 35 = .ok (.if_icmp .ne 5, 3) := by decide +kernel
theorem d_Ref_code_38 : decode c_Ref_code 38 = .ok (.iconst (-1), 1) := by decide +kernel
theorem d_Ref_code_39 : decode c_Ref_code 39 = .ok (.ireturn, 1) := by decide +kernel
theorem d_Ref_code_40 : decode c_Ref_code 40 = .ok (.aload_n 0, 1) := by decide +kernel
theorem d_Ref_code_41 : decode c_Ref_code 41 = .ok (.getfield 7, 3) := by decide +kernel
theorem d_Ref_code_44 : decode c_Ref_code 44 = .ok (.aload_n 0, 1) := by decide +kernel
theorem d_Ref_code_45 : decode c_Ref_code 45 = .ok (.getfield 54, 3) := by decide +kernel
theorem d_Ref_code_48 : decode c_Ref_code 48 = .ok (.iload_n 1, 1) := by decide +kernel
theorem d_Ref_code_49 : decode c_Ref_code 49 = .ok (.iastore, 1) := by decide +kernel
theorem d_Ref_code_50 : decode c_Ref_code 50 = .ok (.aload_n 0, 1) := by decide +kernel
theorem d_Ref_code_51 : decode c_Ref_code 51 = .ok (.getfield 13, 3) := by decide +kernel
theorem d_Ref_code_54 : decode c_Ref_code 54 = .ok (.aload_n 0, 1) := by decide +kernel
theorem d_Ref_code_55 : decode c_Ref_code 55 = .ok (.getfield 54, 3) := by decide +kernel
theorem d_Ref_code_58 : decode c_Ref_code 58 = .ok (.iload_n 2, 1) := by decide +kernel
theorem d_Ref_code_59 : decode c_Ref_code 59 = .ok (.iastore, 1) := by decide +kernel
theorem d_Ref_code_60 : decode c_Ref_code 60 = .ok (.aload_n 0, 1) := by decide +kernel
theorem d_Ref_code_61 : decode c_Ref_code 61 = .ok (.dup, 1) := by decide +kernel
theorem d_Ref_code_62 : decode c_Ref_code 62 = .ok (.getfield 54, 3) := by decide +kernel
theorem d_Ref_code_65 : decode c_Ref_code 65 = .ok (.iconst 1, 1) := by decide +kernel
theorem d_Ref_code_66 : decode c_Ref_code 66 = .ok (.iadd, 1) := by decide +kernel
theorem d_Ref_code_67 : decode c_Ref_code 67 = .ok (.putfield 54, 3) := by decide +kernel
theorem d_Ref_code_70 : decode c_Ref_code 70 = .ok (.aload_n 0, 1) := by decide +kernel
theorem d_Ref_code_71 : decode c_Ref_code 71 = .ok (.getfield 54, 3) := by decide +kernel
theorem d_Ref_code_74 : decode c_Ref_code 74 = .ok (.ireturn, 1) := by decide +kernel
theorem d_Ref_reset_0 : decode c_Ref_reset 0 = .ok (.aload_n 0, 1) := by decide +kernel
theorem d_Ref_reset_1 : decode c_Ref_reset 1 = .ok (.iconst 0, 1) := by decide +kernel
theorem d_Ref_reset_2 : decode c_Ref_reset 2 = .ok (.putfield 50, 3) := by decide +kernel
theorem d_Ref_reset_5 : decode c_Ref_reset 5 = .ok (.aload_n 0, 1) := by decide +kernel
theorem d_Ref_reset_6 : decode c_Ref_reset 6 = .ok (.iconst 0, 1) := by decide +kernel
theorem d_Ref_reset_7 : decode c_Ref_reset 7 = .ok (.putfield 60, 3) := by decide +kernel
theorem d_Ref_reset_10 : decode c_Ref_reset 10 = .ok (.aload_n 0, 1) := by decide +kernel
theorem d_Ref_reset_11 : decode c_Ref_reset 11 = .ok (.iconst 0, 1) := by decide +kernel
theorem d_Ref_reset_12 : decode c_Ref_reset 12 = .ok (.putfield 63, 3) := by decide +kernel
theorem d_Ref_reset_15 : decode c_Ref_reset 15 = .ok (.aload_n 0, 1) := by decide +kernel
theorem d_Ref_reset_16 : decode c_Ref_reset 16 = .ok (.iconst 0, 1) := by decide +kernel
theorem d_Ref_reset_17 : decode c_Ref_reset 17 = .ok (.putfield 66, 3) := by decide +kernel
theorem d_Ref_reset_20 : decode c_Ref_reset 20 = .ok (.aload_n 0, 1) := by decide +kernel
theorem d_Ref_reset_21 : decode c_Ref_reset 21 = .ok (.iconst 0, 1) := by decide +kernel
theorem d_Ref_reset_22 : decode c_Ref_reset 22 = .ok (.putfield 69, 3) := by decide +kernel
theorem d_Ref_reset_25 : decode c_Ref_reset 25 = .ok (.iconst 0, 1) := by decide +kernel
theorem d_Ref_reset_26 : decode c_Ref_reset 26 = .ok (.istore_n 1, 1) := by decide +kernel
theorem d_Ref_reset_27 : decode c_Ref_reset 27 = .ok (.iload_n 1, 1) := by decide +kernel
theorem d_Ref_reset_28 : decode c_Ref_reset 28 = .ok (.bipush 8, 2) := by decide +kernel
theorem d_Ref_reset_30 : decode c_Ref_reset 30 = .ok (.if_icmp .ge 23, 3) := by decide +kernel
theorem d_Ref_reset_33 : decode c_Ref_reset 33 = .ok (.aload_n 0, 1) := by decide +kernel
theorem d_Ref_reset_34 : decode c_Ref_reset 34 = .ok (.getfield 22, 3) := by decide +kernel
theorem d_Ref_reset_37 : decode c_Ref_reset 37 = .ok (.iload_n 1, 1) := by decide +kernel
theorem d_Ref_reset_38 : decode c_Ref_reset 38 = .ok (.iconst 0, 1) := by decide +kernel
theorem d_Ref_reset_39 : decode c_Ref_reset 39 = .ok (.iastore, 1) := by decide +kernel
theorem d_Ref_reset_40 : decode c_Ref_reset 40 = .ok (.aload_n 0, 1) := by decide +kernel
theorem d_Ref_reset_41 : decode c_Ref_reset 41 = .ok (.getfield 25, 3) := by decide +kernel
theorem d_Ref_reset_44 : decode c_Ref_reset 44 = .ok (.iload_n 1, 1) := by decide +kernel
theorem d_Ref_reset_45 : decode c_Ref_reset 45 = .ok (.iconst 0, 1) := by decide +kernel
theorem d_Ref_reset_46 : decode c_Ref_reset 46 = .ok (.iastore, 1) := by decide +kernel
theorem d_Ref_reset_47 : decode c_Ref_reset 47 = .ok (.iinc 1 1, 3) := by decide +kernel
theorem d_Ref_reset_50 : decode c_Ref_reset 50 = .ok (.goto (-23), 3) := by decide +kernel
theorem d_Ref_reset_53 : decode c_Ref_reset 53 = .ok (.iconst 0, 1) := by decide +kernel
theorem d_Ref_reset_54 : decode c_Ref_reset 54 = .ok (.istore_n 1, 1) := by decide +kernel
theorem d_Ref_reset_55 : decode c_Ref_reset 55 = .ok (.iload_n 1, 1) := by decide +kernel
theorem d_Ref_reset_56 : decode c_Ref_reset 56 = .ok (.bipush 30, 2) := by decide +kernel
theorem d_Ref_reset_58 : decode c_Ref_reset 58 = .ok (.if_icmp .ge 16, 3) := by decide +kernel
theorem d_Ref_reset_61 : decode c_Ref_reset 61 = .ok (.aload_n 0, 1) := by decide +kernel
theorem d_Ref_reset_62 : decode c_Ref_reset 62 = .ok (.getfield 34, 3) := by decide +kernel
theorem d_Ref_reset_65 : decode c_Ref_reset 65 = .ok (.iload_n 1, 1) := by decide +kernel
theorem d_Ref_reset_66 : decode c_Ref_reset 66 = .ok (.iconst 0, 1) := by decide +kernel
theorem d_Ref_reset_67 : decode c_Ref_reset 67 = .ok (.iastore, 1) := by decide +kernel
theorem d_Ref_reset_68 : decode c_Ref_reset 68 = .ok (.iinc 1 1, 3) := by decide +kernel
theorem d_Ref_reset_71 : decode c_Ref_reset 71 = .ok (.goto (-16), 3) := by decide +kernel
theorem d_Ref_reset_74 : decode c_Ref_reset 74 = .ok (.aload_n 0, 1) := by decide +kernel
theorem d_Ref_reset_75 : decode c_Ref_reset 75 = .ok (.iconst 0, 1) := by decide +kernel
theorem d_Ref_reset_76 : decode c_Ref_reset 76 = .ok (.putfield 72, 3) := by decide +kernel
theorem d_Ref_reset_79 : decode c_Ref_reset 79 = .ok (.aload_n 0, 1) := by decide +kernel
theorem d_Ref_reset_80 : decode c_Ref_reset 80 = .ok (.iconst 0, 1) := by decide +kernel
theorem d_Ref_reset_81 : decode c_Ref_reset 81 = .ok (.putfield 75, 3) := by decide +kernel
theorem d_Ref_reset_84 : decode c_Ref_reset 84 = .ok (.aload_n 0, 1) := by decide +kernel
theorem d_Ref_reset_85 : decode c_Ref_reset 85 = .ok (.iconst 0, 1) := by decide +kernel
theorem d_Ref_reset_86 : decode c_Ref_reset 86 = .ok (.putfield 79, 3) := by decide +kernel
theorem d_Ref_reset_89 : decode c_Ref_reset 89 = .ok (.aload_n 0, 1) := by decide +kernel
theorem d_Ref_reset_90 : decode c_Ref_reset 90 = .ok (.iconst 0, 1) := by decide +kernel
theorem d_Ref_reset_91 : decode c_Ref_reset 91 = .ok (.putfield 82, 3) := by decide +kernel
theorem d_Ref_reset_94 : decode c_Ref_reset 94 = .ok (.aload_n 0, 1) := by decide +kernel
theorem d_Ref_reset_95 : decode c_Ref_reset 95 = .ok (.iconst 0, 1) := by decide +kernel
theorem d_Ref_reset_96 : decode c_Ref_reset 96 = .ok (.putfield 85, 3) := by decide +kernel
theorem d_Ref_reset_99 : decode c_Ref_reset 99 = .ok (.aload_n 0, 1) := by decide +kernel
theorem d_Ref_reset_100 : decode c_Ref_reset 100 = .ok (.iconst 0, 1) := by decide +kernel
theorem d_Ref_reset_101 : decode c_Ref_reset 101 = .ok (.putfield 88, 3) := by decide +kernel
theorem d_Ref_reset_104 : decode c_Ref_reset 104 = .ok (.aload_n 0, 1) := by decide +kernel
theorem d_Ref_reset_105 : decode c_Ref_reset 105 = .ok (.iconst 0, 1) := by decide +kernel
theorem d_Ref_reset_106 : decode c_Ref_reset 106 = .ok (.putfield 91, 3) := by decide +kernel
theorem d_Ref_reset_109 : decode c_Ref_reset 109 = .ok (.aload_n 0, 1) := by decide +kernel
theorem d_Ref_reset_110 : decode c_Ref_reset 110 = .ok (.iconst 0, 1) := by decide +kernel
theorem d_Ref_reset_111 : decode c_Ref_reset 111 = .ok (.putfield 94, 3) := by decide +kernel
theorem d_Ref_reset_114 : decode c_Ref_reset 114 = .ok (.return_, 1) := by decide +kernel
theorem d_Ref_clear_0 : decode c_Ref_clear 0 = .ok (.aload_n 0, 1) := by decide +kernel
theorem d_Ref_clear_1 : decode c_Ref_clear 1 = .ok (.invokevirtual 57, 3) := by decide +kernel
theorem d_Ref_clear_4 : decode c_Ref_clear 4 = .ok (.aload_n 0, 1) := by decide +kernel
theorem d_Ref_clear_5 : decode c_Ref_clear 5 = .ok (.iconst 0, 1) := by decide +kernel
theorem d_Ref_clear_6 : decode c_Ref_clear 6 = .ok (.putfield 54, 3) := by decide +kernel
theorem d_Ref_clear_9 : decode c_Ref_clear 9 = .ok (.return_, 1) := by decide +kernel
theorem d_Ref_acc_0 : decode c_Ref_acc 0 = .ok (.aload_n 0, 1) := by decide +kernel
theorem d_Ref_acc_1 : decode c_Ref_acc 1 = .ok (.iload_n 1, 1) := by decide +kernel
theorem d_Ref_acc_2 : decode c_Ref_acc 2 = .ok (.putfield 60, 3) := by decide +kernel
theorem d_Ref_acc_5 : decode c_Ref_acc 5 = .ok (.aload_n 0, 1) := by decide +kernel
theorem d_Ref_acc_6 : decode c_Ref_acc 6 = .ok (.iload_n 2, 1) := by decide +kernel
theorem d_Ref_acc_7 : decode c_Ref_acc 7 = .ok (.putfield 63, 3) := by decide +kernel
theorem d_Ref_acc_10 : decode c_Ref_acc 10 = .ok (.return_, 1) := by decide +kernel
theorem d_Ref_truth_0 : decode c_Ref_truth 0 = .ok (.aload_n 0, 1) := by decide +kernel
theorem d_Ref_truth_1 : decode c_Ref_truth 1 = .ok (.iload_n 1, 1) := by decide +kernel
theorem d_Ref_truth_2 : decode c_Ref_truth 2 = .ok (.ifCond .eq 7, 3) := by decide +kernel
theorem d_Ref_truth_5 : decode c_Ref_truth 5 = .ok (.iconst 2, 1) := by decide +kernel
theorem d_Ref_truth_6 : decode c_Ref_truth 6 = .ok (.goto 4, 3) := by decide +kernel
theorem d_Ref_truth_9 : decode c_Ref_truth 9 = .ok (.iconst 1, 1) := by decide +kernel
theorem d_Ref_truth_10 : decode c_Ref_truth 10 = .ok (.iconst 0, 1) := by decide +kernel
theorem d_Ref_truth_11 : decode c_Ref_truth 11 = .ok (.invokevirtual 97, 3) := by decide +kernel
theorem d_Ref_truth_14 : decode c_Ref_truth 14 = .ok (.return_, 1) := by decide +kernel
theorem d_Ref_deep_0 : decode c_Ref_deep 0 = .ok (.aload_n 0, 1) := by decide +kernel
theorem d_Ref_deep_1 : decode c_Ref_deep 1 = .ok (.getfield 66, 3) := by decide +kernel
theorem d_Ref_deep_4 : decode c_Ref_deep 4 = .ok (.iconst 1, 1) := by decide +kernel
theorem d_Ref_deep_5 : decode c_Ref_deep 5 = .ok (.isub, 1) := by decide +kernel
theorem d_Ref_deep_6 : decode c_Ref_deep 6 = .ok (.iload_n 1, 1) := by decide +kernel
theorem d_Ref_deep_7 : decode c_Ref_deep 7 = .ok (.isub, 1) := by decide +kernel
theorem d_Ref_deep_8 : decode c_Ref_deep 8 = .ok (.ireturn, 1) := by decide +kernel
theorem d_Ref_needs_0 : decode c_Ref_needs 0 = .ok (.iload_n 1, 1) := by decide +kernel
theorem d_Ref_needs_1 : decode c_Ref_needs 1 = .ok (.ifCond .ne 36, 3) := by decide +kernel
theorem d_Ref_needs_4 : decode c_Ref_needs 4 = .ok (.aload_n 0, 1) := by decide +kernel
theorem d_Ref_needs_5 : decode c_Ref_needs 5 = .ok (.getfield 101, 3) := by decide +kernel
theorem d_Ref_needs_8 : decode c_Ref_needs 8 = .ok (.ifCond .eq 24, 3) := by decide +kernel
theorem d_Ref_needs_11 : decode c_Ref_needs 11 = .ok (.aload_n 0, 1) := by decide +kernel
theorem d_Ref_needs_12 : decode c_Ref_needs 12 = .ok (.getfield 101, 3) := by decide +kernel
theorem d_Ref_needs_15 : decode c_Ref_needs 15 = .ok (.iconst 3, 1) := by decide +kernel
theorem d_Ref_needs_16 : decode c_Ref_needs 16 = .ok (.if_icmp .eq 21, 3) := by decide +kernel
theorem d_Ref_needs_19 : decode c_Ref_needs 19 = .ok (.iload_n 2, 1) := by decide +kernel
theorem d_Ref_needs_20 : decode c_Ref_needs 20 = .ok (.iconst 3, 1) := by decide +kernel
theorem d_Ref_needs_21 : decode c_Ref_needs 21 = .ok (.if_icmp .eq 11, 3) := by decide +kernel
theorem d_Ref_needs_24 : decode c_Ref_needs 24 = .ok (.iload_n 2, 1) := by decide +kernel
theorem d_Ref_needs_25 : decode c_Ref_needs 25 = .ok (.aload_n 0, 1) := by decide +kernel
theorem d_Ref_needs_26 : decode c_Ref_needs 26 = .ok (.getfield 101, 3) := by decide +kernel
theorem d_Ref_needs_29 : decode c_Ref_needs 29 = .ok (.if_icmp .ge 8, 3) := by decide +kernel
theorem d_Ref_needs_32 : decode c_Ref_needs 32 = .ok (.aload_n 0, 1) := by decide +kernel
theorem d_Ref_needs_33 : decode c_Ref_needs 33 = .ok (.iload_n 2, 1) := by decide +kernel
theorem d_Ref_needs_34 : decode c_Ref_needs 34 = .ok (.putfield 101, 3) := by decide +kernel
theorem d_Ref_needs_37 : decode c_Ref_needs 37 = .ok (.iload_n 1, 1) := by decide +kernel
theorem d_Ref_needs_38 : decode c_Ref_needs 38 = .ok (.ireturn, 1) := by decide +kernel
theorem d_Ref_has_0 : decode c_Ref_has 0 = .ok (.aload_n 0, 1) := by decide +kernel
theorem d_Ref_has_1 : decode c_Ref_has 1 = .ok (.iload_n 1, 1) := by decide +kernel
theorem d_Ref_has_2 : decode c_Ref_has 2 = .ok (.ifCond .lt 15, 3) := by decide +kernel
theorem d_Ref_has_5 : decode c_Ref_has 5 = .ok (.iload_n 1, 1) := by decide +kernel
theorem d_Ref_has_6 : decode c_Ref_has 6 = .ok (.aload_n 0, 1) := by decide +kernel
theorem d_Ref_has_7 : decode c_Ref_has 7 = .ok (.getfield 66, 3) := by decide +kernel
theorem d_Ref_has_10 : decode c_Ref_has 10 = .ok (.if_icmp .gt 7, 3) := by decide +kernel
theorem d_Ref_has_13 : decode c_Ref_has 13 = .ok (.iconst 1, 1) := by decide +kernel
theorem d_Ref_has_14 : decode c_Ref_has 14 = .ok (.goto 4, 3) := by decide +kernel
theorem d_Ref_has_17 : decode c_Ref_has 17 = .ok (.iconst 0, 1) := by decide +kernel
theorem d_Ref_has_18 : decode c_Ref_has 18 = .ok (.iconst 3, 1) := by decide +kernel
theorem d_Ref_has_19 : decode c_Ref_has 19 = .ok (.invokevirtual 104, 3) := by decide +kernel
theorem d_Ref_has_22 : decode c_Ref_has 22 = .ok (.ireturn, 1) := by decide +kernel
theorem d_Ref_isSort_0 : decode c_Ref_isSort 0 = .ok (.aload_n 0, 1) := by decide +kernel
theorem d_Ref_isSort_1 : decode c_Ref_isSort 1 = .ok (.aload_n 0, 1) := by decide +kernel
theorem d_Ref_isSort_2 : decode c_Ref_isSort 2 = .ok (.getfield 16, 3) := by decide +kernel
theorem d_Ref_isSort_5 : decode c_Ref_isSort 5 = .ok (.aload_n 0, 1) := by decide +kernel
theorem d_Ref_isSort_6 : decode c_Ref_isSort 6 = .ok (.iload_n 1, 1) := by decide +kernel
theorem d_Ref_isSort_7 : decode c_Ref_isSort 7 = .ok (.invokevirtual 108, 3) := by decide +kernel
theorem d_Ref_isSort_10 : decode c_Ref_isSort 10 = .ok (.iaload, 1) := by decide +kernel
theorem d_Ref_isSort_11 : decode c_Ref_isSort 11 = .ok (.iload_n 2, 1) := by decide +kernel
theorem d_Ref_isSort_12 : decode c_Ref_isSort 12 = .ok (.if_icmp .ne 7, 3) := by decide +kernel
theorem d_Ref_isSort_15 : decode c_Ref_isSort 15 = .ok (.iconst 1, 1) := by decide +kernel
theorem d_Ref_isSort_16 : decode c_Ref_isSort 16 = .ok (.goto 4, 3) := by decide +kernel
theorem d_Ref_isSort_19 : decode c_Ref_isSort 19 = .ok (.iconst 0, 1) := by decide +kernel
theorem d_Ref_isSort_20 : decode c_Ref_isSort 20 = .ok (.iconst 1, 1) := by decide +kernel
theorem d_Ref_isSort_21 : decode c_Ref_isSort 21 = .ok (.invokevirtual 104, 3) := by decide +kernel
theorem d_Ref_isSort_24 : decode c_Ref_isSort 24 = .ok (.ireturn, 1) := by decide +kernel
theorem d_Ref_isAcc_0 : decode c_Ref_isAcc 0 = .ok (.aload_n 0, 1) := by decide +kernel
theorem d_Ref_isAcc_1 : decode c_Ref_isAcc 1 = .ok (.aload_n 0, 1) := by decide +kernel
theorem d_Ref_isAcc_2 : decode c_Ref_isAcc 2 = .ok (.getfield 60, 3) := by decide +kernel
theorem d_Ref_isAcc_5 : decode c_Ref_isAcc 5 = .ok (.iload_n 1, 1) := by decide +kernel
theorem d_Ref_isAcc_6 : decode c_Ref_isAcc 6 = .ok (.if_icmp .ne 7, 3) := by decide +kernel
theorem d_Ref_isAcc_9 : decode c_Ref_isAcc 9 = .ok (.iconst 1, 1) := by decide +kernel
theorem d_Ref_isAcc_10 : decode c_Ref_isAcc 10 = .ok (.goto 4, 3) := by decide +kernel
theorem d_Ref_isAcc_13 : decode c_Ref_isAcc 13 = .ok (.iconst 0, 1) := by decide +kernel
theorem d_Ref_isAcc_14 : decode c_Ref_isAcc 14 = .ok (.iconst 1, 1) := by decide +kernel
theorem d_Ref_isAcc_15 : decode c_Ref_isAcc 15 = .ok (.invokevirtual 104, 3) := by decide +kernel
theorem d_Ref_isAcc_18 : decode c_Ref_isAcc 18 = .ok (.ireturn, 1) := by decide +kernel
theorem d_Ref_isPlace_0 : decode c_Ref_isPlace 0 = .ok (.aload_n 0, 1) := by decide +kernel
theorem d_Ref_isPlace_1 : decode c_Ref_isPlace 1 = .ok (.iload_n 1, 1) := by decide +kernel
theorem d_Ref_isPlace_2 : decode c_Ref_isPlace 2 = .ok (.ifCond .lt 15, 3) := by decide +kernel
theorem d_Ref_isPlace_5 : decode c_Ref_isPlace 5 = .ok (.iload_n 1, 1) := by decide +kernel
theorem d_Ref_isPlace_6 : decode c_Ref_isPlace 6 = .ok (.aload_n 0, 1) := by decide +kernel
theorem d_Ref_isPlace_7 : decode c_Ref_isPlace 7 = .ok (.getfield 54, 3) := by decide +kernel
theorem d_Ref_isPlace_10 : decode c_Ref_isPlace 10 = .ok (.if_icmp .gt 7, 3) := by decide +kernel
theorem d_Ref_isPlace_13 : decode c_Ref_isPlace 13 = .ok (.iconst 1, 1) := by decide +kernel
theorem d_Ref_isPlace_14 : decode c_Ref_isPlace 14 = .ok (.goto 4, 3) := by decide +kernel
theorem d_Ref_isPlace_17 : decode c_Ref_isPlace 17 = .ok (.iconst 0, 1) := by decide +kernel
theorem d_Ref_isPlace_18 : decode c_Ref_isPlace 18 = .ok (.bipush 8, 2) := by decide +kernel
theorem d_Ref_isPlace_20 : decode c_Ref_isPlace 20 = .ok (.invokevirtual 104, 3) := by decide +kernel
theorem d_Ref_isPlace_23 : decode c_Ref_isPlace 23 = .ok (.ireturn, 1) := by decide +kernel
theorem d_Ref_meets_0 : decode c_Ref_meets 0 = .ok (.iload_n 1, 1) := by decide +kernel
theorem d_Ref_meets_1 : decode c_Ref_meets 1 = .ok (.iconst 4, 1) := by decide +kernel
theorem d_Ref_meets_2 : decode c_Ref_meets 2 = .ok (.if_icmp .eq 8, 3) := by decide +kernel
theorem d_Ref_meets_5 : decode c_Ref_meets 5 = .ok (.iload_n 1, 1) := by decide +kernel
theorem d_Ref_meets_6 : decode c_Ref_meets 6 = .ok (.iconst 5, 1) := by decide +kernel
theorem d_Ref_meets_7 : decode c_Ref_meets 7 = .ok (.if_icmp .ne 10, 3) := by decide +kernel
theorem d_Ref_meets_10 : decode c_Ref_meets 10 = .ok (.aload_n 0, 1) := by decide +kernel
theorem d_Ref_meets_11 : decode c_Ref_meets 11 = .ok (.getfield 46, 3) := by decide +kernel
theorem d_Ref_meets_14 : decode c_Ref_meets 14 = .ok (.iload_n 2, 1) := by decide +kernel
theorem d_Ref_meets_15 : decode c_Ref_meets 15 = .ok (.iconst 1, 1) := by decide +kernel
theorem d_Ref_meets_16 : decode c_Ref_meets 16 = .ok (.bastore, 1) := by decide +kernel
theorem d_Ref_meets_17 : decode c_Ref_meets 17 = .ok (.return_, 1) := by decide +kernel
theorem d_Ref_many_0 : decode c_Ref_many 0 = .ok (.iconst 0, 1) := by decide +kernel
theorem d_Ref_many_1 : decode c_Ref_many 1 = .ok (.istore_n 1, 1) := by decide +kernel
theorem d_Ref_many_2 : decode c_Ref_many 2 = .ok (.iconst 0, 1) := by decide +kernel
theorem d_Ref_many_3 : decode c_Ref_many 3 = .ok (.istore_n 2, 1) := by decide +kernel
theorem d_Ref_many_4 : decode c_Ref_many 4 = .ok (.iload_n 2, 1) := by decide +kernel
theorem d_Ref_many_5 : decode c_Ref_many 5 = .ok (.bipush 30, 2) := by decide +kernel
theorem d_Ref_many_7 : decode c_Ref_many 7 = .ok (.if_icmp .ge 26, 3) := by decide +kernel
theorem d_Ref_many_10 : decode c_Ref_many 10 = .ok (.iload_n 1, 1) := by decide +kernel
theorem d_Ref_many_11 : decode c_Ref_many 11 = .ok (.aload_n 0, 1) := by decide +kernel
theorem d_Ref_many_12 : decode c_Ref_many 12 = .ok (.getfield 34, 3) := by decide +kernel
theorem d_Ref_many_15 : decode c_Ref_many 15 = .ok (.iload_n 2, 1) := by decide +kernel
theorem d_Ref_many_16 : decode c_Ref_many 16 = .ok (.iaload, 1) := by decide +kernel
theorem d_Ref_many_17 : decode c_Ref_many 17 = .ok (.ifCond .eq 7, 3) := by decide +kernel
theorem d_Ref_many_20 : decode c_Ref_many 20 = .ok (.iconst 1, 1) := by decide +kernel
theorem d_Ref_many_21 : decode c_Ref_many 21 = .ok (.goto 4, 3) := by decide +kernel
theorem d_Ref_many_24 : decode c_Ref_many 24 = .ok (.iconst 0, 1) := by decide +kernel
theorem d_Ref_many_25 : decode c_Ref_many 25 = .ok (.iadd, 1) := by decide +kernel
theorem d_Ref_many_26 : decode c_Ref_many 26 = .ok (.istore_n 1, 1) := by decide +kernel
theorem d_Ref_many_27 : decode c_Ref_many 27 = .ok (.iinc 2 1, 3) := by decide +kernel
theorem d_Ref_many_30 : decode c_Ref_many 30 = .ok (.goto (-26), 3) := by decide +kernel
theorem d_Ref_many_33 : decode c_Ref_many 33 = .ok (.iload_n 1, 1) := by decide +kernel
theorem d_Ref_many_34 : decode c_Ref_many 34 = .ok (.ireturn, 1) := by decide +kernel
theorem d_Ref_sweeps_0 : decode c_Ref_sweeps 0 = .ok (.aload_n 0, 1) := by decide +kernel
theorem d_Ref_sweeps_1 : decode c_Ref_sweeps 1 = .ok (.dup, 1) := by decide +kernel
theorem d_Ref_sweeps_2 : decode c_Ref_sweeps 2 = .ok (.getfield 88, 3) := by decide +kernel
theorem d_Ref_sweeps_5 : decode c_Ref_sweeps 5 = .ok (.iconst 1, 1) := by decide +kernel
theorem d_Ref_sweeps_6 : decode c_Ref_sweeps 6 = .ok (.iadd, 1) := by decide +kernel
theorem d_Ref_sweeps_7 : decode c_Ref_sweeps 7 = .ok (.putfield 88, 3) := by decide +kernel
theorem d_Ref_sweeps_10 : decode c_Ref_sweeps 10 = .ok (.iconst 0, 1) := by decide +kernel
theorem d_Ref_sweeps_11 : decode c_Ref_sweeps 11 = .ok (.istore_n 1, 1) := by decide +kernel
theorem d_Ref_sweeps_12 : decode c_Ref_sweeps 12 = .ok (.iload_n 1, 1) := by decide +kernel
theorem d_Ref_sweeps_13 : decode c_Ref_sweeps 13 = .ok (.bipush 30, 2) := by decide +kernel
theorem d_Ref_sweeps_15 : decode c_Ref_sweeps 15 = .ok (.if_icmp .ge 16, 3) := by decide +kernel
theorem d_Ref_sweeps_18 : decode c_Ref_sweeps 18 = .ok (.aload_n 0, 1) := by decide +kernel
theorem d_Ref_sweeps_19 : decode c_Ref_sweeps 19 = .ok (.getfield 46, 3) := by decide +kernel
theorem d_Ref_sweeps_22 : decode c_Ref_sweeps 22 = .ok (.iload_n 1, 1) := by decide +kernel
theorem d_Ref_sweeps_23 : decode c_Ref_sweeps 23 = .ok (.iconst 0, 1) := by decide +kernel
theorem d_Ref_sweeps_24 : decode c_Ref_sweeps 24 = .ok (.bastore, 1) := by decide +kernel
theorem d_Ref_sweeps_25 : decode c_Ref_sweeps 25 = .ok (.iinc 1 1, 3) := by decide +kernel
theorem d_Ref_sweeps_28 : decode c_Ref_sweeps 28 = .ok (.goto (-16), 3) := by decide +kernel
theorem d_Ref_sweeps_31 : decode c_Ref_sweeps 31 = .ok (.aload_n 0, 1) := by decide +kernel
theorem d_Ref_sweeps_32 : decode c_Ref_sweeps 32 = .ok (.aload_n 0, 1) := by decide +kernel
theorem d_Ref_sweeps_33 : decode c_Ref_sweeps 33 = .ok (.getfield 60, 3) := by decide +kernel
theorem d_Ref_sweeps_36 : decode c_Ref_sweeps 36 = .ok (.aload_n 0, 1) := by decide +kernel
theorem d_Ref_sweeps_37 : decode c_Ref_sweeps 37 = .ok (.getfield 63, 3) := by decide +kernel
theorem d_Ref_sweeps_40 : decode c_Ref_sweeps 40 = .ok (.invokevirtual 112, 3) := by decide +kernel
theorem d_Ref_sweeps_43 : decode c_Ref_sweeps 43 = .ok (.iconst 0, 1) := by decide +kernel
theorem d_Ref_sweeps_44 : decode c_Ref_sweeps 44 = .ok (.istore_n 1, 1) := by decide +kernel
theorem d_Ref_sweeps_45 : decode c_Ref_sweeps 45 = .ok (.iload_n 1, 1) := by decide +kernel
theorem d_Ref_sweeps_46 : decode c_Ref_sweeps 46 = .ok (.aload_n 0, 1) := by decide +kernel
theorem d_Ref_sweeps_47 : decode c_Ref_sweeps 47 = .ok (.getfield 66, 3) := by decide +kernel
theorem d_Ref_sweeps_50 : decode c_Ref_sweeps 50 = .ok (.if_icmp .ge 25, 3) := by decide +kernel
theorem d_Ref_sweeps_53 : decode c_Ref_sweeps 53 = .ok (.aload_n 0, 1) := by decide +kernel
theorem d_Ref_sweeps_54 : decode c_Ref_sweeps 54 = .ok (.aload_n 0, 1) := by decide +kernel
theorem d_Ref_sweeps_55 : decode c_Ref_sweeps 55 = .ok (.getfield 16, 3) := by decide +kernel
theorem d_Ref_sweeps_58 : decode c_Ref_sweeps 58 = .ok (.iload_n 1, 1) := by decide +kernel
theorem d_Ref_sweeps_59 : decode c_Ref_sweeps 59 = .ok (.iaload, 1) := by decide +kernel
theorem d_Ref_sweeps_60 : decode c_Ref_sweeps 60 = .ok (.aload_n 0, 1) := by decide +kernel
theorem d_Ref_sweeps_61 : decode c_Ref_sweeps 61 = .ok (.getfield 19, 3) := by decide +kernel
theorem d_Ref_sweeps_64 : decode c_Ref_sweeps 64 = .ok (.iload_n 1, 1) := by decide +kernel
theorem d_Ref_sweeps_65 : decode c_Ref_sweeps 65 = .ok (.iaload, 1) := by decide +kernel
theorem d_Ref_sweeps_66 : decode c_Ref_sweeps 66 = .ok (.invokevirtual 112, 3) := by decide +kernel
theorem d_Ref_sweeps_69 : decode c_Ref_sweeps 69 = .ok (.iinc 1 1, 3) := by decide +kernel
theorem d_Ref_sweeps_72 : decode c_Ref_sweeps 72 = .ok (.goto (-27), 3) := by decide +kernel
theorem d_Ref_sweeps_75 : decode c_Ref_sweeps 75 = .ok (.iconst 0, 1) := by decide +kernel
theorem d_Ref_sweeps_76 : decode c_Ref_sweeps 76 = .ok (.istore_n 1, 1) := by decide +kernel
theorem d_Ref_sweeps_77 : decode c_Ref_sweeps 77 = .ok (.iload_n 1, 1) := by decide +kernel
theorem d_Ref_sweeps_78 : decode c_Ref_sweeps 78 = .ok (.bipush 8, 2) := by decide +kernel
theorem d_Ref_sweeps_80 : decode c_Ref_sweeps 80 = .ok (.if_icmp .ge 25, 3) := by decide +kernel
theorem d_Ref_sweeps_83 : decode c_Ref_sweeps 83 = .ok (.aload_n 0, 1) := by decide +kernel
theorem d_Ref_sweeps_84 : decode c_Ref_sweeps 84 = .ok (.aload_n 0, 1) := by decide +kernel
theorem d_Ref_sweeps_85 : decode c_Ref_sweeps 85 = .ok (.getfield 22, 3) := by decide +kernel
theorem d_Ref_sweeps_88 : decode c_Ref_sweeps 88 = .ok (.iload_n 1, 1) := by decide +kernel
theorem d_Ref_sweeps_89 : decode c_Ref_sweeps 89 = .ok (.iaload, 1) := by decide +kernel
theorem d_Ref_sweeps_90 : decode c_Ref_sweeps 90 = .ok (.aload_n 0, 1) := by decide +kernel
theorem d_Ref_sweeps_91 : decode c_Ref_sweeps 91 = .ok (.getfield 25, 3) := by decide +kernel
theorem d_Ref_sweeps_94 : decode c_Ref_sweeps 94 = .ok (.iload_n 1, 1) := by decide +kernel
theorem d_Ref_sweeps_95 : decode c_Ref_sweeps 95 = .ok (.iaload, 1) := by decide +kernel
theorem d_Ref_sweeps_96 : decode c_Ref_sweeps 96 = .ok (.invokevirtual 112, 3) := by decide +kernel
theorem d_Ref_sweeps_99 : decode c_Ref_sweeps 99 = .ok (.iinc 1 1, 3) := by decide +kernel
theorem d_Ref_sweeps_102 : decode c_Ref_sweeps 102 = .ok (.goto (-25), 3) := by decide +kernel
theorem d_Ref_sweeps_105 : decode c_Ref_sweeps 105 = .ok (.iconst 0, 1) := by decide +kernel
theorem d_Ref_sweeps_106 : decode c_Ref_sweeps 106 = .ok (.istore_n 1, 1) := by decide +kernel
theorem d_Ref_sweeps_107 : decode c_Ref_sweeps 107 = .ok (.iload_n 1, 1) := by decide +kernel
theorem d_Ref_sweeps_108 : decode c_Ref_sweeps 108 = .ok (.bipush 30, 2) := by decide +kernel
theorem d_Ref_sweeps_110 : decode c_Ref_sweeps 110 = .ok (.if_icmp .ge 76, 3) := by decide +kernel
theorem d_Ref_sweeps_113 : decode c_Ref_sweeps 113 = .ok (.iconst 0, 1) := by decide +kernel
theorem d_Ref_sweeps_114 : decode c_Ref_sweeps 114 = .ok (.istore_n 2, 1) := by decide +kernel
theorem d_Ref_sweeps_115 : decode c_Ref_sweeps 115 = .ok (.iload_n 2, 1) := by decide +kernel
theorem d_Ref_sweeps_116 : decode c_Ref_sweeps 116 = .ok (.bipush 30, 2) := by decide +kernel
theorem d_Ref_sweeps_118 : decode c_Ref_sweeps 118 = .ok (.if_icmp .ge 62, 3) := by decide +kernel
theorem d_Ref_sweeps_121 : decode c_Ref_sweeps 121 = .ok (.iconst 0, 1) := by decide +kernel
theorem d_Ref_sweeps_122 : decode c_Ref_sweeps 122 = .ok (.istore_n 3, 1) := by decide +kernel
theorem d_Ref_sweeps_123 : decode c_Ref_sweeps 123 = .ok (.iload_n 3, 1) := by decide +kernel
theorem d_Ref_sweeps_124 : decode c_Ref_sweeps 124 = .ok (.aload_n 0, 1) := by decide +kernel
theorem d_Ref_sweeps_125 : decode c_Ref_sweeps 125 = .ok (.getfield 37, 3) := by decide +kernel
theorem d_Ref_sweeps_128 : decode c_Ref_sweeps 128 = .ok (.iload_n 2, 1) := by decide +kernel
theorem d_Ref_sweeps_129 : decode c_Ref_sweeps 129 = .ok (.iaload, 1) := by decide +kernel
theorem d_Ref_sweeps_130 : decode c_Ref_sweeps 130 = .ok (.if_icmp .ge 44, 3) := by decide +kernel
theorem d_Ref_sweeps_133 : decode c_Ref_sweeps 133 = .ok (.aload_n 0, 1) := by decide +kernel
theorem d_Ref_sweeps_134 : decode c_Ref_sweeps 134 = .ok (.getfield 46, 3) := by decide +kernel
theorem d_Ref_sweeps_137 : decode c_Ref_sweeps 137 = .ok (.iload_n 2, 1) := by decide +kernel
theorem d_Ref_sweeps_138 : decode c_Ref_sweeps 138 = .ok (.baload, 1) := by decide +kernel
theorem d_Ref_sweeps_139 : decode c_Ref_sweeps 139 = .ok (.ifCond .eq 35, 3) := by decide +kernel
theorem d_Ref_sweeps_142 : decode c_Ref_sweeps 142 = .ok (.aload_n 0, 1) := by decide +kernel
theorem d_Ref_sweeps_143 : decode c_Ref_sweeps 143 = .ok (.aload_n 0, 1) := by decide +kernel
theorem d_Ref_sweeps_144 : decode c_Ref_sweeps 144 = .ok (.getfield 40, 3) := by decide +kernel
theorem d_Ref_sweeps_147 : decode c_Ref_sweeps 147 = .ok (.bipush 20, 2) := by decide +kernel
theorem d_Ref_sweeps_149 : decode c_Ref_sweeps 149 = .ok (.iload_n 2, 1) := by decide +kernel
theorem d_Ref_sweeps_150 : decode c_Ref_sweeps 150 = .ok (.imul, 1) := by decide +kernel
theorem d_Ref_sweeps_151 : decode c_Ref_sweeps 151 = .ok (.iload_n 3, 1) := by decide +kernel
theorem d_Ref_sweeps_152 : decode c_Ref_sweeps 152 = .ok (.iadd, 1) := by decide +kernel
theorem d_Ref_sweeps_153 : decode c_Ref_sweeps 153 = .ok (.iaload, 1) := by decide +kernel
theorem d_Ref_sweeps_154 : decode c_Ref_sweeps 154 = .ok (.aload_n 0, 1) := by decide +kernel
theorem d_Ref_sweeps_155 : decode c_Ref_sweeps 155 = .ok (.getfield 43, 3) := by decide +kernel
theorem d_Ref_sweeps_158 : decode c_Ref_sweeps 158 = .ok (.bipush 20, 2) := by decide +kernel
theorem d_Ref_sweeps_160 : decode c_Ref_sweeps 160 = .ok (.iload_n 2, 1) := by decide +kernel
theorem d_Ref_sweeps_161 : decode c_Ref_sweeps 161 = .ok (.imul, 1) := by decide +kernel
theorem d_Ref_sweeps_162 : decode c_Ref_sweeps 162 = .ok (.iload_n 3, 1) := by decide +kernel
theorem d_Ref_sweeps_163 : decode c_Ref_sweeps 163 = .ok (.iadd, 1) := by decide +kernel
theorem d_Ref_sweeps_164 : decode c_Ref_sweeps 164 = .ok (.iaload, 1) := by decide +kernel
theorem d_Ref_sweeps_165 : decode c_Ref_sweeps 165 = .ok (.invokevirtual 112, 3) := by decide +kernel
theorem d_Ref_sweeps_168 : decode c_Ref_sweeps 168 = .ok (.iinc 3 1, 3) := by decide +kernel
theorem d_Ref_sweeps_171 : decode c_Ref_sweeps 171 = .ok (.goto (-48), 3) := by decide +kernel
theorem d_Ref_sweeps_174 : decode c_Ref_sweeps 174 = .ok (.iinc 2 1, 3) := by decide +kernel
theorem d_Ref_sweeps_177 : decode c_Ref_sweeps 177 = .ok (.goto (-62), 3) := by decide +kernel
theorem d_Ref_sweeps_180 : decode c_Ref_sweeps 180 = .ok (.iinc 1 1, 3) := by decide +kernel
theorem d_Ref_sweeps_183 : decode c_Ref_sweeps 183 = .ok (.goto (-76), 3) := by decide +kernel
theorem d_Ref_sweeps_186 : decode c_Ref_sweeps 186 = .ok (.iconst 0, 1) := by decide +kernel
theorem d_Ref_sweeps_187 : decode c_Ref_sweeps 187 = .ok (.istore_n 1, 1) := by decide +kernel
theorem d_Ref_sweeps_188 : decode c_Ref_sweeps 188 = .ok (.iload_n 1, 1) := by decide +kernel
theorem d_Ref_sweeps_189 : decode c_Ref_sweeps 189 = .ok (.bipush 30, 2) := by decide +kernel
theorem d_Ref_sweeps_191 : decode c_Ref_sweeps 191 = .ok (.if_icmp .ge 34, 3) := by decide +kernel
theorem d_Ref_sweeps_194 : decode c_Ref_sweeps 194 = .ok (.aload_n 0, 1) := by decide +kernel
theorem d_Ref_sweeps_195 : decode c_Ref_sweeps 195 = .ok (.getfield 34, 3) := by decide +kernel
theorem d_Ref_sweeps_198 : decode c_Ref_sweeps 198 = .ok (.iload_n 1, 1) := by decide +kernel
theorem d_Ref_sweeps_199 : decode c_Ref_sweeps 199 = .ok (.aload_n 0, 1) := by decide +kernel
theorem d_Ref_sweeps_200 : decode c_Ref_sweeps 200 = .ok (.getfield 46, 3) := by decide +kernel
theorem d_Ref_sweeps_203 : decode c_Ref_sweeps 203 = .ok (.iload_n 1, 1) := by decide +kernel
theorem d_Ref_sweeps_204 : decode c_Ref_sweeps 204 = .ok (.baload, 1) := by decide +kernel
theorem d_Ref_sweeps_205 : decode c_Ref_sweeps 205 = .ok (.ifCond .eq 12, 3) := by decide +kernel
theorem d_Ref_sweeps_208 : decode c_Ref_sweeps 208 = .ok (.aload_n 0, 1) := by decide +kernel
theorem d_Ref_sweeps_209 : decode c_Ref_sweeps 209 = .ok (.getfield 34, 3) := by decide +kernel
theorem d_Ref_sweeps_212 : decode c_Ref_sweeps 212 = .ok (.iload_n 1, 1) := by decide +kernel
theorem d_Ref_sweeps_213 : decode c_Ref_sweeps 213 = .ok (.iaload, 1) := by decide +kernel
theorem d_Ref_sweeps_214 : decode c_Ref_sweeps 214 = .ok (.goto 4, 3) := by decide +kernel
theorem d_Ref_sweeps_217 : decode c_Ref_sweeps 217 = .ok (.iconst 0, 1) := by decide +kernel
theorem d_Ref_sweeps_218 : decode c_Ref_sweeps 218 = .ok (.iastore, 1) := by decide +kernel
theorem d_Ref_sweeps_219 : decode c_Ref_sweeps 219 = .ok (.iinc 1 1, 3) := by decide +kernel
theorem d_Ref_sweeps_222 : decode c_Ref_sweeps 222 = .ok (.goto (-34), 3) := by decide +kernel
theorem d_Ref_sweeps_225 : decode c_Ref_sweeps 225 = .ok (.return_, 1) := by decide +kernel
