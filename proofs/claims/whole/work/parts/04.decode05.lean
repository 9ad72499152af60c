theorem d_Ref_makes_0 : decode c_Ref_makes 0 = .ok (.aload_n 0, 1) := by decide +kernel
theorem d_Ref_makes_1 : decode c_Ref_makes 1 = .ok (.invokevirtual 115, 3) := by decide +kernel
theorem d_Ref_makes_4 : decode c_Ref_makes 4 = .ok (.bipush 30, 2) := by decide +kernel
theorem d_Ref_makes_6 : decode c_Ref_makes 6 = .ok (.if_icmp .ne 7, 3) := by decide +kernel
theorem d_Ref_makes_9 : decode c_Ref_makes 9 = .ok (.aload_n 0, 1) := by decide +kernel
theorem d_Ref_makes_10 : decode c_Ref_makes 10 = .ok (.invokevirtual 119, 3) := by decide +kernel
theorem d_Ref_makes_13 : decode c_Ref_makes 13 = .ok (.iconst 0, 1) := by decide +kernel
theorem d_Ref_makes_14 : decode c_Ref_makes 14 = .ok (.istore_n 3, 1) := by decide +kernel
theorem d_Ref_makes_15 : decode c_Ref_makes 15 = .ok (.iload_n 3, 1) := by decide +kernel
theorem d_Ref_makes_16 : decode c_Ref_makes 16 = .ok (.bipush 30, 2) := by decide +kernel
theorem d_Ref_makes_18 : decode c_Ref_makes 18 = .ok (.if_icmp .ge 18, 3) := by decide +kernel
theorem d_Ref_makes_21 : decode c_Ref_makes 21 = .ok (.aload_n 0, 1) := by decide +kernel
theorem d_Ref_makes_22 : decode c_Ref_makes 22 = .ok (.getfield 34, 3) := by decide +kernel
theorem d_Ref_makes_25 : decode c_Ref_makes 25 = .ok (.iload_n 3, 1) := by decide +kernel
theorem d_Ref_makes_26 : decode c_Ref_makes 26 = .ok (.iaload, 1) := by decide +kernel
theorem d_Ref_makes_27 : decode c_Ref_makes 27 = .ok (.ifCond .eq 9, 3) := by decide +kernel
theorem d_Ref_makes_30 : decode c_Ref_makes 30 = .ok (.iinc 3 1, 3) := by decide +kernel
theorem d_Ref_makes_33 : decode c_Ref_makes 33 = .ok (.goto (-18), 3) := by decide +kernel
theorem d_Ref_makes_36 : decode c_Ref_makes 36 = .ok (.aload_n 0, 1) := by decide +kernel
theorem d_Ref_makes_37 : decode c_Ref_makes 37 = .ok (.iload_n 3, 1) := by decide +kernel
theorem d_Ref_makes_38 : decode c_Ref_makes 38 = .ok (.bipush 30, 2) := by decide +kernel
theorem d_Ref_makes_40 : decode c_Ref_makes 40 = .ok (.if_icmp .ge 7, 3) := by decide +kernel
theorem d_Ref_makes_43 : decode c_Ref_makes 43 = .ok (.iconst 1, 1) := by decide +kernel
theorem d_Ref_makes_44 : decode c_Ref_makes 44 = .ok (.goto 4, 3) := by decide +kernel
theorem d_Ref_makes_47 : decode c_Ref_makes 47 = .ok (.iconst 0, 1) := by decide +kernel
theorem d_Ref_makes_48 : decode c_Ref_makes 48 = .ok (.bipush 6, 2) := by decide +kernel
theorem d_Ref_makes_50 : decode c_Ref_makes 50 = .ok (.invokevirtual 104, 3) := by decide +kernel
theorem d_Ref_makes_53 : decode c_Ref_makes 53 = .ok (.ifCond .ne 5, 3) := by decide +kernel
theorem d_Ref_makes_56 : decode c_Ref_makes 56 = .ok (.iconst (-1), 1) := by decide +kernel
theorem d_Ref_makes_57 : decode c_Ref_makes 57 = .ok (.ireturn, 1) := by decide +kernel
theorem d_Ref_makes_58 : decode c_Ref_makes 58 = .ok (.aload_n 0, 1) := by decide +kernel
theorem d_Ref_makes_59 : decode c_Ref_makes 59 = .ok (.dup, 1) := by decide +kernel
theorem d_Ref_makes_60 : decode c_Ref_makes 60 = .ok (.getfield 85, 3) := by decide +kernel
theorem d_Ref_makes_63 : decode c_Ref_makes 63 = .ok (.iconst 1, 1) := by decide +kernel
theorem d_Ref_makes_64 : decode c_Ref_makes 64 = .ok (.iadd, 1) := by decide +kernel
theorem d_Ref_makes_65 : decode c_Ref_makes 65 = .ok (.putfield 85, 3) := by decide +kernel
theorem d_Ref_makes_68 : decode c_Ref_makes 68 = .ok (.aload_n 0, 1) := by decide +kernel
theorem d_Ref_makes_69 : decode c_Ref_makes 69 = .ok (.getfield 34, 3) := by decide +kernel
theorem d_Ref_makes_72 : decode c_Ref_makes 72 = .ok (.iload_n 3, 1) := by decide +kernel
theorem d_Ref_makes_73 : decode c_Ref_makes 73 = .ok (.iload_n 1, 1) := by decide +kernel
theorem d_Ref_makes_74 : decode c_Ref_makes 74 = .ok (.iastore, 1) := by decide +kernel
theorem d_Ref_makes_75 : decode c_Ref_makes 75 = .ok (.aload_n 0, 1) := by decide +kernel
theorem d_Ref_makes_76 : decode c_Ref_makes 76 = .ok (.getfield 37, 3) := by decide +kernel
theorem d_Ref_makes_79 : decode c_Ref_makes 79 = .ok (.iload_n 3, 1) := by decide +kernel
theorem d_Ref_makes_80 : decode c_Ref_makes 80 = .ok (.iload_n 2, 1) := by decide +kernel
theorem d_Ref_makes_81 : decode c_Ref_makes 81 = .ok (.iastore, 1) := by decide +kernel
theorem d_Ref_makes_82 : decode c_Ref_makes 82 = .ok (.iconst 0, 1) := by decide +kernel
theorem d_Ref_makes_83 : decode c_Ref_makes 83 = .ok (.istore 4, 2) := by decide +kernel
theorem d_Ref_makes_85 : decode c_Ref_makes 85 = .ok (.iload 4, 2) := by decide +kernel
theorem d_Ref_makes_87 : decode c_Ref_makes 87 = .ok (.bipush 20, 2) := by decide +kernel
theorem d_Ref_makes_89 : decode c_Ref_makes 89 = .ok (.if_icmp .ge 35, 3) := by decide +kernel
theorem d_Ref_makes_92 : decode c_Ref_makes 92 = .ok (.aload_n 0, 1) := by decide +kernel
theorem d_Ref_makes_93 : decode c_Ref_makes 93 = .ok (.getfield 40, 3) := by decide +kernel
theorem d_Ref_makes_96 : decode c_Ref_makes 96 = .ok (.bipush 20, 2) := by decide +kernel
theorem d_Ref_makes_98 : decode c_Ref_makes 98 = .ok (.iload_n 3, 1) := by decide +kernel
theorem d_Ref_makes_99 : decode c_Ref_makes 99 = .ok (.imul, 1) := by decide +kernel
theorem d_Ref_makes_100 : decode c_Ref_makes 100 = .ok (.iload 4, 2) := by decide +kernel
theorem d_Ref_makes_102 : decode c_Ref_makes 102 = .ok (.iadd, 1) := by decide +kernel
theorem d_Ref_makes_103 : decode c_Ref_makes 103 = .ok (.iconst 0, 1) := by decide +kernel
theorem d_Ref_makes_104 : decode c_Ref_makes 104 = .ok (.iastore, 1) := by decide +kernel
theorem d_Ref_makes_105 : decode c_Ref_makes 105 = .ok (.aload_n 0, 1) := by decide +kernel
theorem d_Ref_makes_106 : decode c_Ref_makes 106 = .ok (.getfield 43, 3) := by decide +kernel
theorem d_Ref_makes_109 : decode c_Ref_makes 109 = .ok (.bipush 20, 2) := by decide +kernel
theorem d_Ref_makes_111 : decode c_Ref_makes 111 = .ok (.iload_n 3, 1) := by decide +kernel
theorem d_Ref_makes_112 : decode c_Ref_makes 112 = .ok (.imul, 1) := by decide +kernel
theorem d_Ref_makes_113 : decode c_Ref_makes 113 = .ok (.iload 4, 2) := by decide +kernel
theorem d_Ref_makes_115 : decode c_Ref_makes 115 = .ok (.iadd, 1) := by decide +kernel
theorem d_Ref_makes_116 : decode c_Ref_makes 116 = .ok (.iconst 0, 1) := by decide +kernel
theorem d_Ref_makes_117 : decode c_Ref_makes 117 = .ok (.iastore, 1) := by decide +kernel
theorem d_Ref_makes_118 : decode c_Ref_makes 118 = .ok (.iinc 4 1, 3) := by decide +kernel
theorem d_Ref_makes_121 : decode c_Ref_makes 121 = .ok (.goto (-36), 3) := by decide +kernel
theorem d_Ref_makes_124 : decode c_Ref_makes 124 = .ok (.iload_n 3, 1) := by decide +kernel
theorem d_Ref_makes_125 : decode c_Ref_makes 125 = .ok (.ireturn, 1) := by decide +kernel
theorem d_Ref_object_0 : decode c_Ref_object 0 = .ok (.aload_n 0, 1) := by decide +kernel
theorem d_Ref_object_1 : decode c_Ref_object 1 = .ok (.iconst 4, 1) := by decide +kernel
theorem d_Ref_object_2 : decode c_Ref_object 2 = .ok (.bipush 16, 2) := by decide +kernel
theorem d_Ref_object_4 : decode c_Ref_object 4 = .ok (.invokevirtual 121, 3) := by decide +kernel
theorem d_Ref_object_7 : decode c_Ref_object 7 = .ok (.istore_n 1, 1) := by decide +kernel
theorem d_Ref_object_8 : decode c_Ref_object 8 = .ok (.iload_n 1, 1) := by decide +kernel
theorem d_Ref_object_9 : decode c_Ref_object 9 = .ok (.iconst (-1), 1) := by decide +kernel
theorem d_Ref_object_10 : decode c_Ref_object 10 = .ok (.if_icmp .eq 9, 3) := by decide +kernel
theorem d_Ref_object_13 : decode c_Ref_object 13 = .ok (.aload_n 0, 1) := by decide +kernel
theorem d_Ref_object_14 : decode c_Ref_object 14 = .ok (.iconst 4, 1) := by decide +kernel
theorem d_Ref_object_15 : decode c_Ref_object 15 = .ok (.iload_n 1, 1) := by decide +kernel
theorem d_Ref_object_16 : decode c_Ref_object 16 = .ok (.invokevirtual 97, 3) := by decide +kernel
theorem d_Ref_object_19 : decode c_Ref_object 19 = .ok (.return_, 1) := by decide +kernel
theorem d_Ref_array_0 : decode c_Ref_array 0 = .ok (.aload_n 0, 1) := by decide +kernel
theorem d_Ref_array_1 : decode c_Ref_array 1 = .ok (.iload_n 1, 1) := by decide +kernel
theorem d_Ref_array_2 : decode c_Ref_array 2 = .ok (.invokevirtual 125, 3) := by decide +kernel
theorem d_Ref_array_5 : decode c_Ref_array 5 = .ok (.pop, 1) := by decide +kernel
theorem d_Ref_array_6 : decode c_Ref_array 6 = .ok (.aload_n 0, 1) := by decide +kernel
theorem d_Ref_array_7 : decode c_Ref_array 7 = .ok (.iload_n 1, 1) := by decide +kernel
theorem d_Ref_array_8 : decode c_Ref_array 8 = .ok (.bipush 20, 2) := by decide +kernel
theorem d_Ref_array_10 : decode c_Ref_array 10 = .ok (.if_icmp .gt 7, 3) := by decide +kernel
theorem d_Ref_array_13 : decode c_Ref_array 13 = .ok (.iconst 1, 1) := by decide +kernel
theorem d_Ref_array_14 : decode c_Ref_array 14 = .ok (.goto 4, 3) := by decide +kernel
theorem d_Ref_array_17 : decode c_Ref_array 17 = .ok (.iconst 0, 1) := by decide +kernel
theorem d_Ref_array_18 : decode c_Ref_array 18 = .ok (.iconst 2, 1) := by decide +kernel
theorem d_Ref_array_19 : decode c_Ref_array 19 = .ok (.invokevirtual 104, 3) := by decide +kernel
theorem d_Ref_array_22 : decode c_Ref_array 22 = .ok (.pop, 1) := by decide +kernel
theorem d_Ref_array_23 : decode c_Ref_array 23 = .ok (.aload_n 0, 1) := by decide +kernel
theorem d_Ref_array_24 : decode c_Ref_array 24 = .ok (.getfield 101, 3) := by decide +kernel
theorem d_Ref_array_27 : decode c_Ref_array 27 = .ok (.ifCond .le 4, 3) := by decide +kernel
theorem d_Ref_array_30 : decode c_Ref_array 30 = .ok (.return_, 1) := by decide +kernel
theorem d_Ref_array_31 : decode c_Ref_array 31 = .ok (.aload_n 0, 1) := by decide +kernel
theorem d_Ref_array_32 : decode c_Ref_array 32 = .ok (.iconst 5, 1) := by decide +kernel
theorem d_Ref_array_33 : decode c_Ref_array 33 = .ok (.iload_n 1, 1) := by decide +kernel
theorem d_Ref_array_34 : decode c_Ref_array 34 = .ok (.invokevirtual 121, 3) := by decide +kernel
theorem d_Ref_array_37 : decode c_Ref_array 37 = .ok (.istore_n 2, 1) := by decide +kernel
theorem d_Ref_array_38 : decode c_Ref_array 38 = .ok (.iload_n 2, 1) := by decide +kernel
theorem d_Ref_array_39 : decode c_Ref_array 39 = .ok (.iconst (-1), 1) := by decide +kernel
theorem d_Ref_array_40 : decode c_Ref_array 40 = .ok (.if_icmp .ne 4, 3) := by decide +kernel
theorem d_Ref_array_43 : decode c_Ref_array 43 = .ok (.return_, 1) := by decide +kernel
theorem d_Ref_array_44 : decode c_Ref_array 44 = .ok (.iconst 0, 1) := by decide +kernel
theorem d_Ref_array_45 : decode c_Ref_array 45 = .ok (.istore_n 3, 1) := by decide +kernel
theorem d_Ref_array_46 : decode c_Ref_array 46 = .ok (.iload_n 3, 1) := by decide +kernel
theorem d_Ref_array_47 : decode c_Ref_array 47 = .ok (.iload_n 1, 1) := by decide +kernel
theorem d_Ref_array_48 : decode c_Ref_array 48 = .ok (.if_icmp .ge 57, 3) := by decide +kernel
theorem d_Ref_array_51 : decode c_Ref_array 51 = .ok (.aload_n 0, 1) := by decide +kernel
theorem d_Ref_array_52 : decode c_Ref_array 52 = .ok (.getfield 40, 3) := by decide +kernel
theorem d_Ref_array_55 : decode c_Ref_array 55 = .ok (.bipush 20, 2) := by decide +kernel
theorem d_Ref_array_57 : decode c_Ref_array 57 = .ok (.iload_n 2, 1) := by decide +kernel
theorem d_Ref_array_58 : decode c_Ref_array 58 = .ok (.imul, 1) := by decide +kernel
theorem d_Ref_array_59 : decode c_Ref_array 59 = .ok (.iload_n 3, 1) := by decide +kernel
theorem d_Ref_array_60 : decode c_Ref_array 60 = .ok (.iadd, 1) := by decide +kernel
theorem d_Ref_array_61 : decode c_Ref_array 61 = .ok (.aload_n 0, 1) := by decide +kernel
theorem d_Ref_array_62 : decode c_Ref_array 62 = .ok (.getfield 16, 3) := by decide +kernel
theorem d_Ref_array_65 : decode c_Ref_array 65 = .ok (.aload_n 0, 1) := by decide +kernel
theorem d_Ref_array_66 : decode c_Ref_array 66 = .ok (.getfield 66, 3) := by decide +kernel
theorem d_Ref_array_69 : decode c_Ref_array 69 = .ok (.iload_n 1, 1) := by decide +kernel
theorem d_Ref_array_70 : decode c_Ref_array 70 = .ok (.isub, 1) := by decide +kernel
theorem d_Ref_array_71 : decode c_Ref_array 71 = .ok (.iload_n 3, 1) := by decide +kernel
theorem d_Ref_array_72 : decode c_Ref_array 72 = .ok (.iadd, 1) := by decide +kernel
theorem d_Ref_array_73 : decode c_Ref_array 73 = .ok (.iaload, 1) := by decide +kernel
theorem d_Ref_array_74 : decode c_Ref_array 74 = .ok (.iastore, 1) := by decide +kernel
theorem d_Ref_array_75 : decode c_Ref_array 75 = .ok (.aload_n 0, 1) := by decide +kernel
theorem d_Ref_array_76 : decode c_Ref_array 76 = .ok (.getfield 43, 3) := by decide +kernel
theorem d_Ref_array_79 : decode c_Ref_array 79 = .ok (.bipush 20, 2) := by decide +kernel
theorem d_Ref_array_81 : decode c_Ref_array 81 = .ok (.iload_n 2, 1) := by decide +kernel
theorem d_Ref_array_82 : decode c_Ref_array 82 = .ok (.imul, 1) := by decide +kernel
theorem d_Ref_array_83 : decode c_Ref_array 83 = .ok (.iload_n 3, 1) := by decide +kernel
theorem d_Ref_array_84 : decode c_Ref_array 84 = .ok (.iadd, 1) := by decide +kernel
theorem d_Ref_array_85 : decode c_Ref_array 85 = .ok (.aload_n 0, 1) := by decide +kernel
theorem d_Ref_array_86 : decode c_Ref_array 86 = .ok (.getfield 19, 3) := by decide +kernel
theorem d_Ref_array_89 : decode c_Ref_array 89 = .ok (.aload_n 0, 1) := by decide +kernel
theorem d_Ref_array_90 : decode c_Ref_array 90 = .ok (.getfield 66, 3) := by decide +kernel
theorem d_Ref_array_93 : decode c_Ref_array 93 = .ok (.iload_n 1, 1) := by decide +kernel
theorem d_Ref_array_94 : decode c_Ref_array 94 = .ok (.isub, 1) := by decide +kernel
theorem d_Ref_array_95 : decode c_Ref_array 95 = .ok (.iload_n 3, 1) := by decide +kernel
theorem d_Ref_array_96 : decode c_Ref_array 96 = .ok (.iadd, 1) := by decide +kernel
theorem d_Ref_array_97 : decode c_Ref_array 97 = .ok (.iaload, 1) := by decide +kernel
theorem d_Ref_array_98 : decode c_Ref_array 98 = .ok (.iastore, 1) := by decide +kernel
theorem d_Ref_array_99 : decode c_Ref_array 99 = .ok (.iinc 3 1, 3) := by decide +kernel
theorem d_Ref_array_102 : decode c_Ref_array 102 = .ok (.goto (-56), 3) := by decide +kernel
theorem d_Ref_array_105 : decode c_Ref_array 105 = .ok (.aload_n 0, 1) := by decide +kernel
theorem d_Ref_array_106 : decode c_Ref_array 106 = .ok (.dup, 1) := by decide +kernel
theorem d_Ref_array_107 : decode c_Ref_array 107 = .ok (.getfield 66, 3) := by decide +kernel
theorem d_Ref_array_110 : decode c_Ref_array 110 = .ok (.iload_n 1, 1) := by decide +kernel
theorem d_Ref_array_111 : decode c_Ref_array 111 = .ok (.isub, 1) := by decide +kernel
theorem d_Ref_array_112 : decode c_Ref_array 112 = .ok (.putfield 66, 3) := by decide +kernel
theorem d_Ref_array_115 : decode c_Ref_array 115 = .ok (.aload_n 0, 1) := by decide +kernel
theorem d_Ref_array_116 : decode c_Ref_array 116 = .ok (.iconst 5, 1) := by decide +kernel
theorem d_Ref_array_117 : decode c_Ref_array 117 = .ok (.iload_n 2, 1) := by decide +kernel
theorem d_Ref_array_118 : decode c_Ref_array 118 = .ok (.invokevirtual 97, 3) := by decide +kernel
theorem d_Ref_array_121 : decode c_Ref_array 121 = .ok (.return_, 1) := by decide +kernel
theorem d_Ref_same_0 : decode c_Ref_same 0 = .ok (.iload_n 0, 1) := by decide +kernel
theorem d_Ref_same_1 : decode c_Ref_same 1 = .ok (.iload_n 2, 1) := by decide +kernel
theorem d_Ref_same_2 : decode c_Ref_same 2 = .ok (.if_icmp .ne 17, 3) := by decide +kernel
theorem d_Ref_same_5 : decode c_Ref_same 5 = .ok (.iload_n 0, 1) := by decide +kernel
theorem d_Ref_same_6 : decode c_Ref_same 6 = .ok (.iconst 3, 1) := by decide +kernel
theorem d_Ref_same_7 : decode c_Ref_same 7 = .ok (.if_icmp .lt 8, 3) := by decide +kernel
theorem d_Ref_same_10 : decode c_Ref_same 10 = .ok (.iload_n 1, 1) := by decide +kernel
theorem d_Ref_same_11 : decode c_Ref_same 11 = .ok (.iload_n 3, 1) := by decide +kernel
theorem d_Ref_same_12 : decode c_Ref_same 12 = .ok (.if_icmp .ne 7, 3) := by decide +kernel
theorem d_Ref_same_15 : decode c_Ref_same 15 = .ok (.iconst 1, 1) := by decide +kernel
theorem d_Ref_same_16 : decode c_Ref_same 16 = .ok (.goto 4, 3) := by decide +kernel
theorem d_Ref_same_19 : decode c_Ref_same 19 = .ok (.iconst 0, 1) := by decide +kernel
theorem d_Ref_same_20 : decode c_Ref_same 20 = .ok (.ireturn, 1) := by decide +kernel
theorem d_Ref_element_0 : decode c_Ref_element 0 = .ok (.aload_n 0, 1) := by decide +kernel
theorem d_Ref_element_1 : decode c_Ref_element 1 = .ok (.iconst 1, 1) := by decide +kernel
theorem d_Ref_element_2 : decode c_Ref_element 2 = .ok (.invokevirtual 125, 3) := by decide +kernel
theorem d_Ref_element_5 : decode c_Ref_element 5 = .ok (.ifCond .eq 34, 3) := by decide +kernel
theorem d_Ref_element_8 : decode c_Ref_element 8 = .ok (.aload_n 0, 1) := by decide +kernel
theorem d_Ref_element_9 : decode c_Ref_element 9 = .ok (.iconst 0, 1) := by decide +kernel
theorem d_Ref_element_10 : decode c_Ref_element 10 = .ok (.iconst 5, 1) := by decide +kernel
theorem d_Ref_element_11 : decode c_Ref_element 11 = .ok (.invokevirtual 135, 3) := by decide +kernel
theorem d_Ref_element_14 : decode c_Ref_element 14 = .ok (.ifCond .ne 7, 3) := by decide +kernel
theorem d_Ref_element_17 : decode c_Ref_element 17 = .ok (.iconst 1, 1) := by decide +kernel
theorem d_Ref_element_18 : decode c_Ref_element 18 = .ok (.goto 4, 3) := by decide +kernel
theorem d_Ref_element_21 : decode c_Ref_element 21 = .ok (.iconst 0, 1) := by decide +kernel
theorem d_Ref_element_22 : decode c_Ref_element 22 = .ok (.aload_n 0, 1) := by decide +kernel
theorem d_Ref_element_23 : decode c_Ref_element 23 = .ok (.iconst 3, 1) := by decide +kernel
theorem d_Ref_element_24 : decode c_Ref_element 24 = .ok (.invokevirtual 129, 3) := by decide +kernel
theorem d_Ref_element_27 : decode c_Ref_element 27 = .ok (.ifCond .ne 7, 3) := by decide +kernel
theorem d_Ref_element_30 : decode c_Ref_element 30 = .ok (.iconst 1, 1) := by decide +kernel
theorem d_Ref_element_31 : decode c_Ref_element 31 = .ok (.goto 4, 3) := by decide +kernel
theorem d_Ref_element_34 : decode c_Ref_element 34 = .ok (.iconst 0, 1) := by decide +kernel
theorem d_Ref_element_35 : decode c_Ref_element 35 = .ok (.ior, 1) := by decide +kernel
theorem d_Ref_element_36 : decode c_Ref_element 36 = .ok (.ifCond .eq 4, 3) := by decide +kernel
theorem d_Ref_element_39 : decode c_Ref_element 39 = .ok (.return_, 1) := by decide +kernel
theorem d_Ref_element_40 : decode c_Ref_element 40 = .ok (.aload_n 0, 1) := by decide +kernel
theorem d_Ref_element_41 : decode c_Ref_element 41 = .ok (.getfield 19, 3) := by decide +kernel
theorem d_Ref_element_44 : decode c_Ref_element 44 = .ok (.aload_n 0, 1) := by decide +kernel
theorem d_Ref_element_45 : decode c_Ref_element 45 = .ok (.iconst 0, 1) := by decide +kernel
theorem d_Ref_element_46 : decode c_Ref_element 46 = .ok (.invokevirtual 108, 3) := by decide +kernel
theorem d_Ref_element_49 : decode c_Ref_element 49 = .ok (.iaload, 1) := by decide +kernel
theorem d_Ref_element_50 : decode c_Ref_element 50 = .ok (.istore_n 1, 1) := by decide +kernel
theorem d_Ref_element_51 : decode c_Ref_element 51 = .ok (.aload_n 0, 1) := by decide +kernel
theorem d_Ref_element_52 : decode c_Ref_element 52 = .ok (.getfield 63, 3) := by decide +kernel
theorem d_Ref_element_55 : decode c_Ref_element 55 = .ok (.istore_n 2, 1) := by decide +kernel
theorem d_Ref_element_56 : decode c_Ref_element 56 = .ok (.aload_n 0, 1) := by decide +kernel
theorem d_Ref_element_57 : decode c_Ref_element 57 = .ok (.iload_n 2, 1) := by decide +kernel
theorem d_Ref_element_58 : decode c_Ref_element 58 = .ok (.ifCond .lt 17, 3) := by decide +kernel
theorem d_Ref_element_61 : decode c_Ref_element 61 = .ok (.iload_n 2, 1) := by decide +kernel
theorem d_Ref_element_62 : decode c_Ref_element 62 = .ok (.aload_n 0, 1) := by decide +kernel
theorem d_Ref_element_63 : decode c_Ref_element 63 = .ok (.getfield 37, 3) := by decide +kernel
theorem d_Ref_element_66 : decode c_Ref_element 66 = .ok (.iload_n 1, 1) := by decide +kernel
theorem d_Ref_element_67 : decode c_Ref_element 67 = .ok (.iaload, 1) := by decide +kernel
theorem d_Ref_element_68 : decode c_Ref_element 68 = .ok (.if_icmp .ge 7, 3) := by decide +kernel
theorem d_Ref_element_71 : decode c_Ref_element 71 = .ok (.iconst 1, 1) := by decide +kernel
theorem d_Ref_element_72 : decode c_Ref_element 72 = .ok (.goto 4, 3) := by decide +kernel
theorem d_Ref_element_75 : decode c_Ref_element 75 = .ok (.iconst 0, 1) := by decide +kernel
theorem d_Ref_element_76 : decode c_Ref_element 76 = .ok (.iconst 2, 1) := by decide +kernel
theorem d_Ref_element_77 : decode c_Ref_element 77 = .ok (.invokevirtual 104, 3) := by decide +kernel
theorem d_Ref_element_80 : decode c_Ref_element 80 = .ok (.ifCond .eq 39, 3) := by decide +kernel
theorem d_Ref_element_83 : decode c_Ref_element 83 = .ok (.aload_n 0, 1) := by decide +kernel
theorem d_Ref_element_84 : decode c_Ref_element 84 = .ok (.aload_n 0, 1) := by decide +kernel
theorem d_Ref_element_85 : decode c_Ref_element 85 = .ok (.getfield 40, 3) := by decide +kernel
theorem d_Ref_element_88 : decode c_Ref_element 88 = .ok (.bipush 20, 2) := by decide +kernel
theorem d_Ref_element_90 : decode c_Ref_element 90 = .ok (.iload_n 1, 1) := by decide +kernel
theorem d_Ref_element_91 : decode c_Ref_element 91 = .ok (.imul, 1) := by decide +kernel
theorem d_Ref_element_92 : decode c_Ref_element 92 = .ok (.iload_n 2, 1) := by decide +kernel
theorem d_Ref_element_93 : decode c_Ref_element 93 = .ok (.iadd, 1) := by decide +kernel
theorem d_Ref_element_94 : decode c_Ref_element 94 = .ok (.iaload, 1) := by decide +kernel
theorem d_Ref_element_95 : decode c_Ref_element 95 = .ok (.aload_n 0, 1) := by decide +kernel
theorem d_Ref_element_96 : decode c_Ref_element 96 = .ok (.getfield 43, 3) := by decide +kernel
theorem d_Ref_element_99 : decode c_Ref_element 99 = .ok (.bipush 20, 2) := by decide +kernel
theorem d_Ref_element_101 : decode c_Ref_element 101 = .ok (.iload_n 1, 1) := by decide +kernel
theorem d_Ref_element_102 : decode c_Ref_element 102 = .ok (.imul, 1) := by decide +kernel
theorem d_Ref_element_103 : decode c_Ref_element 103 = .ok (.iload_n 2, 1) := by decide +kernel
theorem d_Ref_element_104 : decode c_Ref_element 104 = .ok (.iadd, 1) := by decide +kernel
theorem d_Ref_element_105 : decode c_Ref_element 105 = .ok (.iaload, 1) := by decide +kernel
theorem d_Ref_element_106 : decode c_Ref_element 106 = .ok (.invokevirtual 97, 3) := by decide +kernel
theorem d_Ref_element_109 : decode c_Ref_element 109 = .ok (.aload_n 0, 1) := by decide +kernel
theorem d_Ref_element_110 : decode c_Ref_element 110 = .ok (.dup, 1) := by decide +kernel
theorem d_Ref_element_111 : decode c_Ref_element 111 = .ok (.getfield 66, 3) := by decide +kernel
theorem d_Ref_element_114 : decode c_Ref_element 114 = .ok (.iconst 1, 1) := by decide +kernel
theorem d_Ref_element_115 : decode c_Ref_element 115 = .ok (.isub, 1) := by decide +kernel
theorem d_Ref_element_116 : decode c_Ref_element 116 = .ok (.putfield 66, 3) := by decide +kernel
theorem d_Ref_element_119 : decode c_Ref_element 119 = .ok (.return_, 1) := by decide +kernel
theorem d_Ref_loads_0 : decode c_Ref_loads 0 = .ok (.iload_n 1, 1) := by decide +kernel
theorem d_Ref_loads_1 : decode c_Ref_loads 1 = .ok (.tableswitch 203 4 7 #[31, 83, 126, 196], 31) := by decide +kernel
theorem d_Ref_loads_32 : decode c_Ref_loads 32 = .ok (.aload_n 0, 1) := by decide +kernel
theorem d_Ref_loads_33 : decode c_Ref_loads 33 = .ok (.iload_n 2, 1) := by decide +kernel
theorem d_Ref_loads_34 : decode c_Ref_loads 34 = .ok (.ifCond .lt 15, 3) := by decide +kernel
theorem d_Ref_loads_37 : decode c_Ref_loads 37 = .ok (.iload_n 2, 1) := by decide +kernel
theorem d_Ref_loads_38 : decode c_Ref_loads 38 = .ok (.aload_n 0, 1) := by decide +kernel
theorem d_Ref_loads_39 : decode c_Ref_loads 39 = .ok (.getfield 66, 3) := by decide +kernel
theorem d_Ref_loads_42 : decode c_Ref_loads 42 = .ok (.if_icmp .ge 7, 3) := by decide +kernel
theorem d_Ref_loads_45 : decode c_Ref_loads 45 = .ok (.iconst 1, 1) := by decide +kernel
theorem d_Ref_loads_46 : decode c_Ref_loads 46 = .ok (.goto 4, 3) := by decide +kernel
theorem d_Ref_loads_49 : decode c_Ref_loads 49 = .ok (.iconst 0, 1) := by decide +kernel
theorem d_Ref_loads_50 : decode c_Ref_loads 50 = .ok (.iconst 3, 1) := by decide +kernel
theorem d_Ref_loads_51 : decode c_Ref_loads 51 = .ok (.invokevirtual 104, 3) := by decide +kernel
theorem d_Ref_loads_54 : decode c_Ref_loads 54 = .ok (.ifCond .eq 172, 3) := by decide +kernel
theorem d_Ref_loads_57 : decode c_Ref_loads 57 = .ok (.aload_n 0, 1) := by decide +kernel
theorem d_Ref_loads_58 : decode c_Ref_loads 58 = .ok (.aload_n 0, 1) := by decide +kernel
theorem d_Ref_loads_59 : decode c_Ref_loads 59 = .ok (.getfield 16, 3) := by decide +kernel
theorem d_Ref_loads_62 : decode c_Ref_loads 62 = .ok (.aload_n 0, 1) := by decide +kernel
theorem d_Ref_loads_63 : decode c_Ref_loads 63 = .ok (.iload_n 2, 1) := by decide +kernel
theorem d_Ref_loads_64 : decode c_Ref_loads 64 = .ok (.invokevirtual 108, 3) := by decide +kernel
theorem d_Ref_loads_67 : decode c_Ref_loads 67 = .ok (.iaload, 1) := by decide +kernel
theorem d_Ref_loads_68 : decode c_Ref_loads 68 = .ok (.aload_n 0, 1) := by decide +kernel
theorem d_Ref_loads_69 : decode c_Ref_loads 69 = .ok (.getfield 19, 3) := by decide +kernel
theorem d_Ref_loads_72 : decode c_Ref_loads 72 = .ok (.aload_n 0, 1) := by decide +kernel
theorem d_Ref_loads_73 : decode c_Ref_loads 73 = .ok (.iload_n 2, 1) := by decide +kernel
theorem d_Ref_loads_74 : decode c_Ref_loads 74 = .ok (.invokevirtual 108, 3) := by decide +kernel
theorem d_Ref_loads_77 : decode c_Ref_loads 77 = .ok (.iaload, 1) := by decide +kernel
theorem d_Ref_loads_78 : decode c_Ref_loads 78 = .ok (.invokevirtual 97, 3) := by decide +kernel
theorem d_Ref_loads_81 : decode c_Ref_loads 81 = .ok (.goto 145, 3) := by decide +kernel
theorem d_Ref_loads_84 : decode c_Ref_loads 84 = .ok (.aload_n 0, 1) := by decide +kernel
theorem d_Ref_loads_85 : decode c_Ref_loads 85 = .ok (.iload_n 2, 1) := by decide +kernel
theorem d_Ref_loads_86 : decode c_Ref_loads 86 = .ok (.ifCond .lt 13, 3) := by decide +kernel
theorem d_Ref_loads_89 : decode c_Ref_loads 89 = .ok (.iload_n 2, 1) := by decide +kernel
theorem d_Ref_loads_90 : decode c_Ref_loads 90 = .ok (.bipush 8, 2) := by decide +kernel
theorem d_Ref_loads_92 : decode c_Ref_loads 92 = .ok (.if_icmp .ge 7, 3) := by decide +kernel
theorem d_Ref_loads_95 : decode c_Ref_loads 95 = .ok (.iconst 1, 1) := by decide +kernel
theorem d_Ref_loads_96 : decode c_Ref_loads 96 = .ok (.goto 4, 3) := by decide +kernel
theorem d_Ref_loads_99 : decode c_Ref_loads 99 = .ok (.iconst 0, 1) := by decide +kernel
theorem d_Ref_loads_100 : decode c_Ref_loads 100 = .ok (.bipush 8, 2) := by decide +kernel
theorem d_Ref_loads_102 : decode c_Ref_loads 102 = .ok (.invokevirtual 104, 3) := by decide +kernel
theorem d_Ref_loads_105 : decode c_Ref_loads 105 = .ok (.ifCond .eq 121, 3) := by decide +kernel
theorem d_Ref_loads_108 : decode c_Ref_loads 108 = .ok (.aload_n 0, 1) := by decide +kernel
theorem d_Ref_loads_109 : decode c_Ref_loads 109 = .ok (.aload_n 0, 1) := by decide +kernel
theorem d_Ref_loads_110 : decode c_Ref_loads 110 = .ok (.getfield 22, 3) := by decide +kernel
theorem d_Ref_loads_113 : decode c_Ref_loads 113 = .ok (.iload_n 2, 1) := by decide +kernel
theorem d_Ref_loads_114 : decode c_Ref_loads 114 = .ok (.iaload, 1) := by decide +kernel
theorem d_Ref_loads_115 : decode c_Ref_loads 115 = .ok (.aload_n 0, 1) := by decide +kernel
theorem d_Ref_loads_116 : decode c_Ref_loads 116 = .ok (.getfield 25, 3) := by decide +kernel
theorem d_Ref_loads_119 : decode c_Ref_loads 119 = .ok (.iload_n 2, 1) := by decide +kernel
theorem d_Ref_loads_120 : decode c_Ref_loads 120 = .ok (.iaload, 1) := by decide +kernel
theorem d_Ref_loads_121 : decode c_Ref_loads 121 = .ok (.invokevirtual 97, 3) := by decide +kernel
theorem d_Ref_loads_124 : decode c_Ref_loads 124 = .ok (.goto 102, 3) := by decide +kernel
theorem d_Ref_loads_127 : decode c_Ref_loads 127 = .ok (.aload_n 0, 1) := by decide +kernel
theorem d_Ref_loads_128 : decode c_Ref_loads 128 = .ok (.iconst 4, 1) := by decide +kernel
theorem d_Ref_loads_129 : decode c_Ref_loads 129 = .ok (.invokevirtual 129, 3) := by decide +kernel
theorem d_Ref_loads_132 : decode c_Ref_loads 132 = .ok (.pop, 1) := by decide +kernel
theorem d_Ref_loads_133 : decode c_Ref_loads 133 = .ok (.aload_n 0, 1) := by decide +kernel
theorem d_Ref_loads_134 : decode c_Ref_loads 134 = .ok (.iload_n 2, 1) := by decide +kernel
theorem d_Ref_loads_135 : decode c_Ref_loads 135 = .ok (.ifCond .lt 13, 3) := by decide +kernel
theorem d_Ref_loads_138 : decode c_Ref_loads 138 = .ok (.iload_n 2, 1) := by decide +kernel
theorem d_Ref_loads_139 : decode c_Ref_loads 139 = .ok (.bipush 16, 2) := by decide +kernel
theorem d_Ref_loads_141 : decode c_Ref_loads 141 = .ok (.if_icmp .ge 7, 3) := by decide +kernel
theorem d_Ref_loads_144 : decode c_Ref_loads 144 = .ok (.iconst 1, 1) := by decide +kernel
theorem d_Ref_loads_145 : decode c_Ref_loads 145 = .ok (.goto 4, 3) := by decide +kernel
theorem d_Ref_loads_148 : decode c_Ref_loads 148 = .ok (.iconst 0, 1) := by decide +kernel
theorem d_Ref_loads_149 : decode c_Ref_loads 149 = .ok (.bipush 8, 2) := by decide +kernel
theorem d_Ref_loads_151 : decode c_Ref_loads 151 = .ok (.invokevirtual 104, 3) := by decide +kernel
theorem d_Ref_loads_154 : decode c_Ref_loads 154 = .ok (.pop, 1) := by decide +kernel
theorem d_Ref_loads_155 : decode c_Ref_loads 155 = .ok (.aload_n 0, 1) := by decide +kernel
theorem d_Ref_loads_156 : decode c_Ref_loads 156 = .ok (.getfield 101, 3) := by decide +kernel
theorem d_Ref_loads_159 : decode c_Ref_loads 159 = .ok (.ifCond .ne 67, 3) := by decide +kernel
theorem d_Ref_loads_162 : decode c_Ref_loads 162 = .ok (.aload_n 0, 1) := by decide +kernel
theorem d_Ref_loads_163 : decode c_Ref_loads 163 = .ok (.aload_n 0, 1) := by decide +kernel
theorem d_Ref_loads_164 : decode c_Ref_loads 164 = .ok (.getfield 40, 3) := by decide +kernel
theorem d_Ref_loads_167 : decode c_Ref_loads 167 = .ok (.bipush 20, 2) := by decide +kernel
theorem d_Ref_loads_169 : decode c_Ref_loads 169 = .ok (.aload_n 0, 1) := by decide +kernel
theorem d_Ref_loads_170 : decode c_Ref_loads 170 = .ok (.getfield 63, 3) := by decide +kernel
theorem d_Ref_loads_173 : decode c_Ref_loads 173 = .ok (.imul, 1) := by decide +kernel
theorem d_Ref_loads_174 : decode c_Ref_loads 174 = .ok (.iload_n 2, 1) := by decide +kernel
theorem d_Ref_loads_175 : decode c_Ref_loads 175 = .ok (.iadd, 1) := by decide +kernel
theorem d_Ref_loads_176 : decode c_Ref_loads 176 = .ok (.iaload, 1) := by decide +kernel
theorem d_Ref_loads_177 : decode c_Ref_loads 177 = .ok (.aload_n 0, 1) := by decide +kernel
theorem d_Ref_loads_178 : decode c_Ref_loads 178 = .ok (.getfield 43, 3) := by decide +kernel
theorem d_Ref_loads_181 : decode c_Ref_loads 181 = .ok (.bipush 20, 2) := by decide +kernel
theorem d_Ref_loads_183 : decode c_Ref_loads 183 = .ok (.aload_n 0, 1) := by decide +kernel
theorem d_Ref_loads_184 : decode c_Ref_loads 184 = .ok (.getfield 63, 3) := by decide +kernel
theorem d_Ref_loads_187 : decode c_Ref_loads 187 = .ok (.imul, 1) := by decide +kernel
theorem d_Ref_loads_188 : decode c_Ref_loads 188 = .ok (.iload_n 2, 1) := by decide +kernel
theorem d_Ref_loads_189 : decode c_Ref_loads 189 = .ok (.iadd, 1) := by decide +kernel
theorem d_Ref_loads_190 : decode c_Ref_loads 190 = .ok (.iaload, 1) := by decide +kernel
theorem d_Ref_loads_191 : decode c_Ref_loads 191 = .ok (.invokevirtual 97, 3) := by decide +kernel
theorem d_Ref_loads_194 : decode c_Ref_loads 194 = .ok (.goto 32, 3) := by decide +kernel
theorem d_Ref_loads_197 : decode c_Ref_loads 197 = .ok (.aload_n 0, 1) := by decide +kernel
theorem d_Ref_loads_198 : decode c_Ref_loads 198 = .ok (.invokevirtual 132, 3) := by decide +kernel
theorem d_Ref_loads_201 : decode c_Ref_loads 201 = .ok (.goto 25, 3) := by decide +kernel
theorem d_Ref_loads_204 : decode c_Ref_loads 204 = .ok (.aload_n 0, 1) := by decide +kernel
theorem d_Ref_loads_205 : decode c_Ref_loads 205 = .ok (.iconst 5, 1) := by decide +kernel
theorem d_Ref_loads_206 : decode c_Ref_loads 206 = .ok (.invokevirtual 129, 3) := by decide +kernel
theorem d_Ref_loads_209 : decode c_Ref_loads 209 = .ok (.ifCond .eq 17, 3) := by decide +kernel
theorem d_Ref_loads_212 : decode c_Ref_loads 212 = .ok (.aload_n 0, 1) := by decide +kernel
theorem d_Ref_loads_213 : decode c_Ref_loads 213 = .ok (.iconst 3, 1) := by decide +kernel
theorem d_Ref_loads_214 : decode c_Ref_loads 214 = .ok (.aload_n 0, 1) := by decide +kernel
theorem d_Ref_loads_215 : decode c_Ref_loads 215 = .ok (.getfield 37, 3) := by decide +kernel
theorem d_Ref_loads_218 : decode c_Ref_loads 218 = .ok (.aload_n 0, 1) := by decide +kernel
theorem d_Ref_loads_219 : decode c_Ref_loads 219 = .ok (.getfield 63, 3) := by decide +kernel
theorem d_Ref_loads_222 : decode c_Ref_loads 222 = .ok (.iaload, 1) := by decide +kernel
theorem d_Ref_loads_223 : decode c_Ref_loads 223 = .ok (.invokevirtual 97, 3) := by decide +kernel
theorem d_Ref_loads_226 : decode c_Ref_loads 226 = .ok (.return_, 1) := by decide +kernel
theorem d_Ref_puts_0 : decode c_Ref_puts 0 = .ok (.aload_n 0, 1) := by decide +kernel
theorem d_Ref_puts_1 : decode c_Ref_puts 1 = .ok (.getfield 40, 3) := by decide +kernel
theorem d_Ref_puts_4 : decode c_Ref_puts 4 = .ok (.bipush 20, 2) := by decide +kernel
theorem d_Ref_puts_6 : decode c_Ref_puts 6 = .ok (.iload_n 1, 1) := by decide +kernel
theorem d_Ref_puts_7 : decode c_Ref_puts 7 = .ok (.imul, 1) := by decide +kernel
theorem d_Ref_puts_8 : decode c_Ref_puts 8 = .ok (.iload_n 2, 1) := by decide +kernel
theorem d_Ref_puts_9 : decode c_Ref_puts 9 = .ok (.iadd, 1) := by decide +kernel
theorem d_Ref_puts_10 : decode c_Ref_puts 10 = .ok (.aload_n 0, 1) := by decide +kernel
theorem d_Ref_puts_11 : decode c_Ref_puts 11 = .ok (.getfield 60, 3) := by decide +kernel
theorem d_Ref_puts_14 : decode c_Ref_puts 14 = .ok (.iastore, 1) := by decide +kernel
theorem d_Ref_puts_15 : decode c_Ref_puts 15 = .ok (.aload_n 0, 1) := by decide +kernel
theorem d_Ref_puts_16 : decode c_Ref_puts 16 = .ok (.getfield 43, 3) := by decide +kernel
theorem d_Ref_puts_19 : decode c_Ref_puts 19 = .ok (.bipush 20, 2) := by decide +kernel
theorem d_Ref_puts_21 : decode c_Ref_puts 21 = .ok (.iload_n 1, 1) := by decide +kernel
theorem d_Ref_puts_22 : decode c_Ref_puts 22 = .ok (.imul, 1) := by decide +kernel
theorem d_Ref_puts_23 : decode c_Ref_puts 23 = .ok (.iload_n 2, 1) := by decide +kernel
theorem d_Ref_puts_24 : decode c_Ref_puts 24 = .ok (.iadd, 1) := by decide +kernel
theorem d_Ref_puts_25 : decode c_Ref_puts 25 = .ok (.aload_n 0, 1) := by decide +kernel
theorem d_Ref_puts_26 : decode c_Ref_puts 26 = .ok (.getfield 63, 3) := by decide +kernel
theorem d_Ref_puts_29 : decode c_Ref_puts 29 = .ok (.iastore, 1) := by decide +kernel
theorem d_Ref_puts_30 : decode c_Ref_puts 30 = .ok (.return_, 1) := by decide +kernel
theorem d_Ref_stores_0 : decode c_Ref_stores 0 = .ok (.iload_n 1, 1) := by decide +kernel
theorem d_Ref_stores_1 : decode c_Ref_stores 1 = .ok (.tableswitch 403 9 13 #[35, 91, 138, 210, 342], 35) := by decide +kernel
theorem d_Ref_stores_36 : decode c_Ref_stores 36 = .ok (.aload_n 0, 1) := by decide +kernel
theorem d_Ref_stores_37 : decode c_Ref_stores 37 = .ok (.iload_n 2, 1) := by decide +kernel
theorem d_Ref_stores_38 : decode c_Ref_stores 38 = .ok (.ifCond .lt 15, 3) := by decide +kernel
theorem d_Ref_stores_41 : decode c_Ref_stores 41 = .ok (.iload_n 2, 1) := by decide +kernel
theorem d_Ref_stores_42 : decode c_Ref_stores 42 = .ok (.aload_n 0, 1) := by decide +kernel
theorem d_Ref_stores_43 : decode c_Ref_stores 43 = .ok (.getfield 66, 3) := by decide +kernel
theorem d_Ref_stores_46 : decode c_Ref_stores 46 = .ok (.if_icmp .ge 7, 3) := by decide +kernel
theorem d_Ref_stores_49 : decode c_Ref_stores 49 = .ok (.iconst 1, 1) := by decide +kernel
theorem d_Ref_stores_50 : decode c_Ref_stores 50 = .ok (.goto 4, 3) := by decide +kernel
theorem d_Ref_stores_53 : decode c_Ref_stores 53 = .ok (.iconst 0, 1) := by decide +kernel
theorem d_Ref_stores_54 : decode c_Ref_stores 54 = .ok (.iconst 3, 1) := by decide +kernel
theorem d_Ref_stores_55 : decode c_Ref_stores 55 = .ok (.invokevirtual 104, 3) := by decide +kernel
theorem d_Ref_stores_58 : decode c_Ref_stores 58 = .ok (.ifCond .eq 364, 3) := by decide +kernel
theorem d_Ref_stores_61 : decode c_Ref_stores 61 = .ok (.aload_n 0, 1) := by decide +kernel
theorem d_Ref_stores_62 : decode c_Ref_stores 62 = .ok (.getfield 16, 3) := by decide +kernel
theorem d_Ref_stores_65 : decode c_Ref_stores 65 = .ok (.aload_n 0, 1) := by decide +kernel
theorem d_Ref_stores_66 : decode c_Ref_stores 66 = .ok (.iload_n 2, 1) := by decide +kernel
theorem d_Ref_stores_67 : decode c_Ref_stores 67 = .ok (.invokevirtual 108, 3) := by decide +kernel
theorem d_Ref_stores_70 : decode c_Ref_stores 70 = .ok (.aload_n 0, 1) := by decide +kernel
theorem d_Ref_stores_71 : decode c_Ref_stores 71 = .ok (.getfield 60, 3) := by decide +kernel
theorem d_Ref_stores_74 : decode c_Ref_stores 74 = .ok (.iastore, 1) := by decide +kernel
theorem d_Ref_stores_75 : decode c_Ref_stores 75 = .ok (.aload_n 0, 1) := by decide +kernel
theorem d_Ref_stores_76 : decode c_Ref_stores 76 = .ok (.getfield 19, 3) := by decide +kernel
theorem d_Ref_stores_79 : decode c_Ref_stores 79 = .ok (.aload_n 0, 1) := by decide +kernel
theorem d_Ref_stores_80 : decode c_Ref_stores 80 = .ok (.iload_n 2, 1) := by decide +kernel
theorem d_Ref_stores_81 : decode c_Ref_stores 81 = .ok (.invokevirtual 108, 3) := by decide +kernel
theorem d_Ref_stores_84 : decode c_Ref_stores 84 = .ok (.aload_n 0, 1) := by decide +kernel
theorem d_Ref_stores_85 : decode c_Ref_stores 85 = .ok (.getfield 63, 3) := by decide +kernel
theorem d_Ref_stores_88 : decode c_Ref_stores 88 = .ok (.iastore, 1) := by decide +kernel
theorem d_Ref_stores_89 : decode c_Ref_stores 89 = .ok (.goto 333, 3) := by decide +kernel
theorem d_Ref_stores_92 : decode c_Ref_stores 92 = .ok (.aload_n 0, 1) := by decide +kernel
theorem d_Ref_stores_93 : decode c_Ref_stores 93 = .ok (.iload_n 2, 1) := by decide +kernel
theorem d_Ref_stores_94 : decode c_Ref_stores 94 = .ok (.ifCond .lt 13, 3) := by decide +kernel
theorem d_Ref_stores_97 : decode c_Ref_stores 97 = .ok (.iload_n 2, 1) := by decide +kernel
theorem d_Ref_stores_98 : decode c_Ref_stores 98 = .ok (.bipush 8, 2) := by decide +kernel
theorem d_Ref_stores_100 : decode c_Ref_stores 100 = .ok (.if_icmp .ge 7, 3) := by decide +kernel
theorem d_Ref_stores_103 : decode c_Ref_stores 103 = .ok (.iconst 1, 1) := by decide +kernel
theorem d_Ref_stores_104 : decode c_Ref_stores 104 = .ok (.goto 4, 3) := by decide +kernel
theorem d_Ref_stores_107 : decode c_Ref_stores 107 = .ok (.iconst 0, 1) := by decide +kernel
theorem d_Ref_stores_108 : decode c_Ref_stores 108 = .ok (.bipush 8, 2) := by decide +kernel
theorem d_Ref_stores_110 : decode c_Ref_stores 110 = .ok (.invokevirtual 104, 3) := by decide +kernel
theorem d_Ref_stores_113 : decode c_Ref_stores 113 = .ok (.ifCond .eq 309, 3) := by decide +kernel
theorem d_Ref_stores_116 : decode c_Ref_stores 116 = .ok (.aload_n 0, 1) := by decide +kernel
theorem d_Ref_stores_117 : decode c_Ref_stores 117 = .ok (.getfield 22, 3) := by decide +kernel
theorem d_Ref_stores_120 : decode c_Ref_stores 120 = .ok (.iload_n 2, 1) := by decide +kernel
theorem d_Ref_stores_121 : decode c_Ref_stores 121 = .ok (.aload_n 0, 1) := by decide +kernel
theorem d_Ref_stores_122 : decode c_Ref_stores 122 = .ok (.getfield 60, 3) := by decide +kernel
theorem d_Ref_stores_125 : decode c_Ref_stores 125 = .ok (.iastore, 1) := by decide +kernel
theorem d_Ref_stores_126 : decode c_Ref_stores 126 = .ok (.aload_n 0, 1) := by decide +kernel
theorem d_Ref_stores_127 : decode c_Ref_stores 127 = .ok (.getfield 25, 3) := by decide +kernel
theorem d_Ref_stores_130 : decode c_Ref_stores 130 = .ok (.iload_n 2, 1) := by decide +kernel
theorem d_Ref_stores_131 : decode c_Ref_stores 131 = .ok (.aload_n 0, 1) := by decide +kernel
theorem d_Ref_stores_132 : decode c_Ref_stores 132 = .ok (.getfield 63, 3) := by decide +kernel
theorem d_Ref_stores_135 : decode c_Ref_stores 135 = .ok (.iastore, 1) := by decide +kernel
theorem d_Ref_stores_136 : decode c_Ref_stores 136 = .ok (.goto 286, 3) := by decide +kernel
theorem d_Ref_stores_139 : decode c_Ref_stores 139 = .ok (.aload_n 0, 1) := by decide +kernel
theorem d_Ref_stores_140 : decode c_Ref_stores 140 = .ok (.iload_n 2, 1) := by decide +kernel
theorem d_Ref_stores_141 : decode c_Ref_stores 141 = .ok (.ifCond .lt 13, 3) := by decide +kernel
theorem d_Ref_stores_144 : decode c_Ref_stores 144 = .ok (.iload_n 2, 1) := by decide +kernel
theorem d_Ref_stores_145 : decode c_Ref_stores 145 = .ok (.bipush 16, 2) := by decide +kernel
theorem d_Ref_stores_147 : decode c_Ref_stores 147 = .ok (.if_icmp .ge 7, 3) := by decide +kernel
theorem d_Ref_stores_150 : decode c_Ref_stores 150 = .ok (.iconst 1, 1) := by decide +kernel
theorem d_Ref_stores_151 : decode c_Ref_stores 151 = .ok (.goto 4, 3) := by decide +kernel
theorem d_Ref_stores_154 : decode c_Ref_stores 154 = .ok (.iconst 0, 1) := by decide +kernel
theorem d_Ref_stores_155 : decode c_Ref_stores 155 = .ok (.bipush 8, 2) := by decide +kernel
theorem d_Ref_stores_157 : decode c_Ref_stores 157 = .ok (.invokevirtual 104, 3) := by decide +kernel
theorem d_Ref_stores_160 : decode c_Ref_stores 160 = .ok (.pop, 1) := by decide +kernel
theorem d_Ref_stores_161 : decode c_Ref_stores 161 = .ok (.aload_n 0, 1) := by decide +kernel
theorem d_Ref_stores_162 : decode c_Ref_stores 162 = .ok (.iconst 1, 1) := by decide +kernel
theorem d_Ref_stores_163 : decode c_Ref_stores 163 = .ok (.invokevirtual 125, 3) := by decide +kernel
theorem d_Ref_stores_166 : decode c_Ref_stores 166 = .ok (.ifCond .eq 10, 3) := by decide +kernel
theorem d_Ref_stores_169 : decode c_Ref_stores 169 = .ok (.aload_n 0, 1) := by decide +kernel
theorem d_Ref_stores_170 : decode c_Ref_stores 170 = .ok (.iconst 0, 1) := by decide +kernel
theorem d_Ref_stores_171 : decode c_Ref_stores 171 = .ok (.iconst 4, 1) := by decide +kernel
theorem d_Ref_stores_172 : decode c_Ref_stores 172 = .ok (.invokevirtual 135, 3) := by decide +kernel
theorem d_Ref_stores_175 : decode c_Ref_stores 175 = .ok (.pop, 1) := by decide +kernel
theorem d_Ref_stores_176 : decode c_Ref_stores 176 = .ok (.aload_n 0, 1) := by decide +kernel
theorem d_Ref_stores_177 : decode c_Ref_stores 177 = .ok (.getfield 101, 3) := by decide +kernel
theorem d_Ref_stores_180 : decode c_Ref_stores 180 = .ok (.ifCond .ne 242, 3) := by decide +kernel
theorem d_Ref_stores_183 : decode c_Ref_stores 183 = .ok (.aload_n 0, 1) := by decide +kernel
theorem d_Ref_stores_184 : decode c_Ref_stores 184 = .ok (.aload_n 0, 1) := by decide +kernel
theorem d_Ref_stores_185 : decode c_Ref_stores 185 = .ok (.getfield 19, 3) := by decide +kernel
theorem d_Ref_stores_188 : decode c_Ref_stores 188 = .ok (.aload_n 0, 1) := by decide +kernel
theorem d_Ref_stores_189 : decode c_Ref_stores 189 = .ok (.iconst 0, 1) := by decide +kernel
theorem d_Ref_stores_190 : decode c_Ref_stores 190 = .ok (.invokevirtual 108, 3) := by decide +kernel
theorem d_Ref_stores_193 : decode c_Ref_stores 193 = .ok (.iaload, 1) := by decide +kernel
theorem d_Ref_stores_194 : decode c_Ref_stores 194 = .ok (.iload_n 2, 1) := by decide +kernel
theorem d_Ref_stores_195 : decode c_Ref_stores 195 = .ok (.invokevirtual 139, 3) := by decide +kernel
theorem d_Ref_stores_198 : decode c_Ref_stores 198 = .ok (.aload_n 0, 1) := by decide +kernel
theorem d_Ref_stores_199 : decode c_Ref_stores 199 = .ok (.dup, 1) := by decide +kernel
theorem d_Ref_stores_200 : decode c_Ref_stores 200 = .ok (.getfield 66, 3) := by decide +kernel
theorem d_Ref_stores_203 : decode c_Ref_stores 203 = .ok (.iconst 1, 1) := by decide +kernel
theorem d_Ref_stores_204 : decode c_Ref_stores 204 = .ok (.isub, 1) := by decide +kernel
theorem d_Ref_stores_205 : decode c_Ref_stores 205 = .ok (.putfield 66, 3) := by decide +kernel
theorem d_Ref_stores_208 : decode c_Ref_stores 208 = .ok (.goto 214, 3) := by decide +kernel
theorem d_Ref_stores_211 : decode c_Ref_stores 211 = .ok (.aload_n 0, 1) := by decide +kernel
theorem d_Ref_stores_212 : decode c_Ref_stores 212 = .ok (.iconst 2, 1) := by decide +kernel
theorem d_Ref_stores_213 : decode c_Ref_stores 213 = .ok (.invokevirtual 125, 3) := by decide +kernel
theorem d_Ref_stores_216 : decode c_Ref_stores 216 = .ok (.ifCond .eq 35, 3) := by decide +kernel
theorem d_Ref_stores_219 : decode c_Ref_stores 219 = .ok (.aload_n 0, 1) := by decide +kernel
theorem d_Ref_stores_220 : decode c_Ref_stores 220 = .ok (.iconst 1, 1) := by decide +kernel
theorem d_Ref_stores_221 : decode c_Ref_stores 221 = .ok (.iconst 5, 1) := by decide +kernel
theorem d_Ref_stores_222 : decode c_Ref_stores 222 = .ok (.invokevirtual 135, 3) := by decide +kernel
theorem d_Ref_stores_225 : decode c_Ref_stores 225 = .ok (.ifCond .ne 7, 3) := by decide +kernel
theorem d_Ref_stores_228 : decode c_Ref_stores 228 = .ok (.iconst 1, 1) := by decide +kernel
theorem d_Ref_stores_229 : decode c_Ref_stores 229 = .ok (.goto 4, 3) := by decide +kernel
theorem d_Ref_stores_232 : decode c_Ref_stores 232 = .ok (.iconst 0, 1) := by decide +kernel
theorem d_Ref_stores_233 : decode c_Ref_stores 233 = .ok (.aload_n 0, 1) := by decide +kernel
theorem d_Ref_stores_234 : decode c_Ref_stores 234 = .ok (.iconst 0, 1) := by decide +kernel
theorem d_Ref_stores_235 : decode c_Ref_stores 235 = .ok (.iconst 3, 1) := by decide +kernel
theorem d_Ref_stores_236 : decode c_Ref_stores 236 = .ok (.invokevirtual 135, 3) := by decide +kernel
theorem d_Ref_stores_239 : decode c_Ref_stores 239 = .ok (.ifCond .ne 7, 3) := by decide +kernel
theorem d_Ref_stores_242 : decode c_Ref_stores 242 = .ok (.iconst 1, 1) := by decide +kernel
theorem d_Ref_stores_243 : decode c_Ref_stores 243 = .ok (.goto 4, 3) := by decide +kernel
theorem d_Ref_stores_246 : decode c_Ref_stores 246 = .ok (.iconst 0, 1) := by decide +kernel
theorem d_Ref_stores_247 : decode c_Ref_stores 247 = .ok (.ior, 1) := by decide +kernel
theorem d_Ref_stores_248 : decode c_Ref_stores 248 = .ok (.ifCond .eq 4, 3) := by decide +kernel
theorem d_Ref_stores_251 : decode c_Ref_stores 251 = .ok (.return_, 1) := by decide +kernel
theorem d_Ref_stores_252 : decode c_Ref_stores 252 = .ok (.aload_n 0, 1) := by decide +kernel
theorem d_Ref_stores_253 : decode c_Ref_stores 253 = .ok (.aload_n 0, 1) := by decide +kernel
theorem d_Ref_stores_254 : decode c_Ref_stores 254 = .ok (.getfield 19, 3) := by decide +kernel
theorem d_Ref_stores_257 : decode c_Ref_stores 257 = .ok (.aload_n 0, 1) := by decide +kernel
theorem d_Ref_stores_258 : decode c_Ref_stores 258 = .ok (.iconst 0, 1) := by decide +kernel
theorem d_Ref_stores_259 : decode c_Ref_stores 259 = .ok (.invokevirtual 108, 3) := by decide +kernel
theorem d_Ref_stores_262 : decode c_Ref_stores 262 = .ok (.iaload, 1) := by decide +kernel
theorem d_Ref_stores_263 : decode c_Ref_stores 263 = .ok (.ifCond .lt 35, 3) := by decide +kernel
theorem d_Ref_stores_266 : decode c_Ref_stores 266 = .ok (.aload_n 0, 1) := by decide +kernel
theorem d_Ref_stores_267 : decode c_Ref_stores 267 = .ok (.getfield 19, 3) := by decide +kernel
theorem d_Ref_stores_270 : decode c_Ref_stores 270 = .ok (.aload_n 0, 1) := by decide +kernel
theorem d_Ref_stores_271 : decode c_Ref_stores 271 = .ok (.iconst 0, 1) := by decide +kernel
theorem d_Ref_stores_272 : decode c_Ref_stores 272 = .ok (.invokevirtual 108, 3) := by decide +kernel
theorem d_Ref_stores_275 : decode c_Ref_stores 275 = .ok (.iaload, 1) := by decide +kernel
theorem d_Ref_stores_276 : decode c_Ref_stores 276 = .ok (.aload_n 0, 1) := by decide +kernel
theorem d_Ref_stores_277 : decode c_Ref_stores 277 = .ok (.getfield 37, 3) := by decide +kernel
theorem d_Ref_stores_280 : decode c_Ref_stores 280 = .ok (.aload_n 0, 1) := by decide +kernel
theorem d_Ref_stores_281 : decode c_Ref_stores 281 = .ok (.getfield 19, 3) := by decide +kernel
theorem d_Ref_stores_284 : decode c_Ref_stores 284 = .ok (.aload_n 0, 1) := by decide +kernel
theorem d_Ref_stores_285 : decode c_Ref_stores 285 = .ok (.iconst 1, 1) := by decide +kernel
theorem d_Ref_stores_286 : decode c_Ref_stores 286 = .ok (.invokevirtual 108, 3) := by decide +kernel
theorem d_Ref_stores_289 : decode c_Ref_stores 289 = .ok (.iaload, 1) := by decide +kernel
theorem d_Ref_stores_290 : decode c_Ref_stores 290 = .ok (.iaload, 1) := by decide +kernel
theorem d_Ref_stores_291 : decode c_Ref_stores 291 = .ok (.if_icmp .ge 7, 3) := by decide +kernel
theorem d_Ref_stores_294 : decode c_Ref_stores 294 = .ok (.iconst 1, 1) := by decide +kernel
theorem d_Ref_stores_295 : decode c_Ref_stores 295 = .ok (.goto 4, 3) := by decide +kernel
theorem d_Ref_stores_298 : decode c_Ref_stores 298 = .ok (.iconst 0, 1) := by decide +kernel
theorem d_Ref_stores_299 : decode c_Ref_stores 299 = .ok (.iconst 2, 1) := by decide +kernel
theorem d_Ref_stores_300 : decode c_Ref_stores 300 = .ok (.invokevirtual 104, 3) := by decide +kernel
theorem d_Ref_stores_303 : decode c_Ref_stores 303 = .ok (.ifCond .eq 119, 3) := by decide +kernel
theorem d_Ref_stores_306 : decode c_Ref_stores 306 = .ok (.aload_n 0, 1) := by decide +kernel
theorem d_Ref_stores_307 : decode c_Ref_stores 307 = .ok (.aload_n 0, 1) := by decide +kernel
theorem d_Ref_stores_308 : decode c_Ref_stores 308 = .ok (.getfield 19, 3) := by decide +kernel
theorem d_Ref_stores_311 : decode c_Ref_stores 311 = .ok (.aload_n 0, 1) := by decide +kernel
theorem d_Ref_stores_312 : decode c_Ref_stores 312 = .ok (.iconst 1, 1) := by decide +kernel
theorem d_Ref_stores_313 : decode c_Ref_stores 313 = .ok (.invokevirtual 108, 3) := by decide +kernel
theorem d_Ref_stores_316 : decode c_Ref_stores 316 = .ok (.iaload, 1) := by decide +kernel
theorem d_Ref_stores_317 : decode c_Ref_stores 317 = .ok (.aload_n 0, 1) := by decide +kernel
theorem d_Ref_stores_318 : decode c_Ref_stores 318 = .ok (.getfield 19, 3) := by decide +kernel
theorem d_Ref_stores_321 : decode c_Ref_stores 321 = .ok (.aload_n 0, 1) := by decide +kernel
theorem d_Ref_stores_322 : decode c_Ref_stores 322 = .ok (.iconst 0, 1) := by decide +kernel
theorem d_Ref_stores_323 : decode c_Ref_stores 323 = .ok (.invokevirtual 108, 3) := by decide +kernel
theorem d_Ref_stores_326 : decode c_Ref_stores 326 = .ok (.iaload, 1) := by decide +kernel
theorem d_Ref_stores_327 : decode c_Ref_stores 327 = .ok (.invokevirtual 139, 3) := by decide +kernel
theorem d_Ref_stores_330 : decode c_Ref_stores 330 = .ok (.aload_n 0, 1) := by decide +kernel
theorem d_Ref_stores_331 : decode c_Ref_stores 331 = .ok (.dup, 1) := by decide +kernel
theorem d_Ref_stores_332 : decode c_Ref_stores 332 = .ok (.getfield 66, 3) := by decide +kernel
theorem d_Ref_stores_335 : decode c_Ref_stores 335 = .ok (.iconst 2, 1) := by decide +kernel
theorem d_Ref_stores_336 : decode c_Ref_stores 336 = .ok (.isub, 1) := by decide +kernel
theorem d_Ref_stores_337 : decode c_Ref_stores 337 = .ok (.putfield 66, 3) := by decide +kernel
theorem d_Ref_stores_340 : decode c_Ref_stores 340 = .ok (.goto 82, 3) := by decide +kernel
theorem d_Ref_stores_343 : decode c_Ref_stores 343 = .ok (.aload_n 0, 1) := by decide +kernel
theorem d_Ref_stores_344 : decode c_Ref_stores 344 = .ok (.aload_n 0, 1) := by decide +kernel
theorem d_Ref_stores_345 : decode c_Ref_stores 345 = .ok (.getfield 66, 3) := by decide +kernel
theorem d_Ref_stores_348 : decode c_Ref_stores 348 = .ok (.bipush 120, 2) := by decide +kernel
theorem d_Ref_stores_350 : decode c_Ref_stores 350 = .ok (.if_icmp .ge 7, 3) := by decide +kernel
theorem d_Ref_stores_353 : decode c_Ref_stores 353 = .ok (.iconst 1, 1) := by decide +kernel
theorem d_Ref_stores_354 : decode c_Ref_stores 354 = .ok (.goto 4, 3) := by decide +kernel
theorem d_Ref_stores_357 : decode c_Ref_stores 357 = .ok (.iconst 0, 1) := by decide +kernel
theorem d_Ref_stores_358 : decode c_Ref_stores 358 = .ok (.iconst 4, 1) := by decide +kernel
theorem d_Ref_stores_359 : decode c_Ref_stores 359 = .ok (.invokevirtual 104, 3) := by decide +kernel
theorem d_Ref_stores_362 : decode c_Ref_stores 362 = .ok (.ifCond .eq 60, 3) := by decide +kernel
theorem d_Ref_stores_365 : decode c_Ref_stores 365 = .ok (.aload_n 0, 1) := by decide +kernel
theorem d_Ref_stores_366 : decode c_Ref_stores 366 = .ok (.getfield 16, 3) := by decide +kernel
theorem d_Ref_stores_369 : decode c_Ref_stores 369 = .ok (.aload_n 0, 1) := by decide +kernel
theorem d_Ref_stores_370 : decode c_Ref_stores 370 = .ok (.getfield 66, 3) := by decide +kernel
theorem d_Ref_stores_373 : decode c_Ref_stores 373 = .ok (.aload_n 0, 1) := by decide +kernel
theorem d_Ref_stores_374 : decode c_Ref_stores 374 = .ok (.getfield 60, 3) := by decide +kernel
theorem d_Ref_stores_377 : decode c_Ref_stores 377 = .ok (.iastore, 1) := by decide +kernel
theorem d_Ref_stores_378 : decode c_Ref_stores 378 = .ok (.aload_n 0, 1) := by decide +kernel
theorem d_Ref_stores_379 : decode c_Ref_stores 379 = .ok (.getfield 19, 3) := by decide +kernel
theorem d_Ref_stores_382 : decode c_Ref_stores 382 = .ok (.aload_n 0, 1) := by decide +kernel
theorem d_Ref_stores_383 : decode c_Ref_stores 383 = .ok (.getfield 66, 3) := by decide +kernel
theorem d_Ref_stores_386 : decode c_Ref_stores 386 = .ok (.aload_n 0, 1) := by decide +kernel
theorem d_Ref_stores_387 : decode c_Ref_stores 387 = .ok (.getfield 63, 3) := by decide +kernel
theorem d_Ref_stores_390 : decode c_Ref_stores 390 = .ok (.iastore, 1) := by decide +kernel
theorem d_Ref_stores_391 : decode c_Ref_stores 391 = .ok (.aload_n 0, 1) := by decide +kernel
theorem d_Ref_stores_392 : decode c_Ref_stores 392 = .ok (.dup, 1) := by decide +kernel
theorem d_Ref_stores_393 : decode c_Ref_stores 393 = .ok (.getfield 66, 3) := by decide +kernel
theorem d_Ref_stores_396 : decode c_Ref_stores 396 = .ok (.iconst 1, 1) := by decide +kernel
theorem d_Ref_stores_397 : decode c_Ref_stores 397 = .ok (.iadd, 1) := by decide +kernel
theorem d_Ref_stores_398 : decode c_Ref_stores 398 = .ok (.putfield 66, 3) := by decide +kernel
theorem d_Ref_stores_401 : decode c_Ref_stores 401 = .ok (.goto 21, 3) := by decide +kernel
theorem d_Ref_stores_404 : decode c_Ref_stores 404 = .ok (.aload_n 0, 1) := by decide +kernel
theorem d_Ref_stores_405 : decode c_Ref_stores 405 = .ok (.iload_n 2, 1) := by decide +kernel
theorem d_Ref_stores_406 : decode c_Ref_stores 406 = .ok (.invokevirtual 125, 3) := by decide +kernel
theorem d_Ref_stores_409 : decode c_Ref_stores 409 = .ok (.ifCond .eq 13, 3) := by decide +kernel
theorem d_Ref_stores_412 : decode c_Ref_stores 412 = .ok (.aload_n 0, 1) := by decide +kernel
theorem d_Ref_stores_413 : decode c_Ref_stores 413 = .ok (.dup, 1) := by decide +kernel
theorem d_Ref_stores_414 : decode c_Ref_stores 414 = .ok (.getfield 66, 3) := by decide +kernel
theorem d_Ref_stores_417 : decode c_Ref_stores 417 = .ok (.iload_n 2, 1) := by decide +kernel
theorem d_Ref_stores_418 : decode c_Ref_stores 418 = .ok (.isub, 1) := by decide +kernel
theorem d_Ref_stores_419 : decode c_Ref_stores 419 = .ok (.putfield 66, 3) := by decide +kernel
theorem d_Ref_stores_422 : decode c_Ref_stores 422 = .ok (.return_, 1) := by decide +kernel
