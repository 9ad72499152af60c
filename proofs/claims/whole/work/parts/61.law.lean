theorem k_61 : (Jvm.Cond.initialized "ValueMachineLaw") ∈ tbl := tb 61 (by decide +kernel) (by decide +kernel)
theorem k_207 : (Jvm.Cond.methodLink "ValueMachineLaw" (33 : Nat) ({ cls := "ValueMachine", name := "clear", desc := "()V" } : Jvm.MethodName)) ∈ tbl := tb 207 (by decide +kernel) (by decide +kernel)
theorem k_208 : (Jvm.Cond.instanceMethod ({ cls := "ValueMachine", name := "clear", desc := "()V" } : Jvm.MethodName)) ∈ tbl := tb 208 (by decide +kernel) (by decide +kernel)
theorem k_209 : (Jvm.Cond.selects "ValueMachine" ({ cls := "ValueMachine", name := "clear", desc := "()V" } : Jvm.MethodName) ({ cls := "ValueMachine", name := "clear", desc := "()V" } : Jvm.MethodName)) ∈ tbl := tb 209 (by decide +kernel) (by decide +kernel)
theorem k_210 : (Jvm.Cond.code ({ cls := "ValueMachine", name := "clear", desc := "()V" } : Jvm.MethodName) prog_1_method_3_code (1 : Nat) (Option.none : Option Jvm.ClassFile.FieldType)) ∈ tbl := tb 210 (by decide +kernel) (by decide +kernel)
theorem k_219 : (Jvm.Cond.methodLink "ValueMachineLaw" (37 : Nat) ({ cls := "ValueMachine", name := "reset", desc := "()V" } : Jvm.MethodName)) ∈ tbl := tb 219 (by decide +kernel) (by decide +kernel)
theorem k_220 : (Jvm.Cond.instanceMethod ({ cls := "ValueMachine", name := "reset", desc := "()V" } : Jvm.MethodName)) ∈ tbl := tb 220 (by decide +kernel) (by decide +kernel)
theorem k_221 : (Jvm.Cond.selects "ValueMachine" ({ cls := "ValueMachine", name := "reset", desc := "()V" } : Jvm.MethodName) ({ cls := "ValueMachine", name := "reset", desc := "()V" } : Jvm.MethodName)) ∈ tbl := tb 221 (by decide +kernel) (by decide +kernel)
theorem k_222 : (Jvm.Cond.code ({ cls := "ValueMachine", name := "reset", desc := "()V" } : Jvm.MethodName) prog_1_method_4_code (1 : Nat) (Option.none : Option Jvm.ClassFile.FieldType)) ∈ tbl := tb 222 (by decide +kernel) (by decide +kernel)
theorem k_223 : (Jvm.Cond.methodLink "ValueMachineLaw" (45 : Nat) ({ cls := "ValueMachine", name := "state", desc := "()I" } : Jvm.MethodName)) ∈ tbl := tb 223 (by decide +kernel) (by decide +kernel)
theorem k_227 : (Jvm.Cond.methodLink "ValueMachineLaw" (49 : Nat) ({ cls := "ValueMachine", name := "look", desc := "(II)I" } : Jvm.MethodName)) ∈ tbl := tb 227 (by decide +kernel) (by decide +kernel)
theorem k_228 : (Jvm.Cond.instanceMethod ({ cls := "ValueMachine", name := "look", desc := "(II)I" } : Jvm.MethodName)) ∈ tbl := tb 228 (by decide +kernel) (by decide +kernel)
theorem k_229 : (Jvm.Cond.selects "ValueMachine" ({ cls := "ValueMachine", name := "look", desc := "(II)I" } : Jvm.MethodName) ({ cls := "ValueMachine", name := "look", desc := "(II)I" } : Jvm.MethodName)) ∈ tbl := tb 229 (by decide +kernel) (by decide +kernel)
theorem k_230 : (Jvm.Cond.code ({ cls := "ValueMachine", name := "look", desc := "(II)I" } : Jvm.MethodName) prog_1_method_7_code (3 : Nat) (Option.some Jvm.ClassFile.FieldType.int)) ∈ tbl := tb 230 (by decide +kernel) (by decide +kernel)
theorem k_249 : (Jvm.Cond.methodLink "ValueMachineLaw" (53 : Nat) ({ cls := "ValueMachine", name := "into", desc := "(I)I" } : Jvm.MethodName)) ∈ tbl := tb 249 (by decide +kernel) (by decide +kernel)
theorem k_250 : (Jvm.Cond.instanceMethod ({ cls := "ValueMachine", name := "into", desc := "(I)I" } : Jvm.MethodName)) ∈ tbl := tb 250 (by decide +kernel) (by decide +kernel)
theorem k_251 : (Jvm.Cond.selects "ValueMachine" ({ cls := "ValueMachine", name := "into", desc := "(I)I" } : Jvm.MethodName) ({ cls := "ValueMachine", name := "into", desc := "(I)I" } : Jvm.MethodName)) ∈ tbl := tb 251 (by decide +kernel) (by decide +kernel)
theorem k_252 : (Jvm.Cond.code ({ cls := "ValueMachine", name := "into", desc := "(I)I" } : Jvm.MethodName) prog_1_method_8_code (2 : Nat) (Option.some Jvm.ClassFile.FieldType.int)) ∈ tbl := tb 252 (by decide +kernel) (by decide +kernel)
theorem k_271 : (Jvm.Cond.methodLink "ValueMachineLaw" (57 : Nat) ({ cls := "ValueMachine", name := "value", desc := "()I" } : Jvm.MethodName)) ∈ tbl := tb 271 (by decide +kernel) (by decide +kernel)
theorem k_272 : (Jvm.Cond.instanceMethod ({ cls := "ValueMachine", name := "value", desc := "()I" } : Jvm.MethodName)) ∈ tbl := tb 272 (by decide +kernel) (by decide +kernel)
theorem k_273 : (Jvm.Cond.selects "ValueMachine" ({ cls := "ValueMachine", name := "value", desc := "()I" } : Jvm.MethodName) ({ cls := "ValueMachine", name := "value", desc := "()I" } : Jvm.MethodName)) ∈ tbl := tb 273 (by decide +kernel) (by decide +kernel)
theorem k_274 : (Jvm.Cond.code ({ cls := "ValueMachine", name := "value", desc := "()I" } : Jvm.MethodName) prog_1_method_9_code (1 : Nat) (Option.some Jvm.ClassFile.FieldType.int)) ∈ tbl := tb 274 (by decide +kernel) (by decide +kernel)
theorem k_277 : (Jvm.Cond.methodLink "ValueMachineLaw" (61 : Nat) ({ cls := "ValueMachine", name := "isSame", desc := "()Z" } : Jvm.MethodName)) ∈ tbl := tb 277 (by decide +kernel) (by decide +kernel)
theorem k_278 : (Jvm.Cond.instanceMethod ({ cls := "ValueMachine", name := "isSame", desc := "()Z" } : Jvm.MethodName)) ∈ tbl := tb 278 (by decide +kernel) (by decide +kernel)
theorem k_279 : (Jvm.Cond.selects "ValueMachine" ({ cls := "ValueMachine", name := "isSame", desc := "()Z" } : Jvm.MethodName) ({ cls := "ValueMachine", name := "isSame", desc := "()Z" } : Jvm.MethodName)) ∈ tbl := tb 279 (by decide +kernel) (by decide +kernel)
theorem k_280 : (Jvm.Cond.code ({ cls := "ValueMachine", name := "isSame", desc := "()Z" } : Jvm.MethodName) prog_1_method_10_code (1 : Nat) (Option.some Jvm.ClassFile.FieldType.boolean)) ∈ tbl := tb 280 (by decide +kernel) (by decide +kernel)
theorem k_281 : (Jvm.Cond.methodLink "ValueMachineLaw" (66 : Nat) ({ cls := "ValueMachine", name := "count", desc := "(I)I" } : Jvm.MethodName)) ∈ tbl := tb 281 (by decide +kernel) (by decide +kernel)
theorem k_282 : (Jvm.Cond.instanceMethod ({ cls := "ValueMachine", name := "count", desc := "(I)I" } : Jvm.MethodName)) ∈ tbl := tb 282 (by decide +kernel) (by decide +kernel)
theorem k_283 : (Jvm.Cond.selects "ValueMachine" ({ cls := "ValueMachine", name := "count", desc := "(I)I" } : Jvm.MethodName) ({ cls := "ValueMachine", name := "count", desc := "(I)I" } : Jvm.MethodName)) ∈ tbl := tb 283 (by decide +kernel) (by decide +kernel)
theorem k_284 : (Jvm.Cond.code ({ cls := "ValueMachine", name := "count", desc := "(I)I" } : Jvm.MethodName) prog_1_method_11_code (2 : Nat) (Option.some Jvm.ClassFile.FieldType.int)) ∈ tbl := tb 284 (by decide +kernel) (by decide +kernel)
theorem k_285 : (Jvm.Cond.methodLink "ValueMachineLaw" (23 : Nat) ({ cls := "ValueMachineLaw", name := "code", desc := "(LValueMachine;II[J)I" } : Jvm.MethodName)) ∈ tbl := tb 285 (by decide +kernel) (by decide +kernel)
theorem k_286 : (Jvm.Cond.static ({ cls := "ValueMachineLaw", name := "code", desc := "(LValueMachine;II[J)I" } : Jvm.MethodName)) ∈ tbl := tb 286 (by decide +kernel) (by decide +kernel)
theorem k_287 : (Jvm.Cond.codeWith ({ cls := "ValueMachineLaw", name := "code", desc := "(LValueMachine;II[J)I" } : Jvm.MethodName) method_3_code (5 : Nat) (Option.some Jvm.ClassFile.FieldType.int) [((0 : Nat), (10 : Nat), (13 : Nat), (13 : Nat))]) ∈ tbl := tb 287 (by decide +kernel) (by decide +kernel)
theorem k_363 : (Jvm.Cond.methodLink "ValueMachineLaw" (41 : Nat) ({ cls := "ValueMachineLaw", name := "run", desc := "(LValueMachine;I[J)I" } : Jvm.MethodName)) ∈ tbl := tb 363 (by decide +kernel) (by decide +kernel)
theorem k_364 : (Jvm.Cond.static ({ cls := "ValueMachineLaw", name := "run", desc := "(LValueMachine;I[J)I" } : Jvm.MethodName)) ∈ tbl := tb 364 (by decide +kernel) (by decide +kernel)
theorem k_365 : (Jvm.Cond.codeWith ({ cls := "ValueMachineLaw", name := "run", desc := "(LValueMachine;I[J)I" } : Jvm.MethodName) method_4_code (4 : Nat) (Option.some Jvm.ClassFile.FieldType.int) [((0 : Nat), (9 : Nat), (12 : Nat), (13 : Nat))]) ∈ tbl := tb 365 (by decide +kernel) (by decide +kernel)
theorem k_706 : (Jvm.Cond.methodLink "ValueMachineLaw" (29 : Nat) ({ cls := "ValueMachineModel", name := "thrown", desc := "()I" } : Jvm.MethodName)) ∈ tbl := tb 706 (by decide +kernel) (by decide +kernel)
theorem k_707 : (Jvm.Cond.instanceMethod ({ cls := "ValueMachineModel", name := "thrown", desc := "()I" } : Jvm.MethodName)) ∈ tbl := tb 707 (by decide +kernel) (by decide +kernel)
theorem k_708 : (Jvm.Cond.selects "ValueMachineModel" ({ cls := "ValueMachineModel", name := "thrown", desc := "()I" } : Jvm.MethodName) ({ cls := "ValueMachineModel", name := "thrown", desc := "()I" } : Jvm.MethodName)) ∈ tbl := tb 708 (by decide +kernel) (by decide +kernel)
theorem k_709 : (Jvm.Cond.code ({ cls := "ValueMachineModel", name := "thrown", desc := "()I" } : Jvm.MethodName) prog_10_method_2_code (1 : Nat) (Option.some Jvm.ClassFile.FieldType.int)) ∈ tbl := tb 709 (by decide +kernel) (by decide +kernel)
theorem k_710 : (Jvm.Cond.methodLink "ValueMachineLaw" (28 : Nat) ({ cls := "ValueMachineModel", name := "code", desc := "(II)I" } : Jvm.MethodName)) ∈ tbl := tb 710 (by decide +kernel) (by decide +kernel)
theorem k_711 : (Jvm.Cond.instanceMethod ({ cls := "ValueMachineModel", name := "code", desc := "(II)I" } : Jvm.MethodName)) ∈ tbl := tb 711 (by decide +kernel) (by decide +kernel)
theorem k_712 : (Jvm.Cond.selects "ValueMachineModel" ({ cls := "ValueMachineModel", name := "code", desc := "(II)I" } : Jvm.MethodName) ({ cls := "ValueMachineModel", name := "code", desc := "(II)I" } : Jvm.MethodName)) ∈ tbl := tb 712 (by decide +kernel) (by decide +kernel)
theorem k_713 : (Jvm.Cond.code ({ cls := "ValueMachineModel", name := "code", desc := "(II)I" } : Jvm.MethodName) prog_10_method_3_code (3 : Nat) (Option.some Jvm.ClassFile.FieldType.int)) ∈ tbl := tb 713 (by decide +kernel) (by decide +kernel)
theorem k_714 : (Jvm.Cond.methodLink "ValueMachineLaw" (36 : Nat) ({ cls := "ValueMachineModel", name := "clear", desc := "()V" } : Jvm.MethodName)) ∈ tbl := tb 714 (by decide +kernel) (by decide +kernel)
theorem k_715 : (Jvm.Cond.instanceMethod ({ cls := "ValueMachineModel", name := "clear", desc := "()V" } : Jvm.MethodName)) ∈ tbl := tb 715 (by decide +kernel) (by decide +kernel)
theorem k_716 : (Jvm.Cond.selects "ValueMachineModel" ({ cls := "ValueMachineModel", name := "clear", desc := "()V" } : Jvm.MethodName) ({ cls := "ValueMachineModel", name := "clear", desc := "()V" } : Jvm.MethodName)) ∈ tbl := tb 716 (by decide +kernel) (by decide +kernel)
theorem k_717 : (Jvm.Cond.code ({ cls := "ValueMachineModel", name := "clear", desc := "()V" } : Jvm.MethodName) prog_10_method_4_code (1 : Nat) (Option.none : Option Jvm.ClassFile.FieldType)) ∈ tbl := tb 717 (by decide +kernel) (by decide +kernel)
theorem k_722 : (Jvm.Cond.methodLink "ValueMachineLaw" (40 : Nat) ({ cls := "ValueMachineModel", name := "reset", desc := "()V" } : Jvm.MethodName)) ∈ tbl := tb 722 (by decide +kernel) (by decide +kernel)
theorem k_723 : (Jvm.Cond.methodLink "ValueMachineLaw" (44 : Nat) ({ cls := "ValueMachineModel", name := "run", desc := "(I)I" } : Jvm.MethodName)) ∈ tbl := tb 723 (by decide +kernel) (by decide +kernel)
theorem k_724 : (Jvm.Cond.instanceMethod ({ cls := "ValueMachineModel", name := "run", desc := "(I)I" } : Jvm.MethodName)) ∈ tbl := tb 724 (by decide +kernel) (by decide +kernel)
theorem k_725 : (Jvm.Cond.selects "ValueMachineModel" ({ cls := "ValueMachineModel", name := "run", desc := "(I)I" } : Jvm.MethodName) ({ cls := "ValueMachineModel", name := "run", desc := "(I)I" } : Jvm.MethodName)) ∈ tbl := tb 725 (by decide +kernel) (by decide +kernel)
theorem k_726 : (Jvm.Cond.code ({ cls := "ValueMachineModel", name := "run", desc := "(I)I" } : Jvm.MethodName) prog_10_method_32_code (3 : Nat) (Option.some Jvm.ClassFile.FieldType.int)) ∈ tbl := tb 726 (by decide +kernel) (by decide +kernel)
theorem k_830 : (Jvm.Cond.methodLink "ValueMachineLaw" (48 : Nat) ({ cls := "ValueMachineModel", name := "state", desc := "()I" } : Jvm.MethodName)) ∈ tbl := tb 830 (by decide +kernel) (by decide +kernel)
theorem k_831 : (Jvm.Cond.instanceMethod ({ cls := "ValueMachineModel", name := "state", desc := "()I" } : Jvm.MethodName)) ∈ tbl := tb 831 (by decide +kernel) (by decide +kernel)
theorem k_832 : (Jvm.Cond.selects "ValueMachineModel" ({ cls := "ValueMachineModel", name := "state", desc := "()I" } : Jvm.MethodName) ({ cls := "ValueMachineModel", name := "state", desc := "()I" } : Jvm.MethodName)) ∈ tbl := tb 832 (by decide +kernel) (by decide +kernel)
theorem k_833 : (Jvm.Cond.code ({ cls := "ValueMachineModel", name := "state", desc := "()I" } : Jvm.MethodName) prog_10_method_33_code (1 : Nat) (Option.some Jvm.ClassFile.FieldType.int)) ∈ tbl := tb 833 (by decide +kernel) (by decide +kernel)
theorem k_834 : (Jvm.Cond.methodLink "ValueMachineLaw" (52 : Nat) ({ cls := "ValueMachineModel", name := "look", desc := "(II)I" } : Jvm.MethodName)) ∈ tbl := tb 834 (by decide +kernel) (by decide +kernel)
theorem k_835 : (Jvm.Cond.instanceMethod ({ cls := "ValueMachineModel", name := "look", desc := "(II)I" } : Jvm.MethodName)) ∈ tbl := tb 835 (by decide +kernel) (by decide +kernel)
theorem k_836 : (Jvm.Cond.selects "ValueMachineModel" ({ cls := "ValueMachineModel", name := "look", desc := "(II)I" } : Jvm.MethodName) ({ cls := "ValueMachineModel", name := "look", desc := "(II)I" } : Jvm.MethodName)) ∈ tbl := tb 836 (by decide +kernel) (by decide +kernel)
theorem k_837 : (Jvm.Cond.code ({ cls := "ValueMachineModel", name := "look", desc := "(II)I" } : Jvm.MethodName) prog_10_method_35_code (3 : Nat) (Option.some Jvm.ClassFile.FieldType.int)) ∈ tbl := tb 837 (by decide +kernel) (by decide +kernel)
theorem k_842 : (Jvm.Cond.methodLink "ValueMachineLaw" (56 : Nat) ({ cls := "ValueMachineModel", name := "into", desc := "(I)I" } : Jvm.MethodName)) ∈ tbl := tb 842 (by decide +kernel) (by decide +kernel)
theorem k_843 : (Jvm.Cond.instanceMethod ({ cls := "ValueMachineModel", name := "into", desc := "(I)I" } : Jvm.MethodName)) ∈ tbl := tb 843 (by decide +kernel) (by decide +kernel)
theorem k_844 : (Jvm.Cond.selects "ValueMachineModel" ({ cls := "ValueMachineModel", name := "into", desc := "(I)I" } : Jvm.MethodName) ({ cls := "ValueMachineModel", name := "into", desc := "(I)I" } : Jvm.MethodName)) ∈ tbl := tb 844 (by decide +kernel) (by decide +kernel)
theorem k_845 : (Jvm.Cond.code ({ cls := "ValueMachineModel", name := "into", desc := "(I)I" } : Jvm.MethodName) prog_10_method_36_code (3 : Nat) (Option.some Jvm.ClassFile.FieldType.int)) ∈ tbl := tb 845 (by decide +kernel) (by decide +kernel)
theorem k_846 : (Jvm.Cond.methodLink "ValueMachineLaw" (60 : Nat) ({ cls := "ValueMachineModel", name := "value", desc := "()I" } : Jvm.MethodName)) ∈ tbl := tb 846 (by decide +kernel) (by decide +kernel)
theorem k_847 : (Jvm.Cond.instanceMethod ({ cls := "ValueMachineModel", name := "value", desc := "()I" } : Jvm.MethodName)) ∈ tbl := tb 847 (by decide +kernel) (by decide +kernel)
theorem k_848 : (Jvm.Cond.selects "ValueMachineModel" ({ cls := "ValueMachineModel", name := "value", desc := "()I" } : Jvm.MethodName) ({ cls := "ValueMachineModel", name := "value", desc := "()I" } : Jvm.MethodName)) ∈ tbl := tb 848 (by decide +kernel) (by decide +kernel)
theorem k_849 : (Jvm.Cond.code ({ cls := "ValueMachineModel", name := "value", desc := "()I" } : Jvm.MethodName) prog_10_method_37_code (1 : Nat) (Option.some Jvm.ClassFile.FieldType.int)) ∈ tbl := tb 849 (by decide +kernel) (by decide +kernel)
theorem k_850 : (Jvm.Cond.methodLink "ValueMachineLaw" (65 : Nat) ({ cls := "ValueMachineModel", name := "isSame", desc := "()Z" } : Jvm.MethodName)) ∈ tbl := tb 850 (by decide +kernel) (by decide +kernel)
theorem k_851 : (Jvm.Cond.instanceMethod ({ cls := "ValueMachineModel", name := "isSame", desc := "()Z" } : Jvm.MethodName)) ∈ tbl := tb 851 (by decide +kernel) (by decide +kernel)
theorem k_852 : (Jvm.Cond.selects "ValueMachineModel" ({ cls := "ValueMachineModel", name := "isSame", desc := "()Z" } : Jvm.MethodName) ({ cls := "ValueMachineModel", name := "isSame", desc := "()Z" } : Jvm.MethodName)) ∈ tbl := tb 852 (by decide +kernel) (by decide +kernel)
theorem k_853 : (Jvm.Cond.code ({ cls := "ValueMachineModel", name := "isSame", desc := "()Z" } : Jvm.MethodName) prog_10_method_38_code (1 : Nat) (Option.some Jvm.ClassFile.FieldType.boolean)) ∈ tbl := tb 853 (by decide +kernel) (by decide +kernel)
theorem k_854 : (Jvm.Cond.methodLink "ValueMachineLaw" (69 : Nat) ({ cls := "ValueMachineModel", name := "count", desc := "(I)I" } : Jvm.MethodName)) ∈ tbl := tb 854 (by decide +kernel) (by decide +kernel)
theorem k_855 : (Jvm.Cond.instanceMethod ({ cls := "ValueMachineModel", name := "count", desc := "(I)I" } : Jvm.MethodName)) ∈ tbl := tb 855 (by decide +kernel) (by decide +kernel)
theorem k_856 : (Jvm.Cond.selects "ValueMachineModel" ({ cls := "ValueMachineModel", name := "count", desc := "(I)I" } : Jvm.MethodName) ({ cls := "ValueMachineModel", name := "count", desc := "(I)I" } : Jvm.MethodName)) ∈ tbl := tb 856 (by decide +kernel) (by decide +kernel)
theorem k_857 : (Jvm.Cond.code ({ cls := "ValueMachineModel", name := "count", desc := "(I)I" } : Jvm.MethodName) prog_10_method_39_code (2 : Nat) (Option.some Jvm.ClassFile.FieldType.int)) ∈ tbl := tb 857 (by decide +kernel) (by decide +kernel)
theorem gwSW {own : String} {index maxL : Nat} {y : MethodName} {bytes : ByteArray} {ret : Option FieldType} {hh : List (Nat × Nat × Nat × Nat)} (h1 : Cond.methodLink own index y ∈ tbl) (h2 : Cond.static y ∈ tbl) (h4 : Cond.initialized y.cls ∈ tbl) (h5 : Cond.codeWith y bytes maxL ret hh ∈ tbl) : GoodIn tbl (va_wsS own index y (Cond.codeWith y bytes maxL ret hh :: tbl)) := fun w hw => by
  have h : w ∈ tbl := by
    simp only [va_wsS, List.mem_append, List.mem_cons, List.not_mem_nil, or_false] at hw
    rcases hw with (rfl | rfl | rfl) | rfl | h <;> assumption
  exact ⟨h, tb_good h⟩
theorem d_law_0 : decode code 0 = .ok (.new 8, 3) := by decide +kernel
theorem d_law_3 : decode code 3 = .ok (.dup, 1) := by decide +kernel
theorem d_law_4 : decode code 4 = .ok (.invokespecial 19, 3) := by decide +kernel
theorem d_law_7 : decode code 7 = .ok (.astore_n 1, 1) := by decide +kernel
theorem d_law_8 : decode code 8 = .ok (.new 20, 3) := by decide +kernel
theorem d_law_11 : decode code 11 = .ok (.dup, 1) := by decide +kernel
theorem d_law_12 : decode code 12 = .ok (.invokespecial 22, 3) := by decide +kernel
theorem d_law_15 : decode code 15 = .ok (.astore_n 2, 1) := by decide +kernel
theorem d_law_16 : decode code 16 = .ok (.iconst 1, 1) := by decide +kernel
theorem d_law_17 : decode code 17 = .ok (.newarray .long, 2) := by decide +kernel
theorem d_law_19 : decode code 19 = .ok (.astore_n 3, 1) := by decide +kernel
theorem d_law_20 : decode code 20 = .ok (.iconst 0, 1) := by decide +kernel
theorem d_law_21 : decode code 21 = .ok (.istore 4, 2) := by decide +kernel
theorem d_law_23 : decode code 23 = .ok (.iload 4, 2) := by decide +kernel
theorem d_law_25 : decode code 25 = .ok (.aload_n 0, 1) := by decide +kernel
theorem d_law_26 : decode code 26 = .ok (.arraylength, 1) := by decide +kernel
theorem d_law_27 : decode code 27 = .ok (.iconst 3, 1) := by decide +kernel
theorem d_law_28 : decode code 28 = .ok (.isub, 1) := by decide +kernel
theorem d_law_29 : decode code 29 = .ok (.if_icmp .gt 341, 3) := by decide +kernel
theorem d_law_32 : decode code 32 = .ok (.aload_n 0, 1) := by decide +kernel
theorem d_law_33 : decode code 33 = .ok (.iload 4, 2) := by decide +kernel
theorem d_law_35 : decode code 35 = .ok (.iaload, 1) := by decide +kernel
theorem d_law_36 : decode code 36 = .ok (.bipush 15, 2) := by decide +kernel
theorem d_law_38 : decode code 38 = .ok (.iand, 1) := by decide +kernel
theorem d_law_39 : decode code 39 = .ok (.tableswitch 325 0 9 #[53, 121, 132, 143, 199, 212, 249, 274, 287, 300], 53) := by decide +kernel
theorem d_law_92 : decode code 92 = .ok (.aload_n 1, 1) := by decide +kernel
theorem d_law_93 : decode code 93 = .ok (.aload_n 0, 1) := by decide +kernel
theorem d_law_94 : decode code 94 = .ok (.iload 4, 2) := by decide +kernel
theorem d_law_96 : decode code 96 = .ok (.iconst 1, 1) := by decide +kernel
theorem d_law_97 : decode code 97 = .ok (.iadd, 1) := by decide +kernel
theorem d_law_98 : decode code 98 = .ok (.iaload, 1) := by decide +kernel
theorem d_law_99 : decode code 99 = .ok (.aload_n 0, 1) := by decide +kernel
theorem d_law_100 : decode code 100 = .ok (.iload 4, 2) := by decide +kernel
theorem d_law_102 : decode code 102 = .ok (.iconst 2, 1) := by decide +kernel
theorem d_law_103 : decode code 103 = .ok (.iadd, 1) := by decide +kernel
theorem d_law_104 : decode code 104 = .ok (.iaload, 1) := by decide +kernel
theorem d_law_105 : decode code 105 = .ok (.aload_n 3, 1) := by decide +kernel
theorem d_law_106 : decode code 106 = .ok (.invokestatic 23, 3) := by decide +kernel
theorem d_law_109 : decode code 109 = .ok (.istore 5, 2) := by decide +kernel
theorem d_law_111 : decode code 111 = .ok (.aload_n 2, 1) := by decide +kernel
theorem d_law_112 : decode code 112 = .ok (.aload_n 0, 1) := by decide +kernel
theorem d_law_113 : decode code 113 = .ok (.iload 4, 2) := by decide +kernel
theorem d_law_115 : decode code 115 = .ok (.iconst 1, 1) := by decide +kernel
theorem d_law_116 : decode code 116 = .ok (.iadd, 1) := by decide +kernel
theorem d_law_117 : decode code 117 = .ok (.iaload, 1) := by decide +kernel
theorem d_law_118 : decode code 118 = .ok (.aload_n 0, 1) := by decide +kernel
theorem d_law_119 : decode code 119 = .ok (.iload 4, 2) := by decide +kernel
theorem d_law_121 : decode code 121 = .ok (.iconst 2, 1) := by decide +kernel
theorem d_law_122 : decode code 122 = .ok (.iadd, 1) := by decide +kernel
theorem d_law_123 : decode code 123 = .ok (.iaload, 1) := by decide +kernel
theorem d_law_124 : decode code 124 = .ok (.invokevirtual 28, 3) := by decide +kernel
theorem d_law_127 : decode code 127 = .ok (.istore 6, 2) := by decide +kernel
theorem d_law_129 : decode code 129 = .ok (.aload_n 2, 1) := by decide +kernel
theorem d_law_130 : decode code 130 = .ok (.invokevirtual 29, 3) := by decide +kernel
theorem d_law_133 : decode code 133 = .ok (.iload 5, 2) := by decide +kernel
theorem d_law_135 : decode code 135 = .ok (.if_icmp .eq 5, 3) := by decide +kernel
theorem d_law_138 : decode code 138 = .ok (.iconst 0, 1) := by decide +kernel
theorem d_law_139 : decode code 139 = .ok (.ireturn, 1) := by decide +kernel
theorem d_law_140 : decode code 140 = .ok (.iload 5, 2) := by decide +kernel
theorem d_law_142 : decode code 142 = .ok (.ifCond .ne 15, 3) := by decide +kernel
theorem d_law_145 : decode code 145 = .ok (.aload_n 3, 1) := by decide +kernel
theorem d_law_146 : decode code 146 = .ok (.iconst 0, 1) := by decide +kernel
theorem d_law_147 : decode code 147 = .ok (.laload, 1) := by decide +kernel
theorem d_law_148 : decode code 148 = .ok (.iload 6, 2) := by decide +kernel
theorem d_law_150 : decode code 150 = .ok (.i2l, 1) := by decide +kernel
theorem d_law_151 : decode code 151 = .ok (.lcmp, 1) := by decide +kernel
theorem d_law_152 : decode code 152 = .ok (.ifCond .eq 5, 3) := by decide +kernel
theorem d_law_155 : decode code 155 = .ok (.iconst 0, 1) := by decide +kernel
theorem d_law_156 : decode code 156 = .ok (.ireturn, 1) := by decide +kernel
theorem d_law_157 : decode code 157 = .ok (.goto 207, 3) := by decide +kernel
theorem d_law_160 : decode code 160 = .ok (.aload_n 1, 1) := by decide +kernel
theorem d_law_161 : decode code 161 = .ok (.invokevirtual 33, 3) := by decide +kernel
theorem d_law_164 : decode code 164 = .ok (.aload_n 2, 1) := by decide +kernel
theorem d_law_165 : decode code 165 = .ok (.invokevirtual 36, 3) := by decide +kernel
theorem d_law_168 : decode code 168 = .ok (.goto 196, 3) := by decide +kernel
theorem d_law_171 : decode code 171 = .ok (.aload_n 1, 1) := by decide +kernel
theorem d_law_172 : decode code 172 = .ok (.invokevirtual 37, 3) := by decide +kernel
theorem d_law_175 : decode code 175 = .ok (.aload_n 2, 1) := by decide +kernel
theorem d_law_176 : decode code 176 = .ok (.invokevirtual 40, 3) := by decide +kernel
theorem d_law_179 : decode code 179 = .ok (.goto 185, 3) := by decide +kernel
theorem d_law_182 : decode code 182 = .ok (.aload_n 1, 1) := by decide +kernel
theorem d_law_183 : decode code 183 = .ok (.aload_n 0, 1) := by decide +kernel
theorem d_law_184 : decode code 184 = .ok (.iload 4, 2) := by decide +kernel
theorem d_law_186 : decode code 186 = .ok (.iconst 1, 1) := by decide +kernel
theorem d_law_187 : decode code 187 = .ok (.iadd, 1) := by decide +kernel
theorem d_law_188 : decode code 188 = .ok (.iaload, 1) := by decide +kernel
theorem d_law_189 : decode code 189 = .ok (.aload_n 3, 1) := by decide +kernel
theorem d_law_190 : decode code 190 = .ok (.invokestatic 41, 3) := by decide +kernel
theorem d_law_193 : decode code 193 = .ok (.istore 5, 2) := by decide +kernel
theorem d_law_195 : decode code 195 = .ok (.aload_n 2, 1) := by decide +kernel
theorem d_law_196 : decode code 196 = .ok (.aload_n 0, 1) := by decide +kernel
theorem d_law_197 : decode code 197 = .ok (.iload 4, 2) := by decide +kernel
theorem d_law_199 : decode code 199 = .ok (.iconst 1, 1) := by decide +kernel
theorem d_law_200 : decode code 200 = .ok (.iadd, 1) := by decide +kernel
theorem d_law_201 : decode code 201 = .ok (.iaload, 1) := by decide +kernel
theorem d_law_202 : decode code 202 = .ok (.invokevirtual 44, 3) := by decide +kernel
theorem d_law_205 : decode code 205 = .ok (.istore 6, 2) := by decide +kernel
theorem d_law_207 : decode code 207 = .ok (.aload_n 2, 1) := by decide +kernel
theorem d_law_208 : decode code 208 = .ok (.invokevirtual 29, 3) := by decide +kernel
theorem d_law_211 : decode code 211 = .ok (.iload 5, 2) := by decide +kernel
theorem d_law_213 : decode code 213 = .ok (.if_icmp .eq 5, 3) := by decide +kernel
theorem d_law_216 : decode code 216 = .ok (.iconst 0, 1) := by decide +kernel
theorem d_law_217 : decode code 217 = .ok (.ireturn, 1) := by decide +kernel
theorem d_law_218 : decode code 218 = .ok (.iload 5, 2) := by decide +kernel
theorem d_law_220 : decode code 220 = .ok (.ifCond .ne 15, 3) := by decide +kernel
theorem d_law_223 : decode code 223 = .ok (.aload_n 3, 1) := by decide +kernel
theorem d_law_224 : decode code 224 = .ok (.iconst 0, 1) := by decide +kernel
theorem d_law_225 : decode code 225 = .ok (.laload, 1) := by decide +kernel
theorem d_law_226 : decode code 226 = .ok (.iload 6, 2) := by decide +kernel
theorem d_law_228 : decode code 228 = .ok (.i2l, 1) := by decide +kernel
theorem d_law_229 : decode code 229 = .ok (.lcmp, 1) := by decide +kernel
theorem d_law_230 : decode code 230 = .ok (.ifCond .eq 5, 3) := by decide +kernel
theorem d_law_233 : decode code 233 = .ok (.iconst 0, 1) := by decide +kernel
theorem d_law_234 : decode code 234 = .ok (.ireturn, 1) := by decide +kernel
theorem d_law_235 : decode code 235 = .ok (.goto 129, 3) := by decide +kernel
theorem d_law_238 : decode code 238 = .ok (.aload_n 1, 1) := by decide +kernel
theorem d_law_239 : decode code 239 = .ok (.invokevirtual 45, 3) := by decide +kernel
theorem d_law_242 : decode code 242 = .ok (.aload_n 2, 1) := by decide +kernel
theorem d_law_243 : decode code 243 = .ok (.invokevirtual 48, 3) := by decide +kernel
theorem d_law_246 : decode code 246 = .ok (.if_icmp .eq 118, 3) := by decide +kernel
theorem d_law_249 : decode code 249 = .ok (.iconst 0, 1) := by decide +kernel
theorem d_law_250 : decode code 250 = .ok (.ireturn, 1) := by decide +kernel
theorem d_law_251 : decode code 251 = .ok (.aload_n 1, 1) := by decide +kernel
theorem d_law_252 : decode code 252 = .ok (.aload_n 0, 1) := by decide +kernel
theorem d_law_253 : decode code 253 = .ok (.iload 4, 2) := by decide +kernel
theorem d_law_255 : decode code 255 = .ok (.iconst 1, 1) := by decide +kernel
theorem d_law_256 : decode code 256 = .ok (.iadd, 1) := by decide +kernel
theorem d_law_257 : decode code 257 = .ok (.iaload, 1) := by decide +kernel
theorem d_law_258 : decode code 258 = .ok (.aload_n 0, 1) := by decide +kernel
theorem d_law_259 : decode code 259 = .ok (.iload 4, 2) := by decide +kernel
theorem d_law_261 : decode code 261 = .ok (.iconst 2, 1) := by decide +kernel
theorem d_law_262 : decode code 262 = .ok (.iadd, 1) := by decide +kernel
theorem d_law_263 : decode code 263 = .ok (.iaload, 1) := by decide +kernel
theorem d_law_264 : decode code 264 = .ok (.invokevirtual 49, 3) := by decide +kernel
theorem d_law_267 : decode code 267 = .ok (.aload_n 2, 1) := by decide +kernel
theorem d_law_268 : decode code 268 = .ok (.aload_n 0, 1) := by decide +kernel
theorem d_law_269 : decode code 269 = .ok (.iload 4, 2) := by decide +kernel
theorem d_law_271 : decode code 271 = .ok (.iconst 1, 1) := by decide +kernel
theorem d_law_272 : decode code 272 = .ok (.iadd, 1) := by decide +kernel
theorem d_law_273 : decode code 273 = .ok (.iaload, 1) := by decide +kernel
theorem d_law_274 : decode code 274 = .ok (.aload_n 0, 1) := by decide +kernel
theorem d_law_275 : decode code 275 = .ok (.iload 4, 2) := by decide +kernel
theorem d_law_277 : decode code 277 = .ok (.iconst 2, 1) := by decide +kernel
theorem d_law_278 : decode code 278 = .ok (.iadd, 1) := by decide +kernel
theorem d_law_279 : decode code 279 = .ok (.iaload, 1) := by decide +kernel
theorem d_law_280 : decode code 280 = .ok (.invokevirtual 52, 3) := by decide +kernel
theorem d_law_283 : decode code 283 = .ok (.if_icmp .eq 81, 3) := by decide +kernel
theorem d_law_286 : decode code 286 = .ok (.iconst 0, 1) := by decide +kernel
theorem d_law_287 : decode code 287 = .ok (.ireturn, 1) := by decide +kernel
theorem d_law_288 : decode code 288 = .ok (.aload_n 1, 1) := by decide +kernel
theorem d_law_289 : decode code 289 = .ok (.aload_n 0, 1) := by decide +kernel
theorem d_law_290 : decode code 290 = .ok (.iload 4, 2) := by decide +kernel
theorem d_law_292 : decode code 292 = .ok (.iconst 1, 1) := by decide +kernel
theorem d_law_293 : decode code 293 = .ok (.iadd, 1) := by decide +kernel
theorem d_law_294 : decode code 294 = .ok (.iaload, 1) := by decide +kernel
theorem d_law_295 : decode code 295 = .ok (.invokevirtual 53, 3) := by decide +kernel
theorem d_law_298 : decode code 298 = .ok (.aload_n 2, 1) := by decide +kernel
theorem d_law_299 : decode code 299 = .ok (.aload_n 0, 1) := by decide +kernel
theorem d_law_300 : decode code 300 = .ok (.iload 4, 2) := by decide +kernel
theorem d_law_302 : decode code 302 = .ok (.iconst 1, 1) := by decide +kernel
theorem d_law_303 : decode code 303 = .ok (.iadd, 1) := by decide +kernel
theorem d_law_304 : decode code 304 = .ok (.iaload, 1) := by decide +kernel
theorem d_law_305 : decode code 305 = .ok (.invokevirtual 56, 3) := by decide +kernel
theorem d_law_308 : decode code 308 = .ok (.if_icmp .eq 56, 3) := by decide +kernel
theorem d_law_311 : decode code 311 = .ok (.iconst 0, 1) := by decide +kernel
theorem d_law_312 : decode code 312 = .ok (.ireturn, 1) := by decide +kernel
theorem d_law_313 : decode code 313 = .ok (.aload_n 1, 1) := by decide +kernel
theorem d_law_314 : decode code 314 = .ok (.invokevirtual 57, 3) := by decide +kernel
theorem d_law_317 : decode code 317 = .ok (.aload_n 2, 1) := by decide +kernel
theorem d_law_318 : decode code 318 = .ok (.invokevirtual 60, 3) := by decide +kernel
theorem d_law_321 : decode code 321 = .ok (.if_icmp .eq 43, 3) := by decide +kernel
theorem d_law_324 : decode code 324 = .ok (.iconst 0, 1) := by decide +kernel
theorem d_law_325 : decode code 325 = .ok (.ireturn, 1) := by decide +kernel
theorem d_law_326 : decode code 326 = .ok (.aload_n 1, 1) := by decide +kernel
theorem d_law_327 : decode code 327 = .ok (.invokevirtual 61, 3) := by decide +kernel
theorem d_law_330 : decode code 330 = .ok (.aload_n 2, 1) := by decide +kernel
theorem d_law_331 : decode code 331 = .ok (.invokevirtual 65, 3) := by decide +kernel
theorem d_law_334 : decode code 334 = .ok (.if_icmp .eq 30, 3) := by decide +kernel
theorem d_law_337 : decode code 337 = .ok (.iconst 0, 1) := by decide +kernel
theorem d_law_338 : decode code 338 = .ok (.ireturn, 1) := by decide +kernel
theorem d_law_339 : decode code 339 = .ok (.aload_n 1, 1) := by decide +kernel
theorem d_law_340 : decode code 340 = .ok (.aload_n 0, 1) := by decide +kernel
theorem d_law_341 : decode code 341 = .ok (.iload 4, 2) := by decide +kernel
theorem d_law_343 : decode code 343 = .ok (.iconst 1, 1) := by decide +kernel
theorem d_law_344 : decode code 344 = .ok (.iadd, 1) := by decide +kernel
theorem d_law_345 : decode code 345 = .ok (.iaload, 1) := by decide +kernel
theorem d_law_346 : decode code 346 = .ok (.invokevirtual 66, 3) := by decide +kernel
theorem d_law_349 : decode code 349 = .ok (.aload_n 2, 1) := by decide +kernel
theorem d_law_350 : decode code 350 = .ok (.aload_n 0, 1) := by decide +kernel
theorem d_law_351 : decode code 351 = .ok (.iload 4, 2) := by decide +kernel
theorem d_law_353 : decode code 353 = .ok (.iconst 1, 1) := by decide +kernel
theorem d_law_354 : decode code 354 = .ok (.iadd, 1) := by decide +kernel
theorem d_law_355 : decode code 355 = .ok (.iaload, 1) := by decide +kernel
theorem d_law_356 : decode code 356 = .ok (.invokevirtual 69, 3) := by decide +kernel
theorem d_law_359 : decode code 359 = .ok (.if_icmp .eq 5, 3) := by decide +kernel
theorem d_law_362 : decode code 362 = .ok (.iconst 0, 1) := by decide +kernel
theorem d_law_363 : decode code 363 = .ok (.ireturn, 1) := by decide +kernel
theorem d_law_364 : decode code 364 = .ok (.iinc 4 3, 3) := by decide +kernel
theorem d_law_367 : decode code 367 = .ok (.goto (-344), 3) := by decide +kernel
theorem d_law_370 : decode code 370 = .ok (.iconst 1, 1) := by decide +kernel
theorem d_law_371 : decode code 371 = .ok (.ireturn, 1) := by decide +kernel
set_option maxHeartbeats 8000000 in
set_option maxRecDepth 100000 in
theorem law_loop {p : Program} {l : Launch} {e : Env} {s : State} {m : MethodId} {below : List Frame} {meth : Method} {c : Code} {b L : Nat} {xs : Nat → Int32} (hl0 : l.stackTraces = false) (C0 : lw_At p s m meth c b L xs) (hTh : ThP (fun q => s.heap.size ≤ q) s) (hL : L ≤ 1536) (D : va_G) (ad : Nat → Nat) (ca : Nat → ClassId) (ad' : Nat → Nat) (ca' : Nat → ClassId) (qo : Nat) (co : ClassId) (hK : va_K D vwCl (tL ca ca' co) s) : ∀ (d k cells slots : Nat) (t : SG × SG × (Nat → Int64)), L ≤ k + 3 * d → k ≤ 2000 → cells + d ≤ 1057 → slots + 6 * d ≤ 11418 → Rel t.1 t.2.1 → Go (wL ad ca ad' ca' qo co) D vwCl (fun q => s.heap.size ≤ q) s.heap 7 p l e room_1 s m #[Value.ref b] below meth c cells slots (lw_Z below #[Value.ref b] s) 23 [(4, .int (nI k)), (3, .ref qo), (2, .ref (ad' 0)), (1, .ref (ad 0)), (0, .ref b)] [] t := by
  obtain ⟨hx, hb, hr, hml, hown, hts0, hX, hbl, hlocks, hgv⟩ := C0
  have hts : ∀ w ∈ tbl, w.before #[Value.ref b] s = true := fun w h => hts0 w (List.mem_filter.mp h).1
  have S : CallFix p m c code 7 s #[Value.ref b] tbl "ValueMachineLaw" := ⟨hx, hb, hml, hown, hts⟩
  have hA : ∀ q : Nat, s.heap.size ≤ q → (fun q => s.heap.size ≤ q) q := fun q h => h
  have hbA : ¬ (fun q => s.heap.size ≤ q) b := fun h => Nat.not_le.mpr hbl h
  have hKX := hK.sub (tys' := Xtys ca) [0, 1, 2, 3, 4, 5, 6, 7, 8, 9, 10] rfl
  have hKR := hK.sub (tys' := Rtys ca') [11, 12, 13, 14, 15, 16, 17, 18, 19, 20, 21, 22, 23] rfl
  have hK2 := hK.sub (tys' := t2 ca co) [0, 1, 2, 3, 4, 5, 6, 7, 8, 9, 10, 24] rfl
  have fin : ∀ (k cells slots : Nat) (t : SG × SG × (Nat → Int64)), cells ≤ 1057 → slots ≤ 11418 → Go (wL ad ca ad' ca' qo co) D vwCl (fun q => s.heap.size ≤ q) s.heap 7 p l e room_1 s m #[Value.ref b] below meth c cells slots (lw_Z below #[Value.ref b] s) 370 [(4, .int (nI k)), (3, .ref qo), (2, .ref (ad' 0)), (1, .ref (ad 0)), (0, .ref b)] [] t := by
    intro k cells slots t h1 h2
    refine Go.iconst (v := 1) hx hb (by decide) d_law_370 ?_
    intro H locs ls hl hP hD hS
    refine va_forget hS.2.2 (W.widen h1 h2 ?_)
    exact lw_ret hx hb hr hlocks d_law_371
  have out : ∀ (k cells slots : Nat) (t : SG × SG × (Nat → Int64)), ¬ k + 3 ≤ L → k ≤ 2000 → cells ≤ 1057 → slots ≤ 11418 → Go (wL ad ca ad' ca' qo co) D vwCl (fun q => s.heap.size ≤ q) s.heap 7 p l e room_1 s m #[Value.ref b] below meth c cells slots (lw_Z below #[Value.ref b] s) 23 [(4, .int (nI k)), (3, .ref qo), (2, .ref (ad' 0)), (1, .ref (ad 0)), (0, .ref b)] [] t := by
    intro k cells slots t h0 hk h1 h2
    refine Go.iload hx hb 0 rfl d_law_23 ?_
    refine Go.aload_n hx hb 4 rfl d_law_25 ?_
    refine Go.slen hx hb hX hbl hbA d_law_26 ?_
    refine Go.iconst (v := 3) hx hb (by decide) d_law_27 ?_
    refine Go.isub hx hb d_law_28 ?_
    refine Go.icmp_gt (tgt := 370) hx hb d_law_29 rfl (fun _ => fin k cells slots t h1 h2) (fun z9 => absurd ?_ z9)
    rw [ti_lt, ti_sub (by rw [ti_nI (by omega), show (3 : Int32).toInt = 3 from rfl]; omega) (by rw [ti_nI (by omega), show (3 : Int32).toInt = 3 from rfl]; omega), ti_nI (by omega), ti_nI (by omega), show (3 : Int32).toInt = 3 from rfl]
    omega
  intro d
  induction d with
  | zero =>
    intro k cells slots t h0 hk h1 h2 hR
    exact out k cells slots t (by omega) hk (by omega) (by omega)
  | succ d ih =>
    intro k cells slots t h0 hk h1 h2 hR
    by_cases h3 : k + 3 ≤ L
    · have hin0 : vp_in (nI k) L := vp_in_nI (by omega) (by omega)
      have hin1 : vp_in (nI k + 1) L := by rw [show nI k + 1 = nI (k + 1) from nI_add k 1]; exact vp_in_nI (by omega) (by omega)
      have hin2 : vp_in (nI k + 2) L := by rw [show nI k + 2 = nI (k + 2) from nI_add k 2]; exact vp_in_nI (by omega) (by omega)
      have nxt : ∀ (cells slots : Nat) (t : SG × SG × (Nat → Int64)), cells + d ≤ 1057 → slots + 6 * d ≤ 11418 → Rel t.1 t.2.1 → Go (wL ad ca ad' ca' qo co) D vwCl (fun q => s.heap.size ≤ q) s.heap 7 p l e room_1 s m #[Value.ref b] below meth c cells slots (lw_Z below #[Value.ref b] s) 364 [(4, .int (nI k)), (3, .ref qo), (2, .ref (ad' 0)), (1, .ref (ad 0)), (0, .ref b)] [] t := by
        intro cells slots t h1 h2 hR
        refine Go.iinc (n := 3) (v := nI (k + 3)) (lv' := [(4, .int (nI (k + 3))), (3, .ref qo), (2, .ref (ad' 0)), (1, .ref (ad 0)), (0, .ref b)]) hx hb 0 rfl (by rw [show Int32.ofInt 3 = nI 3 from by decide]; exact nI_add k 3) (Nat.le_of_ble_eq_true rfl) rfl d_law_364 ?_
        refine Go.goto (tgt := 23) hx hb d_law_367 rfl ?_
        exact ih (k + 3) cells slots t (by omega) (by omega) h1 h2 hR
      have c1 : cells ≤ room_1.cells := by show cells ≤ 1057; omega
      have c2 : slots ≤ room_1.slots := by show slots ≤ 11418; omega
      have c3 : cells + 1 ≤ room_1.cells := by show cells + 1 ≤ 1057; omega
      have c4 : slots + 6 ≤ room_1.slots := by show slots + 6 ≤ 11418; omega
      obtain ⟨x, mm, f⟩ := t
      refine Go.iload hx hb 0 rfl d_law_23 ?_
      refine Go.aload_n hx hb 4 rfl d_law_25 ?_
      refine Go.slen hx hb hX hbl hbA d_law_26 ?_
      refine Go.iconst (v := 3) hx hb (by decide) d_law_27 ?_
      refine Go.isub hx hb d_law_28 ?_
      refine Go.icmp_gt (tgt := 370) hx hb d_law_29 rfl (fun z9 => absurd z9 ?_) (fun _ => ?_)
      · rw [ti_lt, ti_sub (by rw [ti_nI (by omega), show (3 : Int32).toInt = 3 from rfl]; omega) (by rw [ti_nI (by omega), show (3 : Int32).toInt = 3 from rfl]; omega), ti_nI (by omega), ti_nI (by omega), show (3 : Int32).toInt = 3 from rfl]
        omega
      refine Go.aload_n hx hb 4 rfl d_law_32 ?_
      refine Go.iload hx hb 0 rfl d_law_33 ?_
      refine Go.sld hx hb hX hbl hbA hin0 d_law_35 ?_
      refine Go.bipush (v := 15) hx hb (by decide) d_law_36 ?_
      refine Go.iand hx hb d_law_38 ?_
      generalize xs (nI k).toNatClampNeg &&& 15 = sw
      by_cases b0 : sw = 0
      · refine Go.tin (tgt := 92) (off := 53) hx hb 0 b0 d_law_39 (by decide) (by decide) rfl rfl ?_
        obtain ⟨ro, bb, x', m', g1, g2, g3, g4⟩ := code_ok (N := 30000) hR (xs (nI k + 1).toNatClampNeg) (xs (nI k + 2).toNatClampNeg)
        refine Go.aload_n hx hb 3 rfl d_law_92 ?_
        refine Go.aload_n hx hb 4 rfl d_law_93 ?_
        refine Go.iload hx hb 0 rfl d_law_94 ?_
        refine Go.iconst (v := 1) hx hb (by decide) d_law_96 ?_
        refine Go.iadd hx hb d_law_97 ?_
        refine Go.sld hx hb hX hbl hbA hin1 d_law_98 ?_
        refine Go.aload_n hx hb 4 rfl d_law_99 ?_
        refine Go.iload hx hb 0 rfl d_law_100 ?_
        refine Go.iconst (v := 2) hx hb (by decide) d_law_102 ?_
        refine Go.iadd hx hb d_law_103 ?_
        refine Go.sld hx hb hX hbl hbA hin2 d_law_104 ?_
        refine Go.aload_n hx hb 1 rfl d_law_105 ?_
        refine Go.lawS (w' := w2 ad ca qo co) (tys' := t2 ca co) (st' := (x, f)) (u' := (x', oOf f ro)) (u := (x', mm, oOf f ro)) (wr := Rw ad' ca' mm) (r := kOf ro) [0, 1, 2, 3, 4, 5, 6, 7, 8, 9, 10, 11, 12, 13, 14, 15, 30] [16, 17, 18, 19, 20, 21, 22, 23, 24, 25, 26, 27, 28, 29] [14, 15, 16, 17, 18, 19, 20, 21, 22, 23, 24, 25, 26, 27, 28, 29, 0, 1, 2, 3, 4, 5, 6, 7, 8, 9, 10, 11, 12, 13, 30] S hTh hK2 hA (fun sz9 => m_Law_code l hl0 D ad ca qo co 30000 x f sz9 _ _ ro x' g1) (vx_cwSW 4 hts (gwSW k_285 k_286 k_61 k_287) rfl rfl rfl (by decide +kernel) ⟨Nat.le_of_ble_eq_true rfl, Nat.le_of_ble_eq_true rfl⟩) rfl rfl (by decide) rfl (by decide) (by decide) rfl rfl (by decide) rfl rfl (Nat.le_of_ble_eq_true rfl) ⟨c3, c4⟩ d_law_106 ?_
        refine Go.istore (lv' := [(5, .int (kOf ro)), (4, .int (nI k)), (3, .ref qo), (2, .ref (ad' 0)), (1, .ref (ad 0)), (0, .ref b)]) hx hb (Nat.le_of_ble_eq_true rfl) rfl d_law_109 ?_
        refine Go.aload_n hx hb 3 rfl d_law_111 ?_
        refine Go.aload_n hx hb 5 rfl d_law_112 ?_
        refine Go.iload hx hb 1 rfl d_law_113 ?_
        refine Go.iconst (v := 1) hx hb (by decide) d_law_115 ?_
        refine Go.iadd hx hb d_law_116 ?_
        refine Go.sld hx hb hX hbl hbA hin1 d_law_117 ?_
        refine Go.aload_n hx hb 5 rfl d_law_118 ?_
        refine Go.iload hx hb 1 rfl d_law_119 ?_
        refine Go.iconst (v := 2) hx hb (by decide) d_law_121 ?_
        refine Go.iadd hx hb d_law_122 ?_
        refine Go.sld hx hb hX hbl hbA hin2 d_law_123 ?_
        refine Go.subi (w' := Rw ad' ca') (tys' := Rtys ca') (st' := mm) (u' := m') (u := (x', m', (oOf f ro))) (wr := Xw ad ca x' ++ [(qo, .inl (co, 1, .inr (.inl (oOf f ro))))]) [16, 17, 18, 19, 20, 21, 22, 23, 24, 25, 26, 27, 28, 29] [0, 1, 2, 3, 4, 5, 6, 7, 8, 9, 10, 11, 12, 13, 14, 15, 30] [0, 1, 2, 3, 4, 5, 6, 7, 8, 9, 10, 11, 12, 13, 14, 15, 17, 18, 19, 20, 21, 22, 23, 24, 25, 26, 27, 28, 29, 30, 16] S hKR hA 0 (Rw_0 ad' ca' _) rfl (fun sz9 => m_Ref_code l D ad' ca' 30000 _ sz9 _ _ bb m' g2) (cwV 2 hts (gwV k_710 k_711 k_712 k_67 k_713) rfl rfl rfl (by decide +kernel) ⟨Nat.le_of_ble_eq_true rfl, Nat.le_of_ble_eq_true rfl⟩) rfl rfl (by decide) rfl (by decide) (by decide) rfl rfl (by decide) rfl rfl (Nat.le_of_ble_eq_true rfl) ⟨c3, c4⟩ d_law_124 ?_
        refine Go.istore (lv' := [(6, .int bb), (5, .int (kOf ro)), (4, .int (nI k)), (3, .ref qo), (2, .ref (ad' 0)), (1, .ref (ad 0)), (0, .ref b)]) hx hb (Nat.le_of_ble_eq_true rfl) rfl d_law_127 ?_
        refine Go.aload_n hx hb 4 rfl d_law_129 ?_
        refine Go.subi (w' := Rw ad' ca') (tys' := Rtys ca') (st' := m') (u' := m') (u := (x', m', (oOf f ro))) (wr := Xw ad ca x' ++ [(qo, .inl (co, 1, .inr (.inl (oOf f ro))))]) [16, 17, 18, 19, 20, 21, 22, 23, 24, 25, 26, 27, 28, 29] [0, 1, 2, 3, 4, 5, 6, 7, 8, 9, 10, 11, 12, 13, 14, 15, 30] [0, 1, 2, 3, 4, 5, 6, 7, 8, 9, 10, 11, 12, 13, 14, 15, 17, 18, 19, 20, 21, 22, 23, 24, 25, 26, 27, 28, 29, 30, 16] S hKR hA 0 (Rw_0 ad' ca' _) rfl (fun sz9 => m_Ref_thrown l D ad' ca' 30000 _ sz9 (gI m' 0) m' rfl) (cwV 0 hts (gwV k_706 k_707 k_708 k_67 k_709) rfl rfl rfl (by decide +kernel) ⟨Nat.le_of_ble_eq_true rfl, Nat.le_of_ble_eq_true rfl⟩) rfl rfl (by decide) rfl (by decide) (by decide) rfl rfl (by decide) rfl rfl (Nat.le_of_ble_eq_true rfl) ⟨c3, c4⟩ d_law_130 ?_
        refine Go.iload hx hb 1 rfl d_law_133 ?_
        have gk : gI m' 0 = kOf ro := by
          rcases g4 with ⟨rfl, g4⟩ | ⟨rfl, g4⟩ <;> exact g4
        refine Go.icmp_eq (tgt := 140) hx hb d_law_135 rfl (fun _ => ?_) (fun z9 => absurd gk z9)
        refine Go.iload hx hb 1 rfl d_law_140 ?_
        have nx2 : Go (wL ad ca ad' ca' qo co) D vwCl (fun q => s.heap.size ≤ q) s.heap 7 p l e room_1 s m #[Value.ref b] below meth c (cells + 1) (slots + 6) (lw_Z below #[Value.ref b] s) 157 [(6, .int bb), (5, .int (kOf ro)), (4, .int (nI k)), (3, .ref qo), (2, .ref (ad' 0)), (1, .ref (ad 0)), (0, .ref b)] [] (x', m', oOf f ro) := by
          refine Go.goto (tgt := 364) hx hb d_law_157 rfl ?_
          refine Go.sub [2, 3, 4, 5, 6] rfl ?_
          exact nxt (cells + 1) (slots + 6) _ (by omega) (by omega) g3
        refine Go.if_ne (tgt := 157) hx hb d_law_142 rfl (fun _ => nx2) (fun zk => ?_)
        obtain ⟨rfl, g4⟩ : ro = some bb ∧ gI m' 0 = 0 := by
          rcases g4 with ⟨rfl, g4⟩ | g4
          · exact absurd zk (by decide)
          · exact g4
        refine Go.aload_n hx hb 3 rfl d_law_145 ?_
        refine Go.iconst (v := 0) hx hb (by decide) d_law_146 ?_
        refine Go.lald (v := bb.toInt64) hx hb hK 30 24 rfl rfl (by decide) rfl d_law_147 ?_
        refine Go.iload hx hb 0 rfl d_law_148 ?_
        refine Go.i2l hx hb d_law_150 ?_
        refine Go.lcmp_eq (tgt := 157) hx hb d_law_151 d_law_152 rfl (fun _ => nx2) (fun z9 => absurd rfl z9)
      by_cases b3 : sw = 3
      · refine Go.tin (tgt := 182) (off := 143) hx hb 3 b3 d_law_39 (by decide) (by decide) rfl rfl ?_
        obtain ⟨ro, bb, x', m', g1, g2, g3, g4⟩ := run_ok (N := 30000) (by decide) hR (xs (nI k + 1).toNatClampNeg)
        refine Go.aload_n hx hb 3 rfl d_law_182 ?_
        refine Go.aload_n hx hb 4 rfl d_law_183 ?_
        refine Go.iload hx hb 0 rfl d_law_184 ?_
        refine Go.iconst (v := 1) hx hb (by decide) d_law_186 ?_
        refine Go.iadd hx hb d_law_187 ?_
        refine Go.sld hx hb hX hbl hbA hin1 d_law_188 ?_
        refine Go.aload_n hx hb 1 rfl d_law_189 ?_
        refine Go.lawS (w' := w2 ad ca qo co) (tys' := t2 ca co) (st' := (x, f)) (u' := (x', oOf f ro)) (u := (x', mm, oOf f ro)) (wr := Rw ad' ca' mm) (r := kOf ro) [0, 1, 2, 3, 4, 5, 6, 7, 8, 9, 10, 11, 12, 13, 14, 15, 30] [16, 17, 18, 19, 20, 21, 22, 23, 24, 25, 26, 27, 28, 29] [14, 15, 16, 17, 18, 19, 20, 21, 22, 23, 24, 25, 26, 27, 28, 29, 0, 1, 2, 3, 4, 5, 6, 7, 8, 9, 10, 11, 12, 13, 30] S hTh hK2 hA (fun sz9 => m_Law_run l hl0 D ad ca qo co 30000 x f sz9 _ ro x' g1) (vx_cwSW 3 hts (gwSW k_363 k_364 k_61 k_365) rfl rfl rfl (by decide +kernel) ⟨Nat.le_of_ble_eq_true rfl, Nat.le_of_ble_eq_true rfl⟩) rfl rfl (by decide) rfl (by decide) (by decide) rfl rfl (by decide) rfl rfl (Nat.le_of_ble_eq_true rfl) ⟨c3, c4⟩ d_law_190 ?_
        refine Go.istore (lv' := [(5, .int (kOf ro)), (4, .int (nI k)), (3, .ref qo), (2, .ref (ad' 0)), (1, .ref (ad 0)), (0, .ref b)]) hx hb (Nat.le_of_ble_eq_true rfl) rfl d_law_193 ?_
        refine Go.aload_n hx hb 3 rfl d_law_195 ?_
        refine Go.aload_n hx hb 5 rfl d_law_196 ?_
        refine Go.iload hx hb 1 rfl d_law_197 ?_
        refine Go.iconst (v := 1) hx hb (by decide) d_law_199 ?_
        refine Go.iadd hx hb d_law_200 ?_
        refine Go.sld hx hb hX hbl hbA hin1 d_law_201 ?_
        refine Go.subi (w' := Rw ad' ca') (tys' := Rtys ca') (st' := mm) (u' := m') (u := (x', m', (oOf f ro))) (wr := Xw ad ca x' ++ [(qo, .inl (co, 1, .inr (.inl (oOf f ro))))]) [16, 17, 18, 19, 20, 21, 22, 23, 24, 25, 26, 27, 28, 29] [0, 1, 2, 3, 4, 5, 6, 7, 8, 9, 10, 11, 12, 13, 14, 15, 30] [0, 1, 2, 3, 4, 5, 6, 7, 8, 9, 10, 11, 12, 13, 14, 15, 17, 18, 19, 20, 21, 22, 23, 24, 25, 26, 27, 28, 29, 30, 16] S hKR hA 0 (Rw_0 ad' ca' _) rfl (fun sz9 => m_Ref_run l D ad' ca' 30000 _ sz9 _ bb m' g2) (cwV 1 hts (gwV k_723 k_724 k_725 k_67 k_726) rfl rfl rfl (by decide +kernel) ⟨Nat.le_of_ble_eq_true rfl, Nat.le_of_ble_eq_true rfl⟩) rfl rfl (by decide) rfl (by decide) (by decide) rfl rfl (by decide) rfl rfl (Nat.le_of_ble_eq_true rfl) ⟨c3, c4⟩ d_law_202 ?_
        refine Go.istore (lv' := [(6, .int bb), (5, .int (kOf ro)), (4, .int (nI k)), (3, .ref qo), (2, .ref (ad' 0)), (1, .ref (ad 0)), (0, .ref b)]) hx hb (Nat.le_of_ble_eq_true rfl) rfl d_law_205 ?_
        refine Go.aload_n hx hb 4 rfl d_law_207 ?_
        refine Go.subi (w' := Rw ad' ca') (tys' := Rtys ca') (st' := m') (u' := m') (u := (x', m', (oOf f ro))) (wr := Xw ad ca x' ++ [(qo, .inl (co, 1, .inr (.inl (oOf f ro))))]) [16, 17, 18, 19, 20, 21, 22, 23, 24, 25, 26, 27, 28, 29] [0, 1, 2, 3, 4, 5, 6, 7, 8, 9, 10, 11, 12, 13, 14, 15, 30] [0, 1, 2, 3, 4, 5, 6, 7, 8, 9, 10, 11, 12, 13, 14, 15, 17, 18, 19, 20, 21, 22, 23, 24, 25, 26, 27, 28, 29, 30, 16] S hKR hA 0 (Rw_0 ad' ca' _) rfl (fun sz9 => m_Ref_thrown l D ad' ca' 30000 _ sz9 (gI m' 0) m' rfl) (cwV 0 hts (gwV k_706 k_707 k_708 k_67 k_709) rfl rfl rfl (by decide +kernel) ⟨Nat.le_of_ble_eq_true rfl, Nat.le_of_ble_eq_true rfl⟩) rfl rfl (by decide) rfl (by decide) (by decide) rfl rfl (by decide) rfl rfl (Nat.le_of_ble_eq_true rfl) ⟨c3, c4⟩ d_law_208 ?_
        refine Go.iload hx hb 1 rfl d_law_211 ?_
        have gk : gI m' 0 = kOf ro := by
          rcases g4 with ⟨rfl, g4⟩ | ⟨rfl, g4⟩ <;> exact g4
        refine Go.icmp_eq (tgt := 218) hx hb d_law_213 rfl (fun _ => ?_) (fun z9 => absurd gk z9)
        refine Go.iload hx hb 1 rfl d_law_218 ?_
        have nx2 : Go (wL ad ca ad' ca' qo co) D vwCl (fun q => s.heap.size ≤ q) s.heap 7 p l e room_1 s m #[Value.ref b] below meth c (cells + 1) (slots + 6) (lw_Z below #[Value.ref b] s) 235 [(6, .int bb), (5, .int (kOf ro)), (4, .int (nI k)), (3, .ref qo), (2, .ref (ad' 0)), (1, .ref (ad 0)), (0, .ref b)] [] (x', m', oOf f ro) := by
          refine Go.goto (tgt := 364) hx hb d_law_235 rfl ?_
          refine Go.sub [2, 3, 4, 5, 6] rfl ?_
          exact nxt (cells + 1) (slots + 6) _ (by omega) (by omega) g3
        refine Go.if_ne (tgt := 235) hx hb d_law_220 rfl (fun _ => nx2) (fun zk => ?_)
        obtain ⟨rfl, g4⟩ : ro = some bb ∧ gI m' 0 = 0 := by
          rcases g4 with ⟨rfl, g4⟩ | g4
          · exact absurd zk (by decide)
          · exact g4
        refine Go.aload_n hx hb 3 rfl d_law_223 ?_
        refine Go.iconst (v := 0) hx hb (by decide) d_law_224 ?_
        refine Go.lald (v := bb.toInt64) hx hb hK 30 24 rfl rfl (by decide) rfl d_law_225 ?_
        refine Go.iload hx hb 0 rfl d_law_226 ?_
        refine Go.i2l hx hb d_law_228 ?_
        refine Go.lcmp_eq (tgt := 235) hx hb d_law_229 d_law_230 rfl (fun _ => nx2) (fun z9 => absurd rfl z9)
      by_cases b1 : sw = 1
      · refine Go.tin (tgt := 160) (off := 121) hx hb 1 b1 d_law_39 (by decide) (by decide) rfl rfl ?_
        obtain ⟨x', m', h1, h2, h3⟩ := clear_ok (N := 30000) (x := x) (m := mm) (by decide)
        refine Go.aload_n hx hb 3 rfl d_law_160 ?_
        refine Go.subv (w' := Xw ad ca) (tys' := Xtys ca) (st' := x) (u' := x') (u := (x', mm, f)) (wr := Rw ad' ca' mm ++ [(qo, .inl (co, 1, .inr (.inl f)))]) [0, 1, 2, 3, 4, 5, 6, 7, 8, 9, 10, 11, 12, 13, 14, 15] [16, 17, 18, 19, 20, 21, 22, 23, 24, 25, 26, 27, 28, 29, 30] [15, 16, 17, 18, 19, 20, 21, 22, 23, 24, 25, 26, 27, 28, 29, 30, 0, 1, 2, 3, 4, 5, 6, 7, 8, 9, 10, 11, 12, 13, 14] S hKX hA 0 (Xw_0 ad ca _) rfl (fun sz9 => m_VM_clear l D ad ca 30000 _ sz9 _ x' h1) (cwV 0 hts (gwV k_207 k_208 k_209 k_62 k_210) rfl rfl rfl (by decide +kernel) ⟨Nat.le_of_ble_eq_true rfl, Nat.le_of_ble_eq_true rfl⟩) rfl rfl (by decide) rfl (by decide) (by decide) rfl rfl (by decide) rfl rfl (Nat.le_of_ble_eq_true rfl) ⟨c1, c2⟩ d_law_161 ?_
        refine Go.aload_n hx hb 2 rfl d_law_164 ?_
        refine Go.subv (w' := Rw ad' ca') (tys' := Rtys ca') (st' := mm) (u' := m') (u := (x', m', f)) (wr := Xw ad ca x' ++ [(qo, .inl (co, 1, .inr (.inl f)))]) [16, 17, 18, 19, 20, 21, 22, 23, 24, 25, 26, 27, 28, 29] [0, 1, 2, 3, 4, 5, 6, 7, 8, 9, 10, 11, 12, 13, 14, 15, 30] [0, 1, 2, 3, 4, 5, 6, 7, 8, 9, 10, 11, 12, 13, 14, 15, 17, 18, 19, 20, 21, 22, 23, 24, 25, 26, 27, 28, 29, 30, 16] S hKR hA 0 (Rw_0 ad' ca' _) rfl (fun sz9 => m_Ref_clear l D ad' ca' 30000 _ sz9 _ m' h2) (cwV 0 hts (gwV k_714 k_715 k_716 k_67 k_717) rfl rfl rfl (by decide +kernel) ⟨Nat.le_of_ble_eq_true rfl, Nat.le_of_ble_eq_true rfl⟩) rfl rfl (by decide) rfl (by decide) (by decide) rfl rfl (by decide) rfl rfl (Nat.le_of_ble_eq_true rfl) ⟨c1, c2⟩ d_law_165 ?_
        refine Go.goto (tgt := 364) hx hb d_law_168 rfl ?_
        exact nxt cells slots _ (by omega) (by omega) h3
      by_cases b2 : sw = 2
      · refine Go.tin (tgt := 171) (off := 132) hx hb 2 b2 d_law_39 (by decide) (by decide) rfl rfl ?_
        obtain ⟨x', m', h1, h2, h3⟩ := reset_ok (N := 30000) (x := x) (m := mm) (by decide) hR
        refine Go.aload_n hx hb 3 rfl d_law_171 ?_
        refine Go.subv (w' := Xw ad ca) (tys' := Xtys ca) (st' := x) (u' := x') (u := (x', mm, f)) (wr := Rw ad' ca' mm ++ [(qo, .inl (co, 1, .inr (.inl f)))]) [0, 1, 2, 3, 4, 5, 6, 7, 8, 9, 10, 11, 12, 13, 14, 15] [16, 17, 18, 19, 20, 21, 22, 23, 24, 25, 26, 27, 28, 29, 30] [15, 16, 17, 18, 19, 20, 21, 22, 23, 24, 25, 26, 27, 28, 29, 30, 0, 1, 2, 3, 4, 5, 6, 7, 8, 9, 10, 11, 12, 13, 14] S hKX hA 0 (Xw_0 ad ca _) rfl (fun sz9 => m_VM_reset l D ad ca 30000 _ sz9 _ x' h1) (cwV 0 hts (gwV k_219 k_220 k_221 k_62 k_222) rfl rfl rfl (by decide +kernel) ⟨Nat.le_of_ble_eq_true rfl, Nat.le_of_ble_eq_true rfl⟩) rfl rfl (by decide) rfl (by decide) (by decide) rfl rfl (by decide) rfl rfl (Nat.le_of_ble_eq_true rfl) ⟨c1, c2⟩ d_law_172 ?_
        refine Go.aload_n hx hb 2 rfl d_law_175 ?_
        refine Go.subv (w' := Rw ad' ca') (tys' := Rtys ca') (st' := mm) (u' := m') (u := (x', m', f)) (wr := Xw ad ca x' ++ [(qo, .inl (co, 1, .inr (.inl f)))]) [16, 17, 18, 19, 20, 21, 22, 23, 24, 25, 26, 27, 28, 29] [0, 1, 2, 3, 4, 5, 6, 7, 8, 9, 10, 11, 12, 13, 14, 15, 30] [0, 1, 2, 3, 4, 5, 6, 7, 8, 9, 10, 11, 12, 13, 14, 15, 17, 18, 19, 20, 21, 22, 23, 24, 25, 26, 27, 28, 29, 30, 16] S hKR hA 0 (Rw_0 ad' ca' _) rfl (fun sz9 => m_Ref_reset l D ad' ca' 30000 _ sz9 _ m' h2) (cwV 0 hts (gwV k_722 k_719 k_720 k_67 k_721) rfl rfl rfl (by decide +kernel) ⟨Nat.le_of_ble_eq_true rfl, Nat.le_of_ble_eq_true rfl⟩) rfl rfl (by decide) rfl (by decide) (by decide) rfl rfl (by decide) rfl rfl (Nat.le_of_ble_eq_true rfl) ⟨c1, c2⟩ d_law_176 ?_
        refine Go.goto (tgt := 364) hx hb d_law_179 rfl ?_
        exact nxt cells slots _ (by omega) (by omega) h3
      by_cases b4 : sw = 4
      · refine Go.tin (tgt := 238) (off := 199) hx hb 4 b4 d_law_39 (by decide) (by decide) rfl rfl ?_
        obtain ⟨r, x', m', h1, h2, h3⟩ := Both_ex (state_ok (N := 30000) hR)
        refine Go.aload_n hx hb 3 rfl d_law_238 ?_
        refine Go.subi (w' := Xw ad ca) (tys' := Xtys ca) (st' := x) (u' := x') (u := (x', mm, f)) (wr := Rw ad' ca' mm ++ [(qo, .inl (co, 1, .inr (.inl f)))]) [0, 1, 2, 3, 4, 5, 6, 7, 8, 9, 10, 11, 12, 13, 14, 15] [16, 17, 18, 19, 20, 21, 22, 23, 24, 25, 26, 27, 28, 29, 30] [15, 16, 17, 18, 19, 20, 21, 22, 23, 24, 25, 26, 27, 28, 29, 30, 0, 1, 2, 3, 4, 5, 6, 7, 8, 9, 10, 11, 12, 13, 14] S hKX hA 0 (Xw_0 ad ca _) rfl (fun sz9 => m_VM_state l D ad ca 30000 _ sz9 r x' h1) (cwV 0 hts (gwV k_223 k_224 k_225 k_62 k_226) rfl rfl rfl (by decide +kernel) ⟨Nat.le_of_ble_eq_true rfl, Nat.le_of_ble_eq_true rfl⟩) rfl rfl (by decide) rfl (by decide) (by decide) rfl rfl (by decide) rfl rfl (Nat.le_of_ble_eq_true rfl) ⟨c1, c2⟩ d_law_239 ?_
        refine Go.aload_n hx hb 2 rfl d_law_242 ?_
        refine Go.subi (w' := Rw ad' ca') (tys' := Rtys ca') (st' := mm) (u' := m') (u := (x', m', f)) (wr := Xw ad ca x' ++ [(qo, .inl (co, 1, .inr (.inl f)))]) [16, 17, 18, 19, 20, 21, 22, 23, 24, 25, 26, 27, 28, 29] [0, 1, 2, 3, 4, 5, 6, 7, 8, 9, 10, 11, 12, 13, 14, 15, 30] [0, 1, 2, 3, 4, 5, 6, 7, 8, 9, 10, 11, 12, 13, 14, 15, 17, 18, 19, 20, 21, 22, 23, 24, 25, 26, 27, 28, 29, 30, 16] S hKR hA 0 (Rw_0 ad' ca' _) rfl (fun sz9 => m_Ref_state l D ad' ca' 30000 _ sz9 r m' h2) (cwV 0 hts (gwV k_830 k_831 k_832 k_67 k_833) rfl rfl rfl (by decide +kernel) ⟨Nat.le_of_ble_eq_true rfl, Nat.le_of_ble_eq_true rfl⟩) rfl rfl (by decide) rfl (by decide) (by decide) rfl rfl (by decide) rfl rfl (Nat.le_of_ble_eq_true rfl) ⟨c1, c2⟩ d_law_243 ?_
        refine Go.icmp_eq (tgt := 364) hx hb d_law_246 rfl (fun _ => ?_) (fun z9 => absurd rfl z9)
        exact nxt cells slots _ (by omega) (by omega) h3
      by_cases b5 : sw = 5
      · refine Go.tin (tgt := 251) (off := 212) hx hb 5 b5 d_law_39 (by decide) (by decide) rfl rfl ?_
        obtain ⟨r, x', m', h1, h2, h3⟩ := Both_ex (look_ok (N := 30000) hR (xs (nI k + 1).toNatClampNeg) (xs (nI k + 2).toNatClampNeg))
        refine Go.aload_n hx hb 3 rfl d_law_251 ?_
        refine Go.aload_n hx hb 4 rfl d_law_252 ?_
        refine Go.iload hx hb 0 rfl d_law_253 ?_
        refine Go.iconst (v := 1) hx hb (by decide) d_law_255 ?_
        refine Go.iadd hx hb d_law_256 ?_
        refine Go.sld hx hb hX hbl hbA hin1 d_law_257 ?_
        refine Go.aload_n hx hb 4 rfl d_law_258 ?_
        refine Go.iload hx hb 0 rfl d_law_259 ?_
        refine Go.iconst (v := 2) hx hb (by decide) d_law_261 ?_
        refine Go.iadd hx hb d_law_262 ?_
        refine Go.sld hx hb hX hbl hbA hin2 d_law_263 ?_
        refine Go.subi (w' := Xw ad ca) (tys' := Xtys ca) (st' := x) (u' := x') (u := (x', mm, f)) (wr := Rw ad' ca' mm ++ [(qo, .inl (co, 1, .inr (.inl f)))]) [0, 1, 2, 3, 4, 5, 6, 7, 8, 9, 10, 11, 12, 13, 14, 15] [16, 17, 18, 19, 20, 21, 22, 23, 24, 25, 26, 27, 28, 29, 30] [15, 16, 17, 18, 19, 20, 21, 22, 23, 24, 25, 26, 27, 28, 29, 30, 0, 1, 2, 3, 4, 5, 6, 7, 8, 9, 10, 11, 12, 13, 14] S hKX hA 0 (Xw_0 ad ca _) rfl (fun sz9 => m_VM_look l D ad ca 30000 _ sz9 _ _ r x' h1) (cwV 2 hts (gwV k_227 k_228 k_229 k_62 k_230) rfl rfl rfl (by decide +kernel) ⟨Nat.le_of_ble_eq_true rfl, Nat.le_of_ble_eq_true rfl⟩) rfl rfl (by decide) rfl (by decide) (by decide) rfl rfl (by decide) rfl rfl (Nat.le_of_ble_eq_true rfl) ⟨c1, c2⟩ d_law_264 ?_
        refine Go.aload_n hx hb 2 rfl d_law_267 ?_
        refine Go.aload_n hx hb 4 rfl d_law_268 ?_
        refine Go.iload hx hb 0 rfl d_law_269 ?_
        refine Go.iconst (v := 1) hx hb (by decide) d_law_271 ?_
        refine Go.iadd hx hb d_law_272 ?_
        refine Go.sld hx hb hX hbl hbA hin1 d_law_273 ?_
        refine Go.aload_n hx hb 4 rfl d_law_274 ?_
        refine Go.iload hx hb 0 rfl d_law_275 ?_
        refine Go.iconst (v := 2) hx hb (by decide) d_law_277 ?_
        refine Go.iadd hx hb d_law_278 ?_
        refine Go.sld hx hb hX hbl hbA hin2 d_law_279 ?_
        refine Go.subi (w' := Rw ad' ca') (tys' := Rtys ca') (st' := mm) (u' := m') (u := (x', m', f)) (wr := Xw ad ca x' ++ [(qo, .inl (co, 1, .inr (.inl f)))]) [16, 17, 18, 19, 20, 21, 22, 23, 24, 25, 26, 27, 28, 29] [0, 1, 2, 3, 4, 5, 6, 7, 8, 9, 10, 11, 12, 13, 14, 15, 30] [0, 1, 2, 3, 4, 5, 6, 7, 8, 9, 10, 11, 12, 13, 14, 15, 17, 18, 19, 20, 21, 22, 23, 24, 25, 26, 27, 28, 29, 30, 16] S hKR hA 0 (Rw_0 ad' ca' _) rfl (fun sz9 => m_Ref_look l D ad' ca' 30000 _ sz9 _ _ r m' h2) (cwV 2 hts (gwV k_834 k_835 k_836 k_67 k_837) rfl rfl rfl (by decide +kernel) ⟨Nat.le_of_ble_eq_true rfl, Nat.le_of_ble_eq_true rfl⟩) rfl rfl (by decide) rfl (by decide) (by decide) rfl rfl (by decide) rfl rfl (Nat.le_of_ble_eq_true rfl) ⟨c1, c2⟩ d_law_280 ?_
        refine Go.icmp_eq (tgt := 364) hx hb d_law_283 rfl (fun _ => ?_) (fun z9 => absurd rfl z9)
        exact nxt cells slots _ (by omega) (by omega) h3
      by_cases b6 : sw = 6
      · refine Go.tin (tgt := 288) (off := 249) hx hb 6 b6 d_law_39 (by decide) (by decide) rfl rfl ?_
        obtain ⟨r, x', m', h1, h2, h3⟩ := Both_ex (into_ok (N := 30000) hR (xs (nI k + 1).toNatClampNeg))
        refine Go.aload_n hx hb 3 rfl d_law_288 ?_
        refine Go.aload_n hx hb 4 rfl d_law_289 ?_
        refine Go.iload hx hb 0 rfl d_law_290 ?_
        refine Go.iconst (v := 1) hx hb (by decide) d_law_292 ?_
        refine Go.iadd hx hb d_law_293 ?_
        refine Go.sld hx hb hX hbl hbA hin1 d_law_294 ?_
        refine Go.subi (w' := Xw ad ca) (tys' := Xtys ca) (st' := x) (u' := x') (u := (x', mm, f)) (wr := Rw ad' ca' mm ++ [(qo, .inl (co, 1, .inr (.inl f)))]) [0, 1, 2, 3, 4, 5, 6, 7, 8, 9, 10, 11, 12, 13, 14, 15] [16, 17, 18, 19, 20, 21, 22, 23, 24, 25, 26, 27, 28, 29, 30] [15, 16, 17, 18, 19, 20, 21, 22, 23, 24, 25, 26, 27, 28, 29, 30, 0, 1, 2, 3, 4, 5, 6, 7, 8, 9, 10, 11, 12, 13, 14] S hKX hA 0 (Xw_0 ad ca _) rfl (fun sz9 => m_VM_into l D ad ca 30000 _ sz9 _ r x' h1) (cwV 1 hts (gwV k_249 k_250 k_251 k_62 k_252) rfl rfl rfl (by decide +kernel) ⟨Nat.le_of_ble_eq_true rfl, Nat.le_of_ble_eq_true rfl⟩) rfl rfl (by decide) rfl (by decide) (by decide) rfl rfl (by decide) rfl rfl (Nat.le_of_ble_eq_true rfl) ⟨c1, c2⟩ d_law_295 ?_
        refine Go.aload_n hx hb 2 rfl d_law_298 ?_
        refine Go.aload_n hx hb 4 rfl d_law_299 ?_
        refine Go.iload hx hb 0 rfl d_law_300 ?_
        refine Go.iconst (v := 1) hx hb (by decide) d_law_302 ?_
        refine Go.iadd hx hb d_law_303 ?_
        refine Go.sld hx hb hX hbl hbA hin1 d_law_304 ?_
        refine Go.subi (w' := Rw ad' ca') (tys' := Rtys ca') (st' := mm) (u' := m') (u := (x', m', f)) (wr := Xw ad ca x' ++ [(qo, .inl (co, 1, .inr (.inl f)))]) [16, 17, 18, 19, 20, 21, 22, 23, 24, 25, 26, 27, 28, 29] [0, 1, 2, 3, 4, 5, 6, 7, 8, 9, 10, 11, 12, 13, 14, 15, 30] [0, 1, 2, 3, 4, 5, 6, 7, 8, 9, 10, 11, 12, 13, 14, 15, 17, 18, 19, 20, 21, 22, 23, 24, 25, 26, 27, 28, 29, 30, 16] S hKR hA 0 (Rw_0 ad' ca' _) rfl (fun sz9 => m_Ref_into l D ad' ca' 30000 _ sz9 _ r m' h2) (cwV 1 hts (gwV k_842 k_843 k_844 k_67 k_845) rfl rfl rfl (by decide +kernel) ⟨Nat.le_of_ble_eq_true rfl, Nat.le_of_ble_eq_true rfl⟩) rfl rfl (by decide) rfl (by decide) (by decide) rfl rfl (by decide) rfl rfl (Nat.le_of_ble_eq_true rfl) ⟨c1, c2⟩ d_law_305 ?_
        refine Go.icmp_eq (tgt := 364) hx hb d_law_308 rfl (fun _ => ?_) (fun z9 => absurd rfl z9)
        exact nxt cells slots _ (by omega) (by omega) h3
      by_cases b7 : sw = 7
      · refine Go.tin (tgt := 313) (off := 274) hx hb 7 b7 d_law_39 (by decide) (by decide) rfl rfl ?_
        obtain ⟨r, x', m', h1, h2, h3⟩ := Both_ex (value_ok (N := 30000) hR)
        refine Go.aload_n hx hb 3 rfl d_law_313 ?_
        refine Go.subi (w' := Xw ad ca) (tys' := Xtys ca) (st' := x) (u' := x') (u := (x', mm, f)) (wr := Rw ad' ca' mm ++ [(qo, .inl (co, 1, .inr (.inl f)))]) [0, 1, 2, 3, 4, 5, 6, 7, 8, 9, 10, 11, 12, 13, 14, 15] [16, 17, 18, 19, 20, 21, 22, 23, 24, 25, 26, 27, 28, 29, 30] [15, 16, 17, 18, 19, 20, 21, 22, 23, 24, 25, 26, 27, 28, 29, 30, 0, 1, 2, 3, 4, 5, 6, 7, 8, 9, 10, 11, 12, 13, 14] S hKX hA 0 (Xw_0 ad ca _) rfl (fun sz9 => m_VM_value l D ad ca 30000 _ sz9 r x' h1) (cwV 0 hts (gwV k_271 k_272 k_273 k_62 k_274) rfl rfl rfl (by decide +kernel) ⟨Nat.le_of_ble_eq_true rfl, Nat.le_of_ble_eq_true rfl⟩) rfl rfl (by decide) rfl (by decide) (by decide) rfl rfl (by decide) rfl rfl (Nat.le_of_ble_eq_true rfl) ⟨c1, c2⟩ d_law_314 ?_
        refine Go.aload_n hx hb 2 rfl d_law_317 ?_
        refine Go.subi (w' := Rw ad' ca') (tys' := Rtys ca') (st' := mm) (u' := m') (u := (x', m', f)) (wr := Xw ad ca x' ++ [(qo, .inl (co, 1, .inr (.inl f)))]) [16, 17, 18, 19, 20, 21, 22, 23, 24, 25, 26, 27, 28, 29] [0, 1, 2, 3, 4, 5, 6, 7, 8, 9, 10, 11, 12, 13, 14, 15, 30] [0, 1, 2, 3, 4, 5, 6, 7, 8, 9, 10, 11, 12, 13, 14, 15, 17, 18, 19, 20, 21, 22, 23, 24, 25, 26, 27, 28, 29, 30, 16] S hKR hA 0 (Rw_0 ad' ca' _) rfl (fun sz9 => m_Ref_value l D ad' ca' 30000 _ sz9 r m' h2) (cwV 0 hts (gwV k_846 k_847 k_848 k_67 k_849) rfl rfl rfl (by decide +kernel) ⟨Nat.le_of_ble_eq_true rfl, Nat.le_of_ble_eq_true rfl⟩) rfl rfl (by decide) rfl (by decide) (by decide) rfl rfl (by decide) rfl rfl (Nat.le_of_ble_eq_true rfl) ⟨c1, c2⟩ d_law_318 ?_
        refine Go.icmp_eq (tgt := 364) hx hb d_law_321 rfl (fun _ => ?_) (fun z9 => absurd rfl z9)
        exact nxt cells slots _ (by omega) (by omega) h3
      by_cases b8 : sw = 8
      · refine Go.tin (tgt := 326) (off := 287) hx hb 8 b8 d_law_39 (by decide) (by decide) rfl rfl ?_
        obtain ⟨r, x', m', h1, h2, h3⟩ := Both_ex (isSame_ok (N := 30000) hR)
        refine Go.aload_n hx hb 3 rfl d_law_326 ?_
        refine Go.subi (w' := Xw ad ca) (tys' := Xtys ca) (st' := x) (u' := x') (u := (x', mm, f)) (wr := Rw ad' ca' mm ++ [(qo, .inl (co, 1, .inr (.inl f)))]) [0, 1, 2, 3, 4, 5, 6, 7, 8, 9, 10, 11, 12, 13, 14, 15] [16, 17, 18, 19, 20, 21, 22, 23, 24, 25, 26, 27, 28, 29, 30] [15, 16, 17, 18, 19, 20, 21, 22, 23, 24, 25, 26, 27, 28, 29, 30, 0, 1, 2, 3, 4, 5, 6, 7, 8, 9, 10, 11, 12, 13, 14] S hKX hA 0 (Xw_0 ad ca _) rfl (fun sz9 => m_VM_isSame l D ad ca 30000 _ sz9 r x' h1) (cwV 0 hts (gwV k_277 k_278 k_279 k_62 k_280) rfl rfl rfl (by decide +kernel) ⟨Nat.le_of_ble_eq_true rfl, Nat.le_of_ble_eq_true rfl⟩) rfl rfl (by decide) rfl (by decide) (by decide) rfl rfl (by decide) rfl rfl (Nat.le_of_ble_eq_true rfl) ⟨c1, c2⟩ d_law_327 ?_
        refine Go.aload_n hx hb 2 rfl d_law_330 ?_
        refine Go.subi (w' := Rw ad' ca') (tys' := Rtys ca') (st' := mm) (u' := m') (u := (x', m', f)) (wr := Xw ad ca x' ++ [(qo, .inl (co, 1, .inr (.inl f)))]) [16, 17, 18, 19, 20, 21, 22, 23, 24, 25, 26, 27, 28, 29] [0, 1, 2, 3, 4, 5, 6, 7, 8, 9, 10, 11, 12, 13, 14, 15, 30] [0, 1, 2, 3, 4, 5, 6, 7, 8, 9, 10, 11, 12, 13, 14, 15, 17, 18, 19, 20, 21, 22, 23, 24, 25, 26, 27, 28, 29, 30, 16] S hKR hA 0 (Rw_0 ad' ca' _) rfl (fun sz9 => m_Ref_isSame l D ad' ca' 30000 _ sz9 r m' h2) (cwV 0 hts (gwV k_850 k_851 k_852 k_67 k_853) rfl rfl rfl (by decide +kernel) ⟨Nat.le_of_ble_eq_true rfl, Nat.le_of_ble_eq_true rfl⟩) rfl rfl (by decide) rfl (by decide) (by decide) rfl rfl (by decide) rfl rfl (Nat.le_of_ble_eq_true rfl) ⟨c1, c2⟩ d_law_331 ?_
        refine Go.icmp_eq (tgt := 364) hx hb d_law_334 rfl (fun _ => ?_) (fun z9 => absurd rfl z9)
        exact nxt cells slots _ (by omega) (by omega) h3
      by_cases b9 : sw = 9
      · refine Go.tin (tgt := 339) (off := 300) hx hb 9 b9 d_law_39 (by decide) (by decide) rfl rfl ?_
        obtain ⟨r, x', m', h1, h2, h3⟩ := Both_ex (count_ok (N := 30000) (by decide) hR (xs (nI k + 1).toNatClampNeg))
        refine Go.aload_n hx hb 3 rfl d_law_339 ?_
        refine Go.aload_n hx hb 4 rfl d_law_340 ?_
        refine Go.iload hx hb 0 rfl d_law_341 ?_
        refine Go.iconst (v := 1) hx hb (by decide) d_law_343 ?_
        refine Go.iadd hx hb d_law_344 ?_
        refine Go.sld hx hb hX hbl hbA hin1 d_law_345 ?_
        refine Go.subi (w' := Xw ad ca) (tys' := Xtys ca) (st' := x) (u' := x') (u := (x', mm, f)) (wr := Rw ad' ca' mm ++ [(qo, .inl (co, 1, .inr (.inl f)))]) [0, 1, 2, 3, 4, 5, 6, 7, 8, 9, 10, 11, 12, 13, 14, 15] [16, 17, 18, 19, 20, 21, 22, 23, 24, 25, 26, 27, 28, 29, 30] [15, 16, 17, 18, 19, 20, 21, 22, 23, 24, 25, 26, 27, 28, 29, 30, 0, 1, 2, 3, 4, 5, 6, 7, 8, 9, 10, 11, 12, 13, 14] S hKX hA 0 (Xw_0 ad ca _) rfl (fun sz9 => m_VM_count l D ad ca 30000 _ sz9 _ r x' h1) (cwV 1 hts (gwV k_281 k_282 k_283 k_62 k_284) rfl rfl rfl (by decide +kernel) ⟨Nat.le_of_ble_eq_true rfl, Nat.le_of_ble_eq_true rfl⟩) rfl rfl (by decide) rfl (by decide) (by decide) rfl rfl (by decide) rfl rfl (Nat.le_of_ble_eq_true rfl) ⟨c1, c2⟩ d_law_346 ?_
        refine Go.aload_n hx hb 2 rfl d_law_349 ?_
        refine Go.aload_n hx hb 4 rfl d_law_350 ?_
        refine Go.iload hx hb 0 rfl d_law_351 ?_
        refine Go.iconst (v := 1) hx hb (by decide) d_law_353 ?_
        refine Go.iadd hx hb d_law_354 ?_
        refine Go.sld hx hb hX hbl hbA hin1 d_law_355 ?_
        refine Go.subi (w' := Rw ad' ca') (tys' := Rtys ca') (st' := mm) (u' := m') (u := (x', m', f)) (wr := Xw ad ca x' ++ [(qo, .inl (co, 1, .inr (.inl f)))]) [16, 17, 18, 19, 20, 21, 22, 23, 24, 25, 26, 27, 28, 29] [0, 1, 2, 3, 4, 5, 6, 7, 8, 9, 10, 11, 12, 13, 14, 15, 30] [0, 1, 2, 3, 4, 5, 6, 7, 8, 9, 10, 11, 12, 13, 14, 15, 17, 18, 19, 20, 21, 22, 23, 24, 25, 26, 27, 28, 29, 30, 16] S hKR hA 0 (Rw_0 ad' ca' _) rfl (fun sz9 => m_Ref_count l D ad' ca' 30000 _ sz9 _ r m' h2) (cwV 1 hts (gwV k_854 k_855 k_856 k_67 k_857) rfl rfl rfl (by decide +kernel) ⟨Nat.le_of_ble_eq_true rfl, Nat.le_of_ble_eq_true rfl⟩) rfl rfl (by decide) rfl (by decide) (by decide) rfl rfl (by decide) rfl rfl (Nat.le_of_ble_eq_true rfl) ⟨c1, c2⟩ d_law_356 ?_
        refine Go.icmp_eq (tgt := 364) hx hb d_law_359 rfl (fun _ => ?_) (fun z9 => absurd rfl z9)
        exact nxt cells slots _ (by omega) (by omega) h3
      have n0 := lv_neT (a := 0) b0 (by decide)
      have n1 := lv_neT (a := 1) b1 (by decide)
      have n2 := lv_neT (a := 2) b2 (by decide)
      have n3 := lv_neT (a := 3) b3 (by decide)
      have n4 := lv_neT (a := 4) b4 (by decide)
      have n5 := lv_neT (a := 5) b5 (by decide)
      have n6 := lv_neT (a := 6) b6 (by decide)
      have n7 := lv_neT (a := 7) b7 (by decide)
      have n8 := lv_neT (a := 8) b8 (by decide)
      have n9 := lv_neT (a := 9) b9 (by decide)
      refine Go.tout (tgt := 364) hx hb d_law_39 (by omega) rfl ?_
      exact nxt cells slots _ (by omega) (by omega) hR
    · exact out k cells slots t h3 hk (by omega) (by omega)
