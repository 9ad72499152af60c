theorem k_74 : (Jvm.Cond.classLink "ValueMachineLaw" (8 : Nat) "ValueMachine") ∈ tbl := tb 74 (by decide +kernel) (by decide +kernel)
theorem k_75 : (Jvm.Cond.instantiable "ValueMachine" (12 : Nat)) ∈ tbl := tb 75 (by decide +kernel) (by decide +kernel)
theorem k_76 : (Jvm.Cond.methodLink "ValueMachineLaw" (19 : Nat) ({ cls := "ValueMachine", name := "<init>", desc := "()V" } : Jvm.MethodName)) ∈ tbl := tb 76 (by decide +kernel) (by decide +kernel)
theorem k_77 : (Jvm.Cond.instanceMethod ({ cls := "ValueMachine", name := "<init>", desc := "()V" } : Jvm.MethodName)) ∈ tbl := tb 77 (by decide +kernel) (by decide +kernel)
theorem k_78 : (Jvm.Cond.code ({ cls := "ValueMachine", name := "<init>", desc := "()V" } : Jvm.MethodName) prog_1_method_1_code (1 : Nat) (Option.none : Option Jvm.ClassFile.FieldType)) ∈ tbl := tb 78 (by decide +kernel) (by decide +kernel)
theorem k_609 : (Jvm.Cond.classLink "ValueMachineLaw" (20 : Nat) "ValueMachineModel") ∈ tbl := tb 609 (by decide +kernel) (by decide +kernel)
theorem k_610 : (Jvm.Cond.instantiable "ValueMachineModel" (30 : Nat)) ∈ tbl := tb 610 (by decide +kernel) (by decide +kernel)
theorem k_611 : (Jvm.Cond.methodLink "ValueMachineLaw" (22 : Nat) ({ cls := "ValueMachineModel", name := "<init>", desc := "()V" } : Jvm.MethodName)) ∈ tbl := tb 611 (by decide +kernel) (by decide +kernel)
theorem k_612 : (Jvm.Cond.instanceMethod ({ cls := "ValueMachineModel", name := "<init>", desc := "()V" } : Jvm.MethodName)) ∈ tbl := tb 612 (by decide +kernel) (by decide +kernel)
theorem k_613 : (Jvm.Cond.code ({ cls := "ValueMachineModel", name := "<init>", desc := "()V" } : Jvm.MethodName) prog_10_method_1_code (1 : Nat) (Option.none : Option Jvm.ClassFile.FieldType)) ∈ tbl := tb 613 (by decide +kernel) (by decide +kernel)
def st0 : SG := (fun _ => 0, fun _ => 0, fun _ _ => 0, fun _ _ => 0)
def adOf (q : Nat) (f : Nat → Nat) : Nat → Nat
  | 0 => q
  | i + 1 => f i
theorem Rel_st0 : Rel st0 st0 := fresh_ok (sz := 0) (ci := fun _ => 0) (cx := fun _ => 0) (ci' := fun _ => 0) (cx' := fun _ => 0) (xz := 0) (by decide) ⟨rfl, by decide, by decide, fun k hk => by rw [show (0 : Int32).toInt = 0 from rfl] at hk; omega⟩ rfl rfl rfl rfl rfl rfl rfl rfl rfl rfl rfl (fun _ _ => rfl) (fun _ _ => ⟨rfl, rfl⟩) rfl rfl (fun _ _ => rfl) (fun _ _ => rfl) rfl rfl rfl rfl rfl rfl rfl rfl rfl rfl rfl rfl
theorem noTr {l : Launch} (h : l.flags = flags0) : l.stackTraces = false := by
  unfold Launch.stackTraces
  rw [h]
  decide +kernel
set_option maxRecDepth 100000 in
theorem ThP_start {s : State} {b : Nat} (hts0 : ∀ w ∈ lw_tbl, w.before #[Value.ref b] s = true) (hgv : (Jvm.Cond.and given_1 narrow_1).before #[Value.ref b] s = true) : ThP (fun q => s.heap.size ≤ q) s := by
  have hs := flat_of_before _ hgv
  have hA : ∀ a : Nat, a < s.heap.size → ¬ (fun q => s.heap.size ≤ q) a := fun a h h' => Nat.not_le.mpr h h'
  have u1 : (Cond.isRef (.static Bundle.tN "UNASSIGNED_STACK" Bundle.steD)).before #[Value.ref b] s = true := hs _ (by decide +kernel)
  have u2 : (Cond.isRef (.static Bundle.tN "SUPPRESSED_SENTINEL" Bundle.listD)).before #[Value.ref b] s = true := hs _ (by decide +kernel)
  have u3 : (Cond.exactly (.string "ValueMachine" 71) "java/lang/String").before #[Value.ref b] s = true := hs _ (by decide +kernel)
  have u4 : (Cond.exactly (.string "ValueMachine" 86) "java/lang/String").before #[Value.ref b] s = true := hs _ (by decide +kernel)
  obtain ⟨a3, _, _, _, v3, _⟩ := Cond.exactly_spec u3
  obtain ⟨a4, _, _, _, v4, _⟩ := Cond.exactly_spec u4
  refine ⟨vx_Zqof (hts0 (.laysStatic Bundle.tN "UNASSIGNED_STACK" Bundle.steD) (by decide +kernel)) (hts0 (.initialized Bundle.tN) (by decide +kernel)) u1 hA, vx_Zqof (hts0 (.laysStatic Bundle.tN "SUPPRESSED_SENTINEL" Bundle.listD) (by decide +kernel)) (hts0 (.initialized Bundle.tN) (by decide +kernel)) u2 hA, va_Nw.of rfl (hts0 (.castable "java/lang/IllegalArgumentException" "java/lang/IllegalArgumentException") (by decide +kernel)), va_Nw.of rfl (hts0 (.declares ⟨"java/lang/RuntimeException", "<init>", "(Ljava/lang/String;)V"⟩) (by decide +kernel)), va_Nw.of rfl (hts0 (.declares ⟨"java/lang/Exception", "<init>", "(Ljava/lang/String;)V"⟩) (by decide +kernel)), va_Nw.of rfl (hts0 (.declares ⟨"java/lang/Throwable", "<init>", "(Ljava/lang/String;)V"⟩) (by decide +kernel)), ⟨a3, vk_R.of (hts0 (.stringRef "ValueMachine" 71 "there is no such instruction") (by decide +kernel)) v3⟩, ⟨a4, vk_R.of (hts0 (.stringRef "ValueMachine" 86 "0 to 20000 instructions can be done") (by decide +kernel)) v4⟩⟩
set_option maxHeartbeats 8000000 in
set_option maxRecDepth 100000 in
theorem whole_start {p : Program} {e : Env} {s : State} {m : MethodId} {below : List Frame} {meth : Method} {c : Code} (l : Launch) (hl0 : l.stackTraces = false) {b L : Nat} {xs : Nat → Int32} (hL : L ≤ 1536) (C0 : lw_At p s m meth c b L xs) : W p l e room_1 s m #[Value.ref b] below meth c s.heap [] 0 0 (lw_Z below #[Value.ref b] s) (entryFrame m ([Value.ref b] : List Value).toArray 7) := by
  obtain ⟨hx, hb, hr, hml, hown, hts0, hX, hbl, hlocks, hgv⟩ := id C0
  have hTh := ThP_start hts0 hgv
  have hts : ∀ w ∈ tbl, w.before #[Value.ref b] s = true := fun w h => hts0 w (List.mem_filter.mp h).1
  have S : CallFix p m c code 7 s #[Value.ref b] tbl "ValueMachineLaw" := ⟨hx, hb, hml, hown, hts⟩
  obtain ⟨c0, i0, k0⟩ := u_known hts in_VM (hts _ k_75)
  obtain ⟨c1, i1, k1⟩ := u_known hts in_Code (hts _ k_83)
  obtain ⟨c2, i2, k2⟩ := u_known hts in_ValueStack (hts _ k_101)
  obtain ⟨c3, i3, k3⟩ := u_known hts in_Notes (hts _ k_116)
  obtain ⟨c4, i4, k4⟩ := u_known hts in_Store (hts _ k_133)
  obtain ⟨c5, i5, k5⟩ := u_known hts in_Ref (hts _ k_610)
  obtain ⟨D, hD0, hD1⟩ : ∃ D : va_G, (∀ j, D.1 j = (match j with | 0 => c0 | 1 => c1 | 2 => c2 | 3 => c3 | 4 => c4 | _ => c5)) ∧ (∀ j, D.2 j = (match j with | 0 => i0 | 1 => i1 | 2 => i2 | 3 => i3 | 4 => i4 | _ => i5)) := ⟨(fun j => match j with | 0 => c0 | 1 => c1 | 2 => c2 | 3 => c3 | 4 => c4 | _ => c5, fun j => match j with | 0 => i0 | 1 => i1 | 2 => i2 | 3 => i3 | 4 => i4 | _ => i5), fun _ => rfl, fun _ => rfl⟩
  have hK : va_K D vwCl [] s := by
    refine ⟨fun j q hq => ?_, fun k q hk => by cases hk⟩
    rw [hD0, hD1]
    rcases j with _ | j
    · cases hq; exact k0
    rcases j with _ | j
    · cases hq; exact k1
    rcases j with _ | j
    · cases hq; exact k2
    rcases j with _ | j
    · cases hq; exact k3
    rcases j with _ | j
    · cases hq; exact k4
    rcases j with _ | j
    · cases hq; exact k5
    cases hq
  have hP : va_P D vwCl [] s.heap := fun k q h => by cases h
  have hD : va_D (fun q => s.heap.size ≤ q) [] := ⟨fun i j p q h => (by cases h), fun k q h => (by cases h)⟩
  have hS : va_S (fun q => s.heap.size ≤ q) s.heap s.heap [] := va_S.rf
  have hA : ∀ q : Nat, s.heap.size ≤ q → (fun q => s.heap.size ≤ q) q := fun q h => h
  have hl := lv_entry ([.ref b]) (n := 7) (Nat.le_of_ble_eq_true rfl)
  rw [lg_entry_eq]
  generalize (lg_sl ([.ref b]) ++ List.replicate (7 - (lg_sl ([.ref b])).length) Slot.unset).toArray = ls at hl ⊢
  have hl : lv_has ls 7 [(0, .ref b)] := hl
  refine va_new (ci := 0) (fs := [.null, .null, .null, .null, .null, .long 0, .long 0, .long 0, .int 0, .int 0, .int 0, .int 0]) (C := "ValueMachine") (T := T_VM) (N := 12) hx hb hts in_VM ty_VM tyok_VM hown (hts _ k_74) (hts _ k_75) (hts _ k_62) hK hP hD hS hA rfl co_dec_new_VM (Nat.le_of_ble_eq_true rfl) (Nat.le_of_ble_eq_true rfl) d_law_0 (fun q0 H hP hD hS => ?_)
  have hP : va_P D vwCl ([] ++ [(q0, .inr (0, [.null, .null, .null, .null, .null, .long 0, .long 0, .long 0, .int 0, .int 0, .int 0, .int 0]))]) H := hP
  have hD : va_D (fun q => s.heap.size ≤ q) ([] ++ [(q0, .inr (0, [.null, .null, .null, .null, .null, .long 0, .long 0, .long 0, .int 0, .int 0, .int 0, .int 0]))]) := hD
  refine W.widen (k := 1) (n := 12) (Nat.le_of_ble_eq_true rfl) (Nat.le_of_ble_eq_true rfl) ?_
  refine lv_dup hx hb d_law_3 rfl ?_
  have hPc := hP.sub (ws' := [(q0, .inr (0, [.null, .null, .null, .null, .null, .long 0, .long 0, .long 0, .int 0, .int 0, .int 0, .int 0]))]) [0] rfl
  have hDc := hD.sub (ws' := [(q0, .inr (0, [.null, .null, .null, .null, .null, .long 0, .long 0, .long 0, .int 0, .int 0, .int 0, .int 0]))]) [0] (by decide) rfl
  have hKc := hK.sub (tys' := []) [] rfl
  have hFc := va_free (wc := [(q0, .inr (0, [.null, .null, .null, .null, .null, .long 0, .long 0, .long 0, .int 0, .int 0, .int 0, .int 0]))]) hD hS hA [0] rfl
  refine va_callv (va_runI (As := []) (rest := [.ref q0]) S (m_VM_init l D q0 H.size) (cwI 0 hts (gwC k_78) rfl rfl rfl (hts _ k_62) (hts _ k_76) (hts _ k_77) rfl (by decide +kernel) ⟨Nat.le_of_ble_eq_true rfl, Nat.le_of_ble_eq_true rfl⟩) ⟨fun a U g mk q => by obtain ⟨q0, q1, qP, qK, qD, qn0, qn1, qn2, qn3⟩ := q; exact ⟨q0, q1, qP, va_K.moved (u := U) (U := U.calling g mk a) (Vm.Alike.refl U.vm) qK, qD, va_Nw.same (u := U) rfl rfl qn0, va_Nw.same (u := U) rfl rfl qn1, va_Nw.same (u := U) rfl rfl qn2, va_Nw.same (u := U) rfl rfl qn3⟩, fun U hU hW => ⟨rfl, by rw [hU], by rw [hU]; exact hPc, va_K.moved hW.alike hKc, hDc.weaken (fun _ _ _ _ => trivial), va_Nw.warmM hW (va_Nw.of rfl (hts0 (Jvm.Cond.methodLinkNest "ValueMachine" (9 : Nat) ({ cls := "ValueMachine$Code", name := "<init>", desc := "()V" } : Jvm.MethodName) "ValueMachine") (by decide +kernel))), va_Nw.warmM hW (va_Nw.of rfl (hts0 (Jvm.Cond.methodLinkNest "ValueMachine" (18 : Nat) ({ cls := "ValueMachine$ValueStack", name := "<init>", desc := "()V" } : Jvm.MethodName) "ValueMachine") (by decide +kernel))), va_Nw.warmM hW (va_Nw.of rfl (hts0 (Jvm.Cond.methodLinkNest "ValueMachine" (25 : Nat) ({ cls := "ValueMachine$Notes", name := "<init>", desc := "()V" } : Jvm.MethodName) "ValueMachine") (by decide +kernel))), va_Nw.warmM hW (va_Nw.of rfl (hts0 (Jvm.Cond.methodLinkNest "ValueMachine" (32 : Nat) ({ cls := "ValueMachine$Store", name := "<init>", desc := "()V" } : Jvm.MethodName) "ValueMachine") (by decide +kernel)))⟩⟩ rfl rfl hl.1 rfl (lv_room (Nat.le_of_ble_eq_true rfl)) d_law_4 ⟨Nat.le_of_ble_eq_true rfl, Nat.le_of_ble_eq_true rfl⟩) hS (fun q _ h => hFc q h) hFc (fun u4 t H1 locs ht hvm hw hB hz1 hk1 hS => ?_)
  obtain ⟨hP1, hK1, hD1⟩ := hB
  rw [ht] at hP1
  have hK1 := va_K.moved hvm.symm hK1
  have hP1 : va_P D vwCl (Xw (adOf q0 u4.1) u4.2 st0) H1 := hP1
  have hD1 : va_D _ (Xw (adOf q0 u4.1) u4.2 st0) := hD1
  have hK1 : va_K D vwCl (Xtys u4.2) s := hK1
  obtain ⟨hP, hD⟩ := va_join (wr := []) (w1 := Xw (adOf q0 u4.1) u4.2 st0) hP hD [0] [] rfl rfl (by decide) (by decide) hk1 hFc hP1 hD1
  have hK := hK.app hK1
  have hP : va_P D vwCl (Xw (adOf q0 u4.1) u4.2 st0) H1 := hP
  have hD : va_D (fun q => s.heap.size ≤ q) (Xw (adOf q0 u4.1) u4.2 st0) := hD
  have hK : va_K D vwCl (Xtys u4.2) s := hK
  generalize H1 = H at hP hS ⊢
  refine W.widen (k := 16) (n := 1257) (Nat.le_of_ble_eq_true rfl) (Nat.le_of_ble_eq_true rfl) ?_
  refine lv_astore_n (lv' := [(1, .ref q0), (0, .ref b)]) hx hb d_law_7 rfl hl (Nat.le_of_ble_eq_true rfl) rfl (fun ls hl => ?_)
  refine va_new (ci := 5) (fs := [.int 0, .null, .null, .int 0, .int 0, .int 0, .null, .null, .int 0, .null, .null, .null, .null, .int 0, .null, .null, .null, .null, .null, .int 0, .int 0, .int 0, .int 0, .int 0, .int 0, .int 0, .int 0, .int 0, .int 0, .int 0]) (C := "ValueMachineModel") (T := T_Ref) (N := 30) hx hb hts in_Ref ty_Ref tyok_Ref hown (hts _ k_609) (hts _ k_610) (hts _ k_67) hK hP hD hS hA rfl co_dec_new_Ref (Nat.le_of_ble_eq_true rfl) (Nat.le_of_ble_eq_true rfl) d_law_8 (fun q8 H hP hD hS => ?_)
  have hP : va_P D vwCl ((Xw (adOf q0 u4.1) u4.2 st0) ++ [(q8, .inr (5, [.int 0, .null, .null, .int 0, .int 0, .int 0, .null, .null, .int 0, .null, .null, .null, .null, .int 0, .null, .null, .null, .null, .null, .int 0, .int 0, .int 0, .int 0, .int 0, .int 0, .int 0, .int 0, .int 0, .int 0, .int 0]))]) H := hP
  have hD : va_D (fun q => s.heap.size ≤ q) ((Xw (adOf q0 u4.1) u4.2 st0) ++ [(q8, .inr (5, [.int 0, .null, .null, .int 0, .int 0, .int 0, .null, .null, .int 0, .null, .null, .null, .null, .int 0, .null, .null, .null, .null, .null, .int 0, .int 0, .int 0, .int 0, .int 0, .int 0, .int 0, .int 0, .int 0, .int 0, .int 0]))]) := hD
  refine W.widen (k := 17) (n := 1287) (Nat.le_of_ble_eq_true rfl) (Nat.le_of_ble_eq_true rfl) ?_
  refine lv_dup hx hb d_law_11 rfl ?_
  have hPc := hP.sub (ws' := [(q8, .inr (5, [.int 0, .null, .null, .int 0, .int 0, .int 0, .null, .null, .int 0, .null, .null, .null, .null, .int 0, .null, .null, .null, .null, .null, .int 0, .int 0, .int 0, .int 0, .int 0, .int 0, .int 0, .int 0, .int 0, .int 0, .int 0]))]) [16] rfl
  have hDc := hD.sub (ws' := [(q8, .inr (5, [.int 0, .null, .null, .int 0, .int 0, .int 0, .null, .null, .int 0, .null, .null, .null, .null, .int 0, .null, .null, .null, .null, .null, .int 0, .int 0, .int 0, .int 0, .int 0, .int 0, .int 0, .int 0, .int 0, .int 0, .int 0]))]) [16] (by decide) rfl
  have hKc := hK.sub (tys' := []) [] rfl
  have hFc := va_free (wc := [(q8, .inr (5, [.int 0, .null, .null, .int 0, .int 0, .int 0, .null, .null, .int 0, .null, .null, .null, .null, .int 0, .null, .null, .null, .null, .null, .int 0, .int 0, .int 0, .int 0, .int 0, .int 0, .int 0, .int 0, .int 0, .int 0, .int 0]))]) hD hS hA [16] rfl
  refine va_callv (va_runI (As := []) (rest := [.ref q8]) S (m_Ref_init l D q8 H.size) (cwI 0 hts (gwC k_613) rfl rfl rfl (hts _ k_67) (hts _ k_611) (hts _ k_612) rfl (by decide +kernel) ⟨Nat.le_of_ble_eq_true rfl, Nat.le_of_ble_eq_true rfl⟩) ⟨fun a U g mk q => by obtain ⟨q0, q1, qP, qK, qD⟩ := q; exact ⟨q0, q1, qP, va_K.moved (u := U) (U := U.calling g mk a) (Vm.Alike.refl U.vm) qK, qD⟩, fun U hU hW => ⟨rfl, by rw [hU], by rw [hU]; exact hPc, va_K.moved hW.alike hKc, hDc.weaken (fun _ _ _ _ => trivial)⟩⟩ rfl rfl hl.1 rfl (lv_room (Nat.le_of_ble_eq_true rfl)) d_law_12 ⟨Nat.le_of_ble_eq_true rfl, Nat.le_of_ble_eq_true rfl⟩) hS (fun q _ h => hFc q h) hFc (fun u12 t H1 locs ht hvm hw hB hz1 hk1 hS => ?_)
  obtain ⟨hP1, hK1, hD1⟩ := hB
  rw [ht] at hP1
  have hK1 := va_K.moved hvm.symm hK1
  have hP1 : va_P D vwCl (Rw (adOf q8 u12.1) u12.2 st0) H1 := hP1
  have hD1 : va_D _ (Rw (adOf q8 u12.1) u12.2 st0) := hD1
  have hK1 : va_K D vwCl (Rtys u12.2) s := hK1
  obtain ⟨hP, hD⟩ := va_join (wr := (Xw (adOf q0 u4.1) u4.2 st0)) (w1 := Rw (adOf q8 u12.1) u12.2 st0) hP hD [16] [0, 1, 2, 3, 4, 5, 6, 7, 8, 9, 10, 11, 12, 13, 14, 15] rfl rfl (by decide) (by decide) hk1 hFc hP1 hD1
  have hK := hK.app hK1
  have hP : va_P D vwCl ((Xw (adOf q0 u4.1) u4.2 st0) ++ Rw (adOf q8 u12.1) u12.2 st0) H1 := hP
  have hD : va_D (fun q => s.heap.size ≤ q) ((Xw (adOf q0 u4.1) u4.2 st0) ++ Rw (adOf q8 u12.1) u12.2 st0) := hD
  have hK : va_K D vwCl ((Xtys u4.2) ++ Rtys u12.2) s := hK
  generalize H1 = H at hP hS ⊢
  refine W.widen (k := 30) (n := 3213) (Nat.le_of_ble_eq_true rfl) (Nat.le_of_ble_eq_true rfl) ?_
  refine lv_astore_n (lv' := [(2, .ref q8), (1, .ref q0), (0, .ref b)]) hx hb d_law_15 rfl hl (Nat.le_of_ble_eq_true rfl) rfl (fun ls hl => ?_)
  refine lv_iconst (v := 1) hx hb d_law_16 (by decide) ?_
  refine va_newa (atype := .long) (ty := .long) (n := 1) (N' := 1) (a0 := (1, .inr (.inl (fun _ => 0)))) hx hb (hts _ k_114) rfl hK hP hD hS hA (fun _ => rfl) (by decide) (by decide) (by decide) (Nat.le_of_ble_eq_true rfl) (Nat.le_of_ble_eq_true rfl) d_law_17 (fun qo co H hK hP hD hS => ?_)
  refine W.widen (k := 31) (n := 3214) (Nat.le_of_ble_eq_true rfl) (Nat.le_of_ble_eq_true rfl) ?_
  have hP : va_P D vwCl (wL (adOf q0 u4.1) u4.2 (adOf q8 u12.1) u12.2 qo co (st0, st0, fun _ => 0)) H := hP
  have hD : va_D (fun q => s.heap.size ≤ q) (wL (adOf q0 u4.1) u4.2 (adOf q8 u12.1) u12.2 qo co (st0, st0, fun _ => 0)) := hD
  have hK : va_K D vwCl (tL u4.2 u12.2 co) s := hK
  refine lv_astore_n (lv' := [(3, .ref qo), (2, .ref q8), (1, .ref q0), (0, .ref b)]) hx hb d_law_19 rfl hl (Nat.le_of_ble_eq_true rfl) rfl (fun ls hl => ?_)
  refine lv_iconst (v := 0) hx hb d_law_20 (by decide) ?_
  refine lv_istore (lv' := [(4, .int 0), (3, .ref qo), (2, .ref q8), (1, .ref q0), (0, .ref b)]) hx hb d_law_21 hl (Nat.le_of_ble_eq_true rfl) rfl (fun ls hl => ?_)
  exact law_loop hl0 C0 hTh hL D (adOf q0 u4.1) u4.2 (adOf q8 u12.1) u12.2 qo co hK 512 0 31 3214 (st0, st0, fun _ => 0) (by omega) (by omega) (by omega) (by omega) Rel_st0 H _ ls hl hP hD hS
