theorem k_288 : (Jvm.Cond.classLink "ValueMachineLaw" (13 : Nat) "java/lang/IllegalArgumentException") ∈ tbl := tb 288 (by decide +kernel) (by decide +kernel)
theorem k_289 : (Jvm.Cond.methodLink "ValueMachineLaw" (7 : Nat) ({ cls := "ValueMachine", name := "code", desc := "(II)I" } : Jvm.MethodName)) ∈ tbl := tb 289 (by decide +kernel) (by decide +kernel)
theorem k_290 : (Jvm.Cond.instanceMethod ({ cls := "ValueMachine", name := "code", desc := "(II)I" } : Jvm.MethodName)) ∈ tbl := tb 290 (by decide +kernel) (by decide +kernel)
theorem k_291 : (Jvm.Cond.selects "ValueMachine" ({ cls := "ValueMachine", name := "code", desc := "(II)I" } : Jvm.MethodName) ({ cls := "ValueMachine", name := "code", desc := "(II)I" } : Jvm.MethodName)) ∈ tbl := tb 291 (by decide +kernel) (by decide +kernel)
theorem k_292 : (Jvm.Cond.code ({ cls := "ValueMachine", name := "code", desc := "(II)I" } : Jvm.MethodName) prog_1_method_2_code (3 : Nat) (Option.some Jvm.ClassFile.FieldType.int)) ∈ tbl := tb 292 (by decide +kernel) (by decide +kernel)
theorem k_366 : (Jvm.Cond.methodLink "ValueMachineLaw" (15 : Nat) ({ cls := "ValueMachine", name := "run", desc := "(I)I" } : Jvm.MethodName)) ∈ tbl := tb 366 (by decide +kernel) (by decide +kernel)
theorem k_367 : (Jvm.Cond.instanceMethod ({ cls := "ValueMachine", name := "run", desc := "(I)I" } : Jvm.MethodName)) ∈ tbl := tb 367 (by decide +kernel) (by decide +kernel)
theorem k_368 : (Jvm.Cond.selects "ValueMachine" ({ cls := "ValueMachine", name := "run", desc := "(I)I" } : Jvm.MethodName) ({ cls := "ValueMachine", name := "run", desc := "(I)I" } : Jvm.MethodName)) ∈ tbl := tb 368 (by decide +kernel) (by decide +kernel)
theorem k_369 : (Jvm.Cond.code ({ cls := "ValueMachine", name := "run", desc := "(I)I" } : Jvm.MethodName) prog_1_method_5_code (5 : Nat) (Option.some Jvm.ClassFile.FieldType.int)) ∈ tbl := tb 369 (by decide +kernel) (by decide +kernel)
theorem Met_ofWH {l : Launch} {y : MethodName} {ws ws' : List Cond} {rm : Room} {Pc : Array Value → State → Prop} {Qc : Array Value → State → Outcome → State → Prop} {mc ms : Nat} {free : Addr → Prop} {cc : ByteArray} {maxL : Nat} {ret : Option FieldType} {hh : List (Nat × Nat × Nat × Nat)}
    (hy : plainName y.cls = true) (hw : ws = Cond.codeWith y cc maxL ret hh :: ws')
    (body : ∀ p e s m args below meth c s₁, BodyLoose p l y (headSpec ws rm) cc maxL ret e s m args below meth c s₁ → c.maxLocals = maxL → Pc args s →
      W p l e (headSpec ws rm).room s m args below meth c s.heap [] 0 0 (MQ below Qc args s mc ms free) (entryFrame m args maxL)) : Met l y ws rm Pc Qc mc ms free := by
  refine MetFree.of_bodyS (code := cc) (maxLocals := maxL) (ret := ret) hy ?_ ?_
  · intro args s m h hn
    obtain ⟨m9, meth, c, hn9, h1, h2, h3, h4, -, h5, h6, -⟩ := Cond.codeWith_spec (atoms_spec (ws := ws) h _ (by rw [hw]; exact List.mem_cons_self))
    cases hn.symm.trans hn9
    exact ⟨meth, c, h1, h2, h3, h4, h5, h6⟩
  · intro p e s m args below meth c s₁ B hml hP _
    have hh0 : s₁.heap = s.heap := by rw [B.state]; rfl
    obtain ⟨t, a1, o, b1, b2, b3⟩ := body p e s m args below meth c s₁ B hml hP s₁ hh0 (Stand.of_body B)
    exact ⟨t, o, a1, b1, b2, ⟨b3.1, b3.2⟩⟩
def w2 (ad : Nat → Nat) (ca : Nat → ClassId) (qo : Nat) (co : ClassId) (t : SG × (Nat → Int64)) : va_W := Xw ad ca t.1 ++ [(qo, .inl (co, 1, .inr (.inl t.2)))]
abbrev t2 (ca : Nat → ClassId) (co : ClassId) : List (ClassId × FieldType) := Xtys ca ++ [(co, .long)]
def kOf : Option Int32 → Int32
  | none => 1
  | some _ => 0
def oOf (f : Nat → Int64) : Option Int32 → (Nat → Int64)
  | none => f
  | some r => vp_updL f 0 r.toInt64

set_option maxHeartbeats 4000000 in
set_option maxRecDepth 100000 in
theorem m_Law_code (l : Launch) (hl0 : l.stackTraces = false) (D : va_G) (ad : Nat → Nat) (ca : Nat → ClassId) (qo : Nat) (co : ClassId) (N : Nat) (st : SG) (f : Nat → Int64) (sz : Nat) (a0 a1 : Int32) (ro : Option Int32) (u : SG) (h : fX_ValueMachine_code N st a0 a1 = some (ro, u)) : Met l y_Law_code (Cond.codeWith y_Law_code c_Law_code 5 (some .int) [(0, 10, 13, 13)] :: tbl) ({ frames := 7, cells := 1, slots := 6, locals := 113 } : Room) (va_Pc [.ref (ad 0), .int a0, .int a1, .ref qo] (fun U => goPre (w2 ad ca qo co) D vwCl (t2 ca co) sz (st, f) U ∧ ThP (va_A (w2 ad ca qo co (st, f)) sz) U)) (va_Qi (fun r' u' => r' = kOf ro ∧ u' = (u, oOf f ro)) (goPost (w2 ad ca qo co) D vwCl (t2 ca co) (va_A (w2 ad ca qo co (st, f)) sz)) (va_A (w2 ad ca qo co (st, f)) sz)) 1 6 (va_A (w2 ad ca qo co (st, f)) sz) := by
  refine Met_ofWH (cc := c_Law_code) (maxL := 5) (ret := some .int) (hh := [(0, 10, 13, 13)]) (by decide) rfl ?_
  intro p e s m args below meth c s₁ B hml hv
  obtain ⟨rfl, ⟨hsz, hP, hK, hD0⟩, hTh⟩ := hv
  have hx := B.exec
  have hb := B.bytes
  have hr := B.returns
  have hts0 := atoms_spec (ws := (Cond.codeWith y_Law_code c_Law_code 5 (some .int) [(0, 10, 13, 13)] :: tbl)) B.pre
  have hts : ∀ w ∈ tbl, w.before _ s = true := fun w h9 => hts0 w (List.mem_cons_of_mem _ h9)
  have htab := vx_table (x := y_Law_code) B (hts0 _ List.mem_cons_self)
  have hown : s.vm.findClass "ValueMachineLaw" = some m.cls := findClass_of_methodNamed B.named
  have hlocks := B.notSynchronized
  subst hsz
  have hD := hD0.self (sz := s.heap.size)
  generalize hAe : va_A (w2 ad ca qo co (st, f)) s.heap.size = A at hD hTh ⊢
  have hA : ∀ q : Nat, s.heap.size ≤ q → A q := fun q h => by rw [← hAe]; exact Or.inr h
  have hS : va_S A s.heap s.heap [] := va_S.rf
  have hl := lv_entry ([.ref (ad 0), .int a0, .int a1, .ref qo]) (n := 5) (Nat.le_of_ble_eq_true rfl)
  rw [lg_entry_eq]
  generalize (lg_sl ([.ref (ad 0), .int a0, .int a1, .ref qo]) ++ List.replicate (5 - (lg_sl ([.ref (ad 0), .int a0, .int a1, .ref qo])).length) Slot.unset).toArray = ls at hl ⊢
  have hl : lv_has ls 5 [(0, .ref (ad 0)), (1, .int a0), (2, .int a1), (3, .ref qo)] := hl
  refine lv_aload_n hx hb d_Law_code_0 rfl (lv_at hl 3 rfl) ?_
  refine lv_iconst (v := 0) hx hb d_Law_code_1 (by decide) ?_
  refine lv_aload_n hx hb d_Law_code_2 rfl (lv_at hl 0 rfl) ?_
  refine lv_iload_n hx hb d_Law_code_3 rfl (lv_at hl 1 rfl) ?_
  refine lv_iload_n hx hb d_Law_code_4 rfl (lv_at hl 2 rfl) ?_
  have hPc := hP.sub (ws' := Xw ad ca st) [0, 1, 2, 3, 4, 5, 6, 7, 8, 9, 10, 11, 12, 13, 14, 15] rfl
  have hDc := hD.sub (ws' := Xw ad ca st) [0, 1, 2, 3, 4, 5, 6, 7, 8, 9, 10, 11, 12, 13, 14, 15] (by decide) rfl
  have hKc := hK.sub (tys' := Xtys ca) [0, 1, 2, 3, 4, 5, 6, 7, 8, 9, 10] rfl
  have hFc := va_free (wc := Xw ad ca st) hD hS hA [0, 1, 2, 3, 4, 5, 6, 7, 8, 9, 10, 11, 12, 13, 14, 15] rfl
  refine vx_calli (vx_runV (As := [.int a0, .int a1]) (rest := [.int 0, .ref qo]) ⟨hx, hb, hml, hown, hts⟩ (m_VM_code l hl0 D ad ca N st s.heap.size a0 a1 ro u h) (cwV 2 hts (gwV k_289 k_290 k_291 k_62 k_292) rfl rfl rfl (by decide +kernel) ⟨Nat.le_of_ble_eq_true rfl, Nat.le_of_ble_eq_true rfl⟩) ⟨fun a U g mk q => by obtain ⟨q0, ⟨q1, qP, qK, qD⟩, qT⟩ := q; exact ⟨q0, ⟨q1, qP, va_K.moved (u := U) (U := U.calling g mk a) (Vm.Alike.refl U.vm) qK, qD⟩, ThP_calling qT⟩, va_recv hKc hPc rfl (Xw_0 ad ca st), fun U hU hW => ⟨rfl, ⟨by rw [hU], by rw [hU]; exact hPc, va_K.moved hW.alike hKc, hDc.weaken (fun _ _ _ _ => trivial)⟩, ThP_narrow (ThP_at hTh hS hU hW) (fun q h9 => hFc q h9)⟩⟩ rfl rfl hl.1 rfl (lv_room (Nat.le_of_ble_eq_true rfl)) d_Law_code_5 ⟨Nat.le_of_ble_eq_true rfl, Nat.le_of_ble_eq_true rfl⟩) hS (fun q _ h => hFc q h) hFc (fun q _ h => hFc q h) (fun E ce q9 u9 t H1 locs ht hvm hpx hB hz1 hk1 hS hce hcv hcl => ?_) (fun r u9 t H1 locs ht hvm hp hB hz1 hk1 hS => ?_)
  · obtain ⟨rfl, rfl⟩ := hpx
    obtain ⟨rfl, hP1, hK1, hD1⟩ := hB
    rw [ht] at hP1
    obtain ⟨hP, hD⟩ := va_join (wr := [(qo, .inl (co, 1, .inr (.inl f)))]) (w1 := Xw ad ca u9) hP hD [0, 1, 2, 3, 4, 5, 6, 7, 8, 9, 10, 11, 12, 13, 14, 15] [16] rfl rfl (by decide) (by decide) hk1 hFc hP1 hD1
    have hP : va_P D vwCl (w2 ad ca qo co (u9, f)) H1 := hP.sub (ws' := w2 ad ca qo co (u9, f)) [1, 2, 3, 4, 5, 6, 7, 8, 9, 10, 11, 12, 13, 14, 15, 16, 0] rfl
    have hD : va_D A (w2 ad ca qo co (u9, f)) := hD.sub (ws' := w2 ad ca qo co (u9, f)) [1, 2, 3, 4, 5, 6, 7, 8, 9, 10, 11, 12, 13, 14, 15, 16, 0] (by decide) rfl
    refine vx_catch (own := "ValueMachineLaw") (name := "java/lang/IllegalArgumentException") hown [] ⟨0, 10, 13, 13⟩ [] htab (fun z9 h9 => by cases h9) (by decide) (by decide) (hts _ k_288) (va_Nw.use rfl hTh.2.2.1) hce hcv hcl ?_
    refine lv_astore (lv' := [(4, .ref q9), (0, .ref (ad 0)), (1, .int a0), (2, .int a1), (3, .ref qo)]) hx hb d_Law_code_13 hl (Nat.le_of_ble_eq_true rfl) rfl (fun ls' hl' => ?_)
    refine lv_iconst (v := 1) hx hb d_Law_code_15 (by decide) ?_
    refine W.widen (k := 1) (n := 6) (by decide) (by decide) ?_
    exact W.iret hx hb hr (fun t ht hW => ⟨⟨1, (u9, f), rfl, ⟨rfl, rfl⟩, by rw [ht]; exact hP, va_K.moved hW.alike hK, hD⟩, hS.F ht⟩) hS.2.2 d_Law_code_16
  · obtain ⟨rfl, rfl⟩ := hp
    obtain ⟨hP1, hK1, hD1⟩ := hB
    rw [ht] at hP1
    obtain ⟨hP, hD⟩ := va_join (wr := [(qo, .inl (co, 1, .inr (.inl f)))]) (w1 := Xw ad ca u9) hP hD [0, 1, 2, 3, 4, 5, 6, 7, 8, 9, 10, 11, 12, 13, 14, 15] [16] rfl rfl (by decide) (by decide) hk1 hFc hP1 hD1
    have hP : va_P D vwCl (w2 ad ca qo co (u9, f)) H1 := hP.sub (ws' := w2 ad ca qo co (u9, f)) [1, 2, 3, 4, 5, 6, 7, 8, 9, 10, 11, 12, 13, 14, 15, 16, 0] rfl
    have hD : va_D A (w2 ad ca qo co (u9, f)) := hD.sub (ws' := w2 ad ca qo co (u9, f)) [1, 2, 3, 4, 5, 6, 7, 8, 9, 10, 11, 12, 13, 14, 15, 16, 0] (by decide) rfl
    refine lv_i2l hx hb d_Law_code_8 rfl ?_
    refine va_last hx hb hK hP hD hS 16 11 rfl rfl (show ¬ ((0 : Int32) < 0 ∨ 1 ≤ (0 : Int32).toNatClampNeg) from by decide) d_Law_code_9 (fun H locs hP hD hS => ?_)
    have hP : va_P D vwCl (w2 ad ca qo co (u9, vp_updL f 0 r.toInt64)) H := hP
    have hD : va_D A (w2 ad ca qo co (u9, vp_updL f 0 r.toInt64)) := hD
    refine lv_goto (tgt := 17) hx hb d_Law_code_10 rfl ?_
    refine lv_iconst (v := 0) hx hb d_Law_code_17 (by decide) ?_
    refine W.widen (k := 1) (n := 6) (by decide) (by decide) ?_
    exact W.iret hx hb hr (fun t ht hW => ⟨⟨0, (u9, vp_updL f 0 r.toInt64), rfl, ⟨rfl, rfl⟩, by rw [ht]; exact hP, va_K.moved hW.alike hK, hD⟩, hS.F ht⟩) hS.2.2 d_Law_code_18
set_option maxHeartbeats 4000000 in
set_option maxRecDepth 100000 in
theorem m_Law_run (l : Launch) (hl0 : l.stackTraces = false) (D : va_G) (ad : Nat → Nat) (ca : Nat → ClassId) (qo : Nat) (co : ClassId) (N : Nat) (st : SG) (f : Nat → Int64) (sz : Nat) (a0 : Int32) (ro : Option Int32) (u : SG) (h : fX_ValueMachine_run N st a0 = some (ro, u)) : Met l y_Law_run (Cond.codeWith y_Law_run c_Law_run 4 (some .int) [(0, 9, 12, 13)] :: tbl) ({ frames := 7, cells := 1, slots := 6, locals := 161 } : Room) (va_Pc [.ref (ad 0), .int a0, .ref qo] (fun U => goPre (w2 ad ca qo co) D vwCl (t2 ca co) sz (st, f) U ∧ ThP (va_A (w2 ad ca qo co (st, f)) sz) U)) (va_Qi (fun r' u' => r' = kOf ro ∧ u' = (u, oOf f ro)) (goPost (w2 ad ca qo co) D vwCl (t2 ca co) (va_A (w2 ad ca qo co (st, f)) sz)) (va_A (w2 ad ca qo co (st, f)) sz)) 1 6 (va_A (w2 ad ca qo co (st, f)) sz) := by
  refine Met_ofWH (cc := c_Law_run) (maxL := 4) (ret := some .int) (hh := [(0, 9, 12, 13)]) (by decide) rfl ?_
  intro p e s m args below meth c s₁ B hml hv
  obtain ⟨rfl, ⟨hsz, hP, hK, hD0⟩, hTh⟩ := hv
  have hx := B.exec
  have hb := B.bytes
  have hr := B.returns
  have hts0 := atoms_spec (ws := (Cond.codeWith y_Law_run c_Law_run 4 (some .int) [(0, 9, 12, 13)] :: tbl)) B.pre
  have hts : ∀ w ∈ tbl, w.before _ s = true := fun w h9 => hts0 w (List.mem_cons_of_mem _ h9)
  have htab := vx_table (x := y_Law_run) B (hts0 _ List.mem_cons_self)
  have hown : s.vm.findClass "ValueMachineLaw" = some m.cls := findClass_of_methodNamed B.named
  have hlocks := B.notSynchronized
  subst hsz
  have hD := hD0.self (sz := s.heap.size)
  generalize hAe : va_A (w2 ad ca qo co (st, f)) s.heap.size = A at hD hTh ⊢
  have hA : ∀ q : Nat, s.heap.size ≤ q → A q := fun q h => by rw [← hAe]; exact Or.inr h
  have hS : va_S A s.heap s.heap [] := va_S.rf
  have hl := lv_entry ([.ref (ad 0), .int a0, .ref qo]) (n := 4) (Nat.le_of_ble_eq_true rfl)
  rw [lg_entry_eq]
  generalize (lg_sl ([.ref (ad 0), .int a0, .ref qo]) ++ List.replicate (4 - (lg_sl ([.ref (ad 0), .int a0, .ref qo])).length) Slot.unset).toArray = ls at hl ⊢
  have hl : lv_has ls 4 [(0, .ref (ad 0)), (1, .int a0), (2, .ref qo)] := hl
  refine lv_aload_n hx hb d_Law_run_0 rfl (lv_at hl 2 rfl) ?_
  refine lv_iconst (v := 0) hx hb d_Law_run_1 (by decide) ?_
  refine lv_aload_n hx hb d_Law_run_2 rfl (lv_at hl 0 rfl) ?_
  refine lv_iload_n hx hb d_Law_run_3 rfl (lv_at hl 1 rfl) ?_
  have hPc := hP.sub (ws' := Xw ad ca st) [0, 1, 2, 3, 4, 5, 6, 7, 8, 9, 10, 11, 12, 13, 14, 15] rfl
  have hDc := hD.sub (ws' := Xw ad ca st) [0, 1, 2, 3, 4, 5, 6, 7, 8, 9, 10, 11, 12, 13, 14, 15] (by decide) rfl
  have hKc := hK.sub (tys' := Xtys ca) [0, 1, 2, 3, 4, 5, 6, 7, 8, 9, 10] rfl
  have hFc := va_free (wc := Xw ad ca st) hD hS hA [0, 1, 2, 3, 4, 5, 6, 7, 8, 9, 10, 11, 12, 13, 14, 15] rfl
  refine vx_calli (vx_runV (As := [.int a0]) (rest := [.int 0, .ref qo]) ⟨hx, hb, hml, hown, hts⟩ (m_VM_run l hl0 D ad ca N st s.heap.size a0 ro u h) (cwV 1 hts (gwV k_366 k_367 k_368 k_62 k_369) rfl rfl rfl (by decide +kernel) ⟨Nat.le_of_ble_eq_true rfl, Nat.le_of_ble_eq_true rfl⟩) ⟨fun a U g mk q => by obtain ⟨q0, ⟨q1, qP, qK, qD⟩, qT⟩ := q; exact ⟨q0, ⟨q1, qP, va_K.moved (u := U) (U := U.calling g mk a) (Vm.Alike.refl U.vm) qK, qD⟩, ThP_calling qT⟩, va_recv hKc hPc rfl (Xw_0 ad ca st), fun U hU hW => ⟨rfl, ⟨by rw [hU], by rw [hU]; exact hPc, va_K.moved hW.alike hKc, hDc.weaken (fun _ _ _ _ => trivial)⟩, ThP_narrow (ThP_at hTh hS hU hW) (fun q h9 => hFc q h9)⟩⟩ rfl rfl hl.1 rfl (lv_room (Nat.le_of_ble_eq_true rfl)) d_Law_run_4 ⟨Nat.le_of_ble_eq_true rfl, Nat.le_of_ble_eq_true rfl⟩) hS (fun q _ h => hFc q h) hFc (fun q _ h => hFc q h) (fun E ce q9 u9 t H1 locs ht hvm hpx hB hz1 hk1 hS hce hcv hcl => ?_) (fun r u9 t H1 locs ht hvm hp hB hz1 hk1 hS => ?_)
  · obtain ⟨rfl, rfl⟩ := hpx
    obtain ⟨rfl, hP1, hK1, hD1⟩ := hB
    rw [ht] at hP1
    obtain ⟨hP, hD⟩ := va_join (wr := [(qo, .inl (co, 1, .inr (.inl f)))]) (w1 := Xw ad ca u9) hP hD [0, 1, 2, 3, 4, 5, 6, 7, 8, 9, 10, 11, 12, 13, 14, 15] [16] rfl rfl (by decide) (by decide) hk1 hFc hP1 hD1
    have hP : va_P D vwCl (w2 ad ca qo co (u9, f)) H1 := hP.sub (ws' := w2 ad ca qo co (u9, f)) [1, 2, 3, 4, 5, 6, 7, 8, 9, 10, 11, 12, 13, 14, 15, 16, 0] rfl
    have hD : va_D A (w2 ad ca qo co (u9, f)) := hD.sub (ws' := w2 ad ca qo co (u9, f)) [1, 2, 3, 4, 5, 6, 7, 8, 9, 10, 11, 12, 13, 14, 15, 16, 0] (by decide) rfl
    refine vx_catch (own := "ValueMachineLaw") (name := "java/lang/IllegalArgumentException") hown [] ⟨0, 9, 12, 13⟩ [] htab (fun z9 h9 => by cases h9) (by decide) (by decide) (hts _ k_288) (va_Nw.use rfl hTh.2.2.1) hce hcv hcl ?_
    refine lv_astore_n (lv' := [(3, .ref q9), (0, .ref (ad 0)), (1, .int a0), (2, .ref qo)]) hx hb d_Law_run_12 rfl hl (Nat.le_of_ble_eq_true rfl) rfl (fun ls' hl' => ?_)
    refine lv_iconst (v := 1) hx hb d_Law_run_13 (by decide) ?_
    refine W.widen (k := 1) (n := 6) (by decide) (by decide) ?_
    exact W.iret hx hb hr (fun t ht hW => ⟨⟨1, (u9, f), rfl, ⟨rfl, rfl⟩, by rw [ht]; exact hP, va_K.moved hW.alike hK, hD⟩, hS.F ht⟩) hS.2.2 d_Law_run_14
  · obtain ⟨rfl, rfl⟩ := hp
    obtain ⟨hP1, hK1, hD1⟩ := hB
    rw [ht] at hP1
    obtain ⟨hP, hD⟩ := va_join (wr := [(qo, .inl (co, 1, .inr (.inl f)))]) (w1 := Xw ad ca u9) hP hD [0, 1, 2, 3, 4, 5, 6, 7, 8, 9, 10, 11, 12, 13, 14, 15] [16] rfl rfl (by decide) (by decide) hk1 hFc hP1 hD1
    have hP : va_P D vwCl (w2 ad ca qo co (u9, f)) H1 := hP.sub (ws' := w2 ad ca qo co (u9, f)) [1, 2, 3, 4, 5, 6, 7, 8, 9, 10, 11, 12, 13, 14, 15, 16, 0] rfl
    have hD : va_D A (w2 ad ca qo co (u9, f)) := hD.sub (ws' := w2 ad ca qo co (u9, f)) [1, 2, 3, 4, 5, 6, 7, 8, 9, 10, 11, 12, 13, 14, 15, 16, 0] (by decide) rfl
    refine lv_i2l hx hb d_Law_run_7 rfl ?_
    refine va_last hx hb hK hP hD hS 16 11 rfl rfl (show ¬ ((0 : Int32) < 0 ∨ 1 ≤ (0 : Int32).toNatClampNeg) from by decide) d_Law_run_8 (fun H locs hP hD hS => ?_)
    have hP : va_P D vwCl (w2 ad ca qo co (u9, vp_updL f 0 r.toInt64)) H := hP
    have hD : va_D A (w2 ad ca qo co (u9, vp_updL f 0 r.toInt64)) := hD
    refine lv_goto (tgt := 15) hx hb d_Law_run_9 rfl ?_
    refine lv_iconst (v := 0) hx hb d_Law_run_15 (by decide) ?_
    refine W.widen (k := 1) (n := 6) (by decide) (by decide) ?_
    exact W.iret hx hb hr (fun t ht hW => ⟨⟨0, (u9, vp_updL f 0 r.toInt64), rfl, ⟨rfl, rfl⟩, by rw [ht]; exact hP, va_K.moved hW.alike hK, hD⟩, hS.F ht⟩) hS.2.2 d_Law_run_16
