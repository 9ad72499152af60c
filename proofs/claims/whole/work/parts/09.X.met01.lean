set_option maxHeartbeats 4000000 in
set_option maxRecDepth 100000 in
theorem m_Store_setPart (l : Launch) (D : va_G) (ad : Nat → Nat) (ca : Nat → ClassId) (N : Nat) (st : SG) (sz : Nat) (a0 : Int64) (a1 : Int32) (a2 : Int64) (r : Unit) (u : SG) (h : fX_Store_setPart N st a0 a1 a2 = some (r, u)) : Met l y_Store_setPart (Cond.code y_Store_setPart c_Store_setPart 6 none :: tbl) ({ frames := 1, cells := 0, slots := 0, locals := 21 } : Room) (va_Pc [.ref (ad 9), .long a0, .int a1, .long a2] (goPre (Xw ad ca) D vwCl (Xtys ca) sz st)) (va_Qv (fun u' => u' = u) (goPost (Xw ad ca) D vwCl (Xtys ca) (va_A (Xw ad ca st) sz)) (va_A (Xw ad ca st) sz)) 0 0 (va_A (Xw ad ca st) sz) := by
  refine go_met (Qc := fun A9 => va_Qv (fun u' => u' = u) (goPost (Xw ad ca) D vwCl (Xtys ca) A9) A9) (cc := c_Store_setPart) (maxL := 6) (ret := none) [(0, .ref (ad 9)), (1, .long a0), (3, .int a1), (4, .long a2)] (by decide) rfl (Nat.le_of_ble_eq_true rfl) rfl ?_
  intro p e s m below meth c A S hr hlk hK hA hsz
  obtain ⟨hx, hb, hml, hown, hts⟩ := id S
  unfold fX_Store_setPart at h
  refine Go.aload_n hx hb 0 rfl d_Store_setPart_0 ?_
  refine Go.get (v := .ref (ad 10)) hx hb hts in_Store hown hK 9 (Xw_9 ad ca _) rfl 0 (by decide) (hts _ k_138) (fun _ h9 => h9) rfl d_Store_setPart_1 ?_
  refine Go.lload_n hx hb 1 rfl d_Store_setPart_4 ?_
  obtain ⟨r1, s1, q1, h⟩ := gb_some h
  refine Go.callSi S hK hA (fun sz9 => m_Value_numberOf l D ad ca N _ sz9 _ r1 s1 q1) (va_cwS 1 hts (gwS k_264 k_265 k_72 k_266) rfl rfl rfl (by decide +kernel) ⟨Nat.le_of_ble_eq_true rfl, Nat.le_of_ble_eq_true rfl⟩) rfl rfl (Nat.le_of_ble_eq_true rfl) ⟨Nat.zero_le _, Nat.zero_le _⟩ d_Store_setPart_5 ?_
  refine Go.bipush (v := 20) hx hb (by decide) d_Store_setPart_8 ?_
  refine Go.imul hx hb d_Store_setPart_10 ?_
  refine Go.iload_n hx hb 2 rfl d_Store_setPart_11 ?_
  refine Go.iadd hx hb d_Store_setPart_12 ?_
  refine Go.lload hx hb 3 rfl d_Store_setPart_13 ?_
  obtain ⟨c15, h⟩ := gg_some h
  refine Go.last hx hb hK 10 5 (Xw_10 ad ca _) rfl c15 (uB s1 1 (vp_updL (gB s1 1) ((r1 * 20) + a1).toNatClampNeg a2)) (Xs_B1 ad ca _ _) d_Store_setPart_15 ?_
  exact Go.vret hx hb hr hK hlk h d_Store_setPart_16
set_option maxHeartbeats 4000000 in
set_option maxRecDepth 100000 in
theorem m_VM_setField (l : Launch) (D : va_G) (ad : Nat → Nat) (ca : Nat → ClassId) (N : Nat) (st : SG) (sz : Nat) (a0 : Int32) (r : Int32) (u : SG) (h : fX_ValueMachine_setField N st a0 = some (r, u)) : Met l y_VM_setField (Cond.code y_VM_setField c_VM_setField 4 (some .int) :: tbl) ({ frames := 3, cells := 0, slots := 0, locals := 66 } : Room) (va_Pc [.ref (ad 0), .int a0] (goPre (Xw ad ca) D vwCl (Xtys ca) sz st)) (va_Qi (fun r' u' => r' = r ∧ u' = u) (goPost (Xw ad ca) D vwCl (Xtys ca) (va_A (Xw ad ca st) sz)) (va_A (Xw ad ca st) sz)) 0 0 (va_A (Xw ad ca st) sz) := by
  refine go_met (Qc := fun A9 => va_Qi (fun r' u' => r' = r ∧ u' = u) (goPost (Xw ad ca) D vwCl (Xtys ca) A9) A9) (cc := c_VM_setField) (maxL := 4) (ret := (some .int)) [(0, .ref (ad 0)), (1, .int a0)] (by decide) rfl (Nat.le_of_ble_eq_true rfl) rfl ?_
  intro p e s m below meth c A S hr hlk hK hA hsz
  obtain ⟨hx, hb, hml, hown, hts⟩ := id S
  unfold fX_ValueMachine_setField at h
  refine Go.aload_n hx hb 0 rfl d_VM_setField_0 ?_
  refine Go.get (v := .ref (ad 4)) hx hb hts in_VM hown hK 0 (Xw_0 ad ca _) rfl 1 (by decide) (hts _ k_171) (fun _ h9 => h9) rfl d_VM_setField_1 ?_
  refine Go.iconst (v := 1) hx hb (by decide) d_VM_setField_4 ?_
  obtain ⟨r1, s1, q1, h⟩ := gb_some h
  refine Go.callVi S hK hA 4 (Xw_4 ad ca _) rfl (fun sz9 => m_ValueStack_holds l D ad ca N _ sz9 _ r1 s1 q1) (cwV 1 hts (gwV k_413 k_414 k_415 k_64 k_416) rfl rfl rfl (by decide +kernel) ⟨Nat.le_of_ble_eq_true rfl, Nat.le_of_ble_eq_true rfl⟩) rfl rfl (Nat.le_of_ble_eq_true rfl) ⟨Nat.zero_le _, Nat.zero_le _⟩ d_VM_setField_5 ?_
  refine Go.if_ne (tgt := 13) hx hb d_VM_setField_8 rfl (fun c8 => ?_) (fun c8 => ?_)
  · replace h := (if_neg c8).symm.trans h
    refine Go.aload_n hx hb 0 rfl d_VM_setField_13 ?_
    refine Go.get (v := .ref (ad 4)) hx hb hts in_VM hown hK 0 (Xw_0 ad ca _) rfl 1 (by decide) (hts _ k_171) (fun _ h9 => h9) rfl d_VM_setField_14 ?_
    refine Go.iconst (v := 0) hx hb (by decide) d_VM_setField_17 ?_
    obtain ⟨r2, s2, q2, h⟩ := gb_some h
    refine Go.callVl S hK hA 4 (Xw_4 ad ca _) rfl (fun sz9 => m_ValueStack_at l D ad ca N _ sz9 _ r2 s2 q2) (cwV 1 hts (gwV k_242 k_243 k_244 k_64 k_245) rfl rfl rfl (by decide +kernel) ⟨Nat.le_of_ble_eq_true rfl, Nat.le_of_ble_eq_true rfl⟩) rfl rfl (Nat.le_of_ble_eq_true rfl) ⟨Nat.zero_le _, Nat.zero_le _⟩ d_VM_setField_18 ?_
    refine Go.lstore_n (i := 2) (lv' := [(2, .long r2), (0, .ref (ad 0)), (1, .int a0)]) hx hb rfl (Nat.le_of_ble_eq_true rfl) rfl d_VM_setField_21 ?_
    refine Go.lload_n hx hb 0 rfl d_VM_setField_22 ?_
    obtain ⟨r3, s3, q3, h⟩ := gb_some h
    refine Go.callSi S hK hA (fun sz9 => m_Value_sortOf l D ad ca N _ sz9 _ r3 s3 q3) (va_cwS 1 hts (gwS k_235 k_236 k_72 k_237) rfl rfl rfl (by decide +kernel) ⟨Nat.le_of_ble_eq_true rfl, Nat.le_of_ble_eq_true rfl⟩) rfl rfl (Nat.le_of_ble_eq_true rfl) ⟨Nat.zero_le _, Nat.zero_le _⟩ d_VM_setField_23 ?_
    refine Go.iconst (v := 4) hx hb (by decide) d_VM_setField_26 ?_
    refine Go.icmp_eq (tgt := 32) hx hb d_VM_setField_27 rfl (fun c27 => ?_) (fun c27 => ?_)
    · replace h := (if_pos c27).symm.trans h
      refine Go.aload_n hx hb 1 rfl d_VM_setField_32 ?_
      refine Go.get (v := .ref (ad 9)) hx hb hts in_VM hown hK 0 (Xw_0 ad ca _) rfl 3 (by decide) (hts _ k_173) (fun _ h9 => h9) rfl d_VM_setField_33 ?_
      refine Go.lload_n hx hb 0 rfl d_VM_setField_36 ?_
      refine Go.iload_n hx hb 2 rfl d_VM_setField_37 ?_
      obtain ⟨r4, s4, q4, h⟩ := gb_some h
      refine Go.callVi S hK hA 9 (Xw_9 ad ca _) rfl (fun sz9 => m_Store_hasPart l D ad ca N _ sz9 _ _ r4 s4 q4) (cwV 2 hts (gwV k_256 k_257 k_258 k_66 k_259) rfl rfl rfl (by decide +kernel) ⟨Nat.le_of_ble_eq_true rfl, Nat.le_of_ble_eq_true rfl⟩) rfl rfl (Nat.le_of_ble_eq_true rfl) ⟨Nat.zero_le _, Nat.zero_le _⟩ d_VM_setField_38 ?_
      refine Go.if_ne (tgt := 47) hx hb d_VM_setField_41 rfl (fun c41 => ?_) (fun c41 => ?_)
      · replace h := (if_neg c41).symm.trans h
        refine Go.aload_n hx hb 1 rfl d_VM_setField_47 ?_
        refine Go.get (v := .ref (ad 9)) hx hb hts in_VM hown hK 0 (Xw_0 ad ca _) rfl 3 (by decide) (hts _ k_173) (fun _ h9 => h9) rfl d_VM_setField_48 ?_
        refine Go.lload_n hx hb 0 rfl d_VM_setField_51 ?_
        refine Go.iload_n hx hb 2 rfl d_VM_setField_52 ?_
        refine Go.aload_n hx hb 1 rfl d_VM_setField_53 ?_
        refine Go.get (v := .long (gL s4 0)) hx hb hts in_VM hown hK 0 (Xw_0 ad ca _) rfl 5 (by decide) (hts _ k_175) (fun _ h9 => h9) rfl d_VM_setField_54 ?_
        obtain ⟨_, s5, q5, h⟩ := gb_some h
        refine Go.callVv S hK hA 9 (Xw_9 ad ca _) rfl (fun sz9 => m_Store_setPart l D ad ca N _ sz9 _ _ _ _ s5 q5) (cwV 3 hts (gwV k_449 k_450 k_451 k_66 k_452) rfl rfl rfl (by decide +kernel) ⟨Nat.le_of_ble_eq_true rfl, Nat.le_of_ble_eq_true rfl⟩) rfl rfl (Nat.le_of_ble_eq_true rfl) ⟨Nat.zero_le _, Nat.zero_le _⟩ d_VM_setField_57 ?_
        refine Go.aload_n hx hb 1 rfl d_VM_setField_60 ?_
        refine Go.get (v := .ref (ad 4)) hx hb hts in_VM hown hK 0 (Xw_0 ad ca _) rfl 1 (by decide) (hts _ k_171) (fun _ h9 => h9) rfl d_VM_setField_61 ?_
        refine Go.iconst (v := 1) hx hb (by decide) d_VM_setField_64 ?_
        obtain ⟨_, s6, q6, h⟩ := gb_some h
        refine Go.callVv S hK hA 4 (Xw_4 ad ca _) rfl (fun sz9 => m_ValueStack_drop l D ad ca N _ sz9 _ _ s6 q6) (cwV 1 hts (gwV k_425 k_426 k_427 k_64 k_428) rfl rfl rfl (by decide +kernel) ⟨Nat.le_of_ble_eq_true rfl, Nat.le_of_ble_eq_true rfl⟩) rfl rfl (Nat.le_of_ble_eq_true rfl) ⟨Nat.zero_le _, Nat.zero_le _⟩ d_VM_setField_65 ?_
        refine Go.iconst (v := 0) hx hb (by decide) d_VM_setField_68 ?_
        exact Go.iret hx hb hr hK hlk h d_VM_setField_69
      · replace h := (if_pos c41).symm.trans h
        refine Go.bipush (v := 8) hx hb (by decide) d_VM_setField_44 ?_
        exact Go.iret hx hb hr hK hlk h d_VM_setField_46
    · replace h := (if_neg c27).symm.trans h
      refine Go.iconst (v := 1) hx hb (by decide) d_VM_setField_30 ?_
      exact Go.iret hx hb hr hK hlk h d_VM_setField_31
  · replace h := (if_pos c8).symm.trans h
    refine Go.iconst (v := 3) hx hb (by decide) d_VM_setField_11 ?_
    exact Go.iret hx hb hr hK hlk h d_VM_setField_12
set_option maxHeartbeats 4000000 in
set_option maxRecDepth 100000 in
theorem m_VM_setElement (l : Launch) (D : va_G) (ad : Nat → Nat) (ca : Nat → ClassId) (N : Nat) (st : SG) (sz : Nat) (r : Int32) (u : SG) (h : fX_ValueMachine_setElement N st = some (r, u)) : Met l y_VM_setElement (Cond.code y_VM_setElement c_VM_setElement 6 (some .int) :: tbl) ({ frames := 4, cells := 0, slots := 0, locals := 90 } : Room) (va_Pc [.ref (ad 0)] (goPre (Xw ad ca) D vwCl (Xtys ca) sz st)) (va_Qi (fun r' u' => r' = r ∧ u' = u) (goPost (Xw ad ca) D vwCl (Xtys ca) (va_A (Xw ad ca st) sz)) (va_A (Xw ad ca st) sz)) 0 0 (va_A (Xw ad ca st) sz) := by
  refine go_met (Qc := fun A9 => va_Qi (fun r' u' => r' = r ∧ u' = u) (goPost (Xw ad ca) D vwCl (Xtys ca) A9) A9) (cc := c_VM_setElement) (maxL := 6) (ret := (some .int)) [(0, .ref (ad 0))] (by decide) rfl (Nat.le_of_ble_eq_true rfl) rfl ?_
  intro p e s m below meth c A S hr hlk hK hA hsz
  obtain ⟨hx, hb, hml, hown, hts⟩ := id S
  unfold fX_ValueMachine_setElement at h
  refine Go.aload_n hx hb 0 rfl d_VM_setElement_0 ?_
  refine Go.get (v := .ref (ad 4)) hx hb hts in_VM hown hK 0 (Xw_0 ad ca _) rfl 1 (by decide) (hts _ k_171) (fun _ h9 => h9) rfl d_VM_setElement_1 ?_
  refine Go.iconst (v := 2) hx hb (by decide) d_VM_setElement_4 ?_
  obtain ⟨r1, s1, q1, h⟩ := gb_some h
  refine Go.callVi S hK hA 4 (Xw_4 ad ca _) rfl (fun sz9 => m_ValueStack_holds l D ad ca N _ sz9 _ r1 s1 q1) (cwV 1 hts (gwV k_413 k_414 k_415 k_64 k_416) rfl rfl rfl (by decide +kernel) ⟨Nat.le_of_ble_eq_true rfl, Nat.le_of_ble_eq_true rfl⟩) rfl rfl (Nat.le_of_ble_eq_true rfl) ⟨Nat.zero_le _, Nat.zero_le _⟩ d_VM_setElement_5 ?_
  refine Go.if_ne (tgt := 13) hx hb d_VM_setElement_8 rfl (fun c8 => ?_) (fun c8 => ?_)
  · replace h := (if_neg c8).symm.trans h
    refine Go.aload_n hx hb 0 rfl d_VM_setElement_13 ?_
    refine Go.get (v := .ref (ad 4)) hx hb hts in_VM hown hK 0 (Xw_0 ad ca _) rfl 1 (by decide) (hts _ k_171) (fun _ h9 => h9) rfl d_VM_setElement_14 ?_
    refine Go.iconst (v := 1) hx hb (by decide) d_VM_setElement_17 ?_
    obtain ⟨r2, s2, q2, h⟩ := gb_some h
    refine Go.callVl S hK hA 4 (Xw_4 ad ca _) rfl (fun sz9 => m_ValueStack_at l D ad ca N _ sz9 _ r2 s2 q2) (cwV 1 hts (gwV k_242 k_243 k_244 k_64 k_245) rfl rfl rfl (by decide +kernel) ⟨Nat.le_of_ble_eq_true rfl, Nat.le_of_ble_eq_true rfl⟩) rfl rfl (Nat.le_of_ble_eq_true rfl) ⟨Nat.zero_le _, Nat.zero_le _⟩ d_VM_setElement_18 ?_
    refine Go.lstore_n (i := 1) (lv' := [(1, .long r2), (0, .ref (ad 0))]) hx hb rfl (Nat.le_of_ble_eq_true rfl) rfl d_VM_setElement_21 ?_
    refine Go.aload_n hx hb 1 rfl d_VM_setElement_22 ?_
    refine Go.get (v := .ref (ad 4)) hx hb hts in_VM hown hK 0 (Xw_0 ad ca _) rfl 1 (by decide) (hts _ k_171) (fun _ h9 => h9) rfl d_VM_setElement_23 ?_
    refine Go.iconst (v := 0) hx hb (by decide) d_VM_setElement_26 ?_
    obtain ⟨r3, s3, q3, h⟩ := gb_some h
    refine Go.callVl S hK hA 4 (Xw_4 ad ca _) rfl (fun sz9 => m_ValueStack_at l D ad ca N _ sz9 _ r3 s3 q3) (cwV 1 hts (gwV k_242 k_243 k_244 k_64 k_245) rfl rfl rfl (by decide +kernel) ⟨Nat.le_of_ble_eq_true rfl, Nat.le_of_ble_eq_true rfl⟩) rfl rfl (Nat.le_of_ble_eq_true rfl) ⟨Nat.zero_le _, Nat.zero_le _⟩ d_VM_setElement_27 ?_
    refine Go.lstore_n (i := 3) (lv' := [(3, .long r3), (1, .long r2), (0, .ref (ad 0))]) hx hb rfl (Nat.le_of_ble_eq_true rfl) rfl d_VM_setElement_30 ?_
    refine Go.aload_n hx hb 2 rfl d_VM_setElement_31 ?_
    refine Go.lload_n hx hb 1 rfl d_VM_setElement_32 ?_
    refine Go.lload_n hx hb 0 rfl d_VM_setElement_33 ?_
    obtain ⟨r4, s4, q4, h⟩ := gb_some h
    refine Go.callVi S hK hA 0 (Xw_0 ad ca _) rfl (fun sz9 => m_VM_elementFault l D ad ca N _ sz9 _ _ r4 s4 q4) (cwV 2 hts (gwV k_417 k_419 k_9 k_62 k_420) rfl rfl rfl (by decide +kernel) ⟨Nat.le_of_ble_eq_true rfl, Nat.le_of_ble_eq_true rfl⟩) rfl rfl (Nat.le_of_ble_eq_true rfl) ⟨Nat.zero_le _, Nat.zero_le _⟩ d_VM_setElement_34 ?_
    refine Go.istore (i := 5) (lv' := [(5, .int r4), (3, .long r3), (1, .long r2), (0, .ref (ad 0))]) hx hb (Nat.le_of_ble_eq_true rfl) rfl d_VM_setElement_37 ?_
    refine Go.iload hx hb 0 rfl d_VM_setElement_39 ?_
    refine Go.if_eq (tgt := 47) hx hb d_VM_setElement_41 rfl (fun c41 => ?_) (fun c41 => ?_)
    · replace h := (if_pos c41).symm.trans h
      refine Go.aload_n hx hb 3 rfl d_VM_setElement_47 ?_
      refine Go.get (v := .ref (ad 9)) hx hb hts in_VM hown hK 0 (Xw_0 ad ca _) rfl 3 (by decide) (hts _ k_173) (fun _ h9 => h9) rfl d_VM_setElement_48 ?_
      refine Go.lload_n hx hb 2 rfl d_VM_setElement_51 ?_
      refine Go.lload_n hx hb 1 rfl d_VM_setElement_52 ?_
      obtain ⟨r5, s5, q5, h⟩ := gb_some h
      refine Go.callSi S hK hA (fun sz9 => m_Value_numberOf l D ad ca N _ sz9 _ r5 s5 q5) (va_cwS 1 hts (gwS k_275 k_265 k_72 k_266) rfl rfl rfl (by decide +kernel) ⟨Nat.le_of_ble_eq_true rfl, Nat.le_of_ble_eq_true rfl⟩) rfl rfl (Nat.le_of_ble_eq_true rfl) ⟨Nat.zero_le _, Nat.zero_le _⟩ d_VM_setElement_53 ?_
      refine Go.aload_n hx hb 3 rfl d_VM_setElement_56 ?_
      refine Go.get (v := .long (gL s5 0)) hx hb hts in_VM hown hK 0 (Xw_0 ad ca _) rfl 5 (by decide) (hts _ k_175) (fun _ h9 => h9) rfl d_VM_setElement_57 ?_
      obtain ⟨_, s6, q6, h⟩ := gb_some h
      refine Go.callVv S hK hA 9 (Xw_9 ad ca _) rfl (fun sz9 => m_Store_setPart l D ad ca N _ sz9 _ _ _ _ s6 q6) (cwV 3 hts (gwV k_449 k_450 k_451 k_66 k_452) rfl rfl rfl (by decide +kernel) ⟨Nat.le_of_ble_eq_true rfl, Nat.le_of_ble_eq_true rfl⟩) rfl rfl (Nat.le_of_ble_eq_true rfl) ⟨Nat.zero_le _, Nat.zero_le _⟩ d_VM_setElement_60 ?_
      refine Go.aload_n hx hb 3 rfl d_VM_setElement_63 ?_
      refine Go.get (v := .ref (ad 4)) hx hb hts in_VM hown hK 0 (Xw_0 ad ca _) rfl 1 (by decide) (hts _ k_171) (fun _ h9 => h9) rfl d_VM_setElement_64 ?_
      refine Go.iconst (v := 2) hx hb (by decide) d_VM_setElement_67 ?_
      obtain ⟨_, s7, q7, h⟩ := gb_some h
      refine Go.callVv S hK hA 4 (Xw_4 ad ca _) rfl (fun sz9 => m_ValueStack_drop l D ad ca N _ sz9 _ _ s7 q7) (cwV 1 hts (gwV k_425 k_426 k_427 k_64 k_428) rfl rfl rfl (by decide +kernel) ⟨Nat.le_of_ble_eq_true rfl, Nat.le_of_ble_eq_true rfl⟩) rfl rfl (Nat.le_of_ble_eq_true rfl) ⟨Nat.zero_le _, Nat.zero_le _⟩ d_VM_setElement_68 ?_
      refine Go.iconst (v := 0) hx hb (by decide) d_VM_setElement_71 ?_
      exact Go.iret hx hb hr hK hlk h d_VM_setElement_72
    · replace h := (if_neg c41).symm.trans h
      refine Go.iload hx hb 0 rfl d_VM_setElement_44 ?_
      exact Go.iret hx hb hr hK hlk h d_VM_setElement_46
  · replace h := (if_pos c8).symm.trans h
    refine Go.iconst (v := 3) hx hb (by decide) d_VM_setElement_11 ?_
    exact Go.iret hx hb hr hK hlk h d_VM_setElement_12
set_option maxHeartbeats 4000000 in
set_option maxRecDepth 100000 in
theorem m_ValueStack_isFull (l : Launch) (D : va_G) (ad : Nat → Nat) (ca : Nat → ClassId) (N : Nat) (st : SG) (sz : Nat) (r : Int32) (u : SG) (h : fX_ValueStack_isFull N st = some (r, u)) : Met l y_ValueStack_isFull (Cond.code y_ValueStack_isFull c_ValueStack_isFull 1 (some .boolean) :: tbl) ({ frames := 0, cells := 0, slots := 0, locals := 0 } : Room) (va_Pc [.ref (ad 4)] (goPre (Xw ad ca) D vwCl (Xtys ca) sz st)) (va_Qi (fun r' u' => r' = r ∧ u' = u) (goPost (Xw ad ca) D vwCl (Xtys ca) (va_A (Xw ad ca st) sz)) (va_A (Xw ad ca st) sz)) 0 0 (va_A (Xw ad ca st) sz) := by
  refine go_met (Qc := fun A9 => va_Qi (fun r' u' => r' = r ∧ u' = u) (goPost (Xw ad ca) D vwCl (Xtys ca) A9) A9) (cc := c_ValueStack_isFull) (maxL := 1) (ret := (some .boolean)) [(0, .ref (ad 4))] (by decide) rfl (Nat.le_of_ble_eq_true rfl) rfl ?_
  intro p e s m below meth c A S hr hlk hK hA hsz
  obtain ⟨hx, hb, hml, hown, hts⟩ := id S
  unfold fX_ValueStack_isFull at h
  refine Go.aload_n hx hb 0 rfl d_ValueStack_isFull_0 ?_
  refine Go.get (v := .int (gI st 1)) hx hb hts in_ValueStack hown hK 4 (Xw_4 ad ca _) rfl 1 (by decide) (hts _ k_107) (fun _ h9 => h9) rfl d_ValueStack_isFull_1 ?_
  refine Go.bipush (v := 120) hx hb (by decide) d_ValueStack_isFull_4 ?_
  refine Go.icmp_lt (tgt := 13) hx hb d_ValueStack_isFull_6 rfl (fun c6 => ?_) (fun c6 => ?_)
  · replace h := (if_pos c6).symm.trans h
    refine Go.iconst (v := 0) hx hb (by decide) d_ValueStack_isFull_13 ?_
    exact Go.zret hx hb hr hK hlk rfl h d_ValueStack_isFull_14
  · replace h := (if_neg c6).symm.trans h
    refine Go.iconst (v := 1) hx hb (by decide) d_ValueStack_isFull_9 ?_
    refine Go.goto (tgt := 14) hx hb d_ValueStack_isFull_10 rfl ?_
    exact Go.zret hx hb hr hK hlk rfl h d_ValueStack_isFull_14
set_option maxHeartbeats 4000000 in
set_option maxRecDepth 100000 in
theorem m_ValueStack_push (l : Launch) (D : va_G) (ad : Nat → Nat) (ca : Nat → ClassId) (N : Nat) (st : SG) (sz : Nat) (a0 : Int64) (r : Unit) (u : SG) (h : fX_ValueStack_push N st a0 = some (r, u)) : Met l y_ValueStack_push (Cond.code y_ValueStack_push c_ValueStack_push 3 none :: tbl) ({ frames := 0, cells := 0, slots := 0, locals := 0 } : Room) (va_Pc [.ref (ad 4), .long a0] (goPre (Xw ad ca) D vwCl (Xtys ca) sz st)) (va_Qv (fun u' => u' = u) (goPost (Xw ad ca) D vwCl (Xtys ca) (va_A (Xw ad ca st) sz)) (va_A (Xw ad ca st) sz)) 0 0 (va_A (Xw ad ca st) sz) := by
  refine go_met (Qc := fun A9 => va_Qv (fun u' => u' = u) (goPost (Xw ad ca) D vwCl (Xtys ca) A9) A9) (cc := c_ValueStack_push) (maxL := 3) (ret := none) [(0, .ref (ad 4)), (1, .long a0)] (by decide) rfl (Nat.le_of_ble_eq_true rfl) rfl ?_
  intro p e s m below meth c A S hr hlk hK hA hsz
  obtain ⟨hx, hb, hml, hown, hts⟩ := id S
  unfold fX_ValueStack_push at h
  refine Go.aload_n hx hb 0 rfl d_ValueStack_push_0 ?_
  refine Go.get (v := .ref (ad 5)) hx hb hts in_ValueStack hown hK 4 (Xw_4 ad ca _) rfl 0 (by decide) (hts _ k_106) (fun _ h9 => h9) rfl d_ValueStack_push_1 ?_
  refine Go.aload_n hx hb 0 rfl d_ValueStack_push_4 ?_
  refine Go.get (v := .int (gI st 1)) hx hb hts in_ValueStack hown hK 4 (Xw_4 ad ca _) rfl 1 (by decide) (hts _ k_107) (fun _ h9 => h9) rfl d_ValueStack_push_5 ?_
  refine Go.lload_n hx hb 1 rfl d_ValueStack_push_8 ?_
  obtain ⟨c9, h⟩ := gg_some h
  refine Go.last hx hb hK 5 2 (Xw_5 ad ca _) rfl c9 (uB st 0 (vp_updL (gB st 0) (gI st 1).toNatClampNeg a0)) (Xs_B0 ad ca _ _) d_ValueStack_push_9 ?_
  refine Go.aload_n hx hb 0 rfl d_ValueStack_push_10 ?_
  refine Go.dup hx hb rfl d_ValueStack_push_11 ?_
  refine Go.get (v := .int (gI st 1)) hx hb hts in_ValueStack hown hK 4 (Xw_4 ad ca _) rfl 1 (by decide) (hts _ k_107) (fun _ h9 => h9) rfl d_ValueStack_push_12 ?_
  refine Go.iconst (v := 1) hx hb (by decide) d_ValueStack_push_15 ?_
  refine Go.iadd hx hb d_ValueStack_push_16 ?_
  refine Go.put (ty := (.int)) hx hb hts in_ValueStack ty_ValueStack tyok_ValueStack nm_ValueStack hown hK 4 (Xw_4 ad ca _) rfl 1 (by decide) (hts _ k_107) (fun _ h9 => h9) rfl (by decide +kernel) rfl rfl (Nat.le_of_ble_eq_true rfl) (uI (uB st 0 (vp_updL (gB st 0) (gI st 1).toNatClampNeg a0)) 1 ((gI st 1) + 1)) (Xs_I1 ad ca _ _) d_ValueStack_push_17 ?_
  exact Go.vret hx hb hr hK hlk h d_ValueStack_push_20
set_option maxHeartbeats 4000000 in
set_option maxRecDepth 100000 in
theorem m_VM_push (l : Launch) (D : va_G) (ad : Nat → Nat) (ca : Nat → ClassId) (N : Nat) (st : SG) (sz : Nat) (r : Int32) (u : SG) (h : fX_ValueMachine_push N st = some (r, u)) : Met l y_VM_push (Cond.code y_VM_push c_VM_push 1 (some .int) :: tbl) ({ frames := 1, cells := 0, slots := 0, locals := 22 } : Room) (va_Pc [.ref (ad 0)] (goPre (Xw ad ca) D vwCl (Xtys ca) sz st)) (va_Qi (fun r' u' => r' = r ∧ u' = u) (goPost (Xw ad ca) D vwCl (Xtys ca) (va_A (Xw ad ca st) sz)) (va_A (Xw ad ca st) sz)) 0 0 (va_A (Xw ad ca st) sz) := by
  refine go_met (Qc := fun A9 => va_Qi (fun r' u' => r' = r ∧ u' = u) (goPost (Xw ad ca) D vwCl (Xtys ca) A9) A9) (cc := c_VM_push) (maxL := 1) (ret := (some .int)) [(0, .ref (ad 0))] (by decide) rfl (Nat.le_of_ble_eq_true rfl) rfl ?_
  intro p e s m below meth c A S hr hlk hK hA hsz
  obtain ⟨hx, hb, hml, hown, hts⟩ := id S
  unfold fX_ValueMachine_push at h
  refine Go.aload_n hx hb 0 rfl d_VM_push_0 ?_
  refine Go.get (v := .ref (ad 4)) hx hb hts in_VM hown hK 0 (Xw_0 ad ca _) rfl 1 (by decide) (hts _ k_171) (fun _ h9 => h9) rfl d_VM_push_1 ?_
  obtain ⟨r1, s1, q1, h⟩ := gb_some h
  refine Go.callVi S hK hA 4 (Xw_4 ad ca _) rfl (fun sz9 => m_ValueStack_isFull l D ad ca N _ sz9 r1 s1 q1) (cwV 0 hts (gwV k_461 k_462 k_463 k_64 k_464) rfl rfl rfl (by decide +kernel) ⟨Nat.le_of_ble_eq_true rfl, Nat.le_of_ble_eq_true rfl⟩) rfl rfl (Nat.le_of_ble_eq_true rfl) ⟨Nat.zero_le _, Nat.zero_le _⟩ d_VM_push_4 ?_
  refine Go.if_eq (tgt := 12) hx hb d_VM_push_7 rfl (fun c7 => ?_) (fun c7 => ?_)
  · replace h := (if_pos c7).symm.trans h
    refine Go.aload_n hx hb 0 rfl d_VM_push_12 ?_
    refine Go.get (v := .ref (ad 4)) hx hb hts in_VM hown hK 0 (Xw_0 ad ca _) rfl 1 (by decide) (hts _ k_171) (fun _ h9 => h9) rfl d_VM_push_13 ?_
    refine Go.aload_n hx hb 0 rfl d_VM_push_16 ?_
    refine Go.get (v := .long (gL s1 0)) hx hb hts in_VM hown hK 0 (Xw_0 ad ca _) rfl 5 (by decide) (hts _ k_175) (fun _ h9 => h9) rfl d_VM_push_17 ?_
    obtain ⟨_, s2, q2, h⟩ := gb_some h
    refine Go.callVv S hK hA 4 (Xw_4 ad ca _) rfl (fun sz9 => m_ValueStack_push l D ad ca N _ sz9 _ _ s2 q2) (cwV 1 hts (gwV k_465 k_466 k_467 k_64 k_468) rfl rfl rfl (by decide +kernel) ⟨Nat.le_of_ble_eq_true rfl, Nat.le_of_ble_eq_true rfl⟩) rfl rfl (Nat.le_of_ble_eq_true rfl) ⟨Nat.zero_le _, Nat.zero_le _⟩ d_VM_push_20 ?_
    refine Go.iconst (v := 0) hx hb (by decide) d_VM_push_23 ?_
    exact Go.iret hx hb hr hK hlk h d_VM_push_24
  · replace h := (if_neg c7).symm.trans h
    refine Go.iconst (v := 4) hx hb (by decide) d_VM_push_10 ?_
    exact Go.iret hx hb hr hK hlk h d_VM_push_11
set_option maxHeartbeats 4000000 in
set_option maxRecDepth 100000 in
theorem m_VM_pop (l : Launch) (D : va_G) (ad : Nat → Nat) (ca : Nat → ClassId) (N : Nat) (st : SG) (sz : Nat) (a0 : Int32) (r : Int32) (u : SG) (h : fX_ValueMachine_pop N st a0 = some (r, u)) : Met l y_VM_pop (Cond.code y_VM_pop c_VM_pop 2 (some .int) :: tbl) ({ frames := 1, cells := 0, slots := 0, locals := 21 } : Room) (va_Pc [.ref (ad 0), .int a0] (goPre (Xw ad ca) D vwCl (Xtys ca) sz st)) (va_Qi (fun r' u' => r' = r ∧ u' = u) (goPost (Xw ad ca) D vwCl (Xtys ca) (va_A (Xw ad ca st) sz)) (va_A (Xw ad ca st) sz)) 0 0 (va_A (Xw ad ca st) sz) := by
  refine go_met (Qc := fun A9 => va_Qi (fun r' u' => r' = r ∧ u' = u) (goPost (Xw ad ca) D vwCl (Xtys ca) A9) A9) (cc := c_VM_pop) (maxL := 2) (ret := (some .int)) [(0, .ref (ad 0)), (1, .int a0)] (by decide) rfl (Nat.le_of_ble_eq_true rfl) rfl ?_
  intro p e s m below meth c A S hr hlk hK hA hsz
  obtain ⟨hx, hb, hml, hown, hts⟩ := id S
  unfold fX_ValueMachine_pop at h
  refine Go.aload_n hx hb 0 rfl d_VM_pop_0 ?_
  refine Go.get (v := .ref (ad 4)) hx hb hts in_VM hown hK 0 (Xw_0 ad ca _) rfl 1 (by decide) (hts _ k_171) (fun _ h9 => h9) rfl d_VM_pop_1 ?_
  refine Go.iload_n hx hb 1 rfl d_VM_pop_4 ?_
  obtain ⟨r1, s1, q1, h⟩ := gb_some h
  refine Go.callVi S hK hA 4 (Xw_4 ad ca _) rfl (fun sz9 => m_ValueStack_holds l D ad ca N _ sz9 _ r1 s1 q1) (cwV 1 hts (gwV k_413 k_414 k_415 k_64 k_416) rfl rfl rfl (by decide +kernel) ⟨Nat.le_of_ble_eq_true rfl, Nat.le_of_ble_eq_true rfl⟩) rfl rfl (Nat.le_of_ble_eq_true rfl) ⟨Nat.zero_le _, Nat.zero_le _⟩ d_VM_pop_5 ?_
  refine Go.if_ne (tgt := 13) hx hb d_VM_pop_8 rfl (fun c8 => ?_) (fun c8 => ?_)
  · replace h := (if_neg c8).symm.trans h
    refine Go.aload_n hx hb 0 rfl d_VM_pop_13 ?_
    refine Go.get (v := .ref (ad 4)) hx hb hts in_VM hown hK 0 (Xw_0 ad ca _) rfl 1 (by decide) (hts _ k_171) (fun _ h9 => h9) rfl d_VM_pop_14 ?_
    refine Go.iload_n hx hb 1 rfl d_VM_pop_17 ?_
    obtain ⟨_, s2, q2, h⟩ := gb_some h
    refine Go.callVv S hK hA 4 (Xw_4 ad ca _) rfl (fun sz9 => m_ValueStack_drop l D ad ca N _ sz9 _ _ s2 q2) (cwV 1 hts (gwV k_425 k_426 k_427 k_64 k_428) rfl rfl rfl (by decide +kernel) ⟨Nat.le_of_ble_eq_true rfl, Nat.le_of_ble_eq_true rfl⟩) rfl rfl (Nat.le_of_ble_eq_true rfl) ⟨Nat.zero_le _, Nat.zero_le _⟩ d_VM_pop_18 ?_
    refine Go.iconst (v := 0) hx hb (by decide) d_VM_pop_21 ?_
    exact Go.iret hx hb hr hK hlk h d_VM_pop_22
  · replace h := (if_pos c8).symm.trans h
    refine Go.iconst (v := 3) hx hb (by decide) d_VM_pop_11 ?_
    exact Go.iret hx hb hr hK hlk h d_VM_pop_12
set_option maxHeartbeats 4000000 in
set_option maxRecDepth 100000 in
theorem m_Code_hasPlace (l : Launch) (D : va_G) (ad : Nat → Nat) (ca : Nat → ClassId) (N : Nat) (st : SG) (sz : Nat) (a0 : Int32) (r : Int32) (u : SG) (h : fX_Code_hasPlace N st a0 = some (r, u)) : Met l y_Code_hasPlace (Cond.code y_Code_hasPlace c_Code_hasPlace 2 (some .boolean) :: tbl) ({ frames := 0, cells := 0, slots := 0, locals := 0 } : Room) (va_Pc [.ref (ad 1), .int a0] (goPre (Xw ad ca) D vwCl (Xtys ca) sz st)) (va_Qi (fun r' u' => r' = r ∧ u' = u) (goPost (Xw ad ca) D vwCl (Xtys ca) (va_A (Xw ad ca st) sz)) (va_A (Xw ad ca st) sz)) 0 0 (va_A (Xw ad ca st) sz) := by
  refine go_met (Qc := fun A9 => va_Qi (fun r' u' => r' = r ∧ u' = u) (goPost (Xw ad ca) D vwCl (Xtys ca) A9) A9) (cc := c_Code_hasPlace) (maxL := 2) (ret := (some .boolean)) [(0, .ref (ad 1)), (1, .int a0)] (by decide) rfl (Nat.le_of_ble_eq_true rfl) rfl ?_
  intro p e s m below meth c A S hr hlk hK hA hsz
  obtain ⟨hx, hb, hml, hown, hts⟩ := id S
  unfold fX_Code_hasPlace at h
  refine Go.iload_n hx hb 1 rfl d_Code_hasPlace_0 ?_
  refine Go.if_lt (tgt := 16) hx hb d_Code_hasPlace_1 rfl (fun c1 => ?_) (fun c1 => ?_)
  · replace h := (if_pos c1).symm.trans h
    refine Go.iconst (v := 0) hx hb (by decide) d_Code_hasPlace_16 ?_
    exact Go.zret hx hb hr hK hlk rfl h d_Code_hasPlace_17
  · replace h := (if_neg c1).symm.trans h
    refine Go.iload_n hx hb 1 rfl d_Code_hasPlace_4 ?_
    refine Go.aload_n hx hb 0 rfl d_Code_hasPlace_5 ?_
    refine Go.get (v := .int (gI st 0)) hx hb hts in_Code hown hK 1 (Xw_1 ad ca _) rfl 2 (by decide) (hts _ k_90) (fun _ h9 => h9) rfl d_Code_hasPlace_6 ?_
    refine Go.icmp_gt (tgt := 16) hx hb d_Code_hasPlace_9 rfl (fun c9 => ?_) (fun c9 => ?_)
    · replace h := (if_pos c9).symm.trans h
      refine Go.iconst (v := 0) hx hb (by decide) d_Code_hasPlace_16 ?_
      exact Go.zret hx hb hr hK hlk rfl h d_Code_hasPlace_17
    · replace h := (if_neg c9).symm.trans h
      refine Go.iconst (v := 1) hx hb (by decide) d_Code_hasPlace_12 ?_
      refine Go.goto (tgt := 17) hx hb d_Code_hasPlace_13 rfl ?_
      exact Go.zret hx hb hr hK hlk rfl h d_Code_hasPlace_17
set_option maxHeartbeats 4000000 in
set_option maxRecDepth 100000 in
theorem m_VM_goIf (l : Launch) (D : va_G) (ad : Nat → Nat) (ca : Nat → ClassId) (N : Nat) (st : SG) (sz : Nat) (a0 : Int32) (a1 : Int32) (r : Int32) (u : SG) (h : fX_ValueMachine_goIf N st a0 a1 = some (r, u)) : Met l y_VM_goIf (Cond.code y_VM_goIf c_VM_goIf 3 (some .int) :: tbl) ({ frames := 1, cells := 0, slots := 0, locals := 21 } : Room) (va_Pc [.ref (ad 0), .int a0, .int a1] (goPre (Xw ad ca) D vwCl (Xtys ca) sz st)) (va_Qi (fun r' u' => r' = r ∧ u' = u) (goPost (Xw ad ca) D vwCl (Xtys ca) (va_A (Xw ad ca st) sz)) (va_A (Xw ad ca st) sz)) 0 0 (va_A (Xw ad ca st) sz) := by
  refine go_met (Qc := fun A9 => va_Qi (fun r' u' => r' = r ∧ u' = u) (goPost (Xw ad ca) D vwCl (Xtys ca) A9) A9) (cc := c_VM_goIf) (maxL := 3) (ret := (some .int)) [(0, .ref (ad 0)), (1, .int a0), (2, .int a1)] (by decide) rfl (Nat.le_of_ble_eq_true rfl) rfl ?_
  intro p e s m below meth c A S hr hlk hK hA hsz
  obtain ⟨hx, hb, hml, hown, hts⟩ := id S
  unfold fX_ValueMachine_goIf at h
  refine Go.aload_n hx hb 0 rfl d_VM_goIf_0 ?_
  refine Go.get (v := .ref (ad 1)) hx hb hts in_VM hown hK 0 (Xw_0 ad ca _) rfl 0 (by decide) (hts _ k_170) (fun _ h9 => h9) rfl d_VM_goIf_1 ?_
  refine Go.iload_n hx hb 2 rfl d_VM_goIf_4 ?_
  obtain ⟨r1, s1, q1, h⟩ := gb_some h
  refine Go.callVi S hK hA 1 (Xw_1 ad ca _) rfl (fun sz9 => m_Code_hasPlace l D ad ca N _ sz9 _ r1 s1 q1) (cwV 1 hts (gwV k_477 k_478 k_479 k_63 k_480) rfl rfl rfl (by decide +kernel) ⟨Nat.le_of_ble_eq_true rfl, Nat.le_of_ble_eq_true rfl⟩) rfl rfl (Nat.le_of_ble_eq_true rfl) ⟨Nat.zero_le _, Nat.zero_le _⟩ d_VM_goIf_5 ?_
  refine Go.if_ne (tgt := 14) hx hb d_VM_goIf_8 rfl (fun c8 => ?_) (fun c8 => ?_)
  · replace h := (if_neg c8).symm.trans h
    refine Go.iload_n hx hb 1 rfl d_VM_goIf_14 ?_
    refine Go.if_eq (tgt := 23) hx hb d_VM_goIf_15 rfl (fun c15 => ?_) (fun c15 => ?_)
    · replace h := (if_pos c15).symm.trans h
      refine Go.iconst (v := 0) hx hb (by decide) d_VM_goIf_23 ?_
      exact Go.iret hx hb hr hK hlk h d_VM_goIf_24
    · replace h := (if_neg c15).symm.trans h
      refine Go.aload_n hx hb 0 rfl d_VM_goIf_18 ?_
      refine Go.iload_n hx hb 2 rfl d_VM_goIf_19 ?_
      refine Go.put (ty := (.int)) hx hb hts in_VM ty_VM tyok_VM nm_VM hown hK 0 (Xw_0 ad ca _) rfl 9 (by decide) (hts _ k_179) (fun _ h9 => h9) rfl (by decide +kernel) rfl rfl (Nat.le_of_ble_eq_true rfl) (uI s1 8 a1) (Xs_I8 ad ca _ _) d_VM_goIf_20 ?_
      refine Go.iconst (v := 0) hx hb (by decide) d_VM_goIf_23 ?_
      exact Go.iret hx hb hr hK hlk h d_VM_goIf_24
  · replace h := (if_pos c8).symm.trans h
    refine Go.bipush (v := 8) hx hb (by decide) d_VM_goIf_11 ?_
    exact Go.iret hx hb hr hK hlk h d_VM_goIf_13
set_option maxHeartbeats 4000000 in
set_option maxRecDepth 100000 in
theorem m_Value_truth (l : Launch) (D : va_G) (ad : Nat → Nat) (ca : Nat → ClassId) (N : Nat) (st : SG) (sz : Nat) (a0 : Int32) (r : Int64) (u : SG) (h : fX_Value_truth N st a0 = some (r, u)) : Met l y_Value_truth (Cond.code y_Value_truth c_Value_truth 1 (some .long) :: tbl) ({ frames := 0, cells := 0, slots := 0, locals := 0 } : Room) (va_Pc [.int a0] (goPre (Xw ad ca) D vwCl (Xtys ca) sz st)) (va_Ql (fun r' u' => r' = r ∧ u' = u) (goPost (Xw ad ca) D vwCl (Xtys ca) (va_A (Xw ad ca st) sz)) (va_A (Xw ad ca st) sz)) 0 0 (va_A (Xw ad ca st) sz) := by
  refine go_met (Qc := fun A9 => va_Ql (fun r' u' => r' = r ∧ u' = u) (goPost (Xw ad ca) D vwCl (Xtys ca) A9) A9) (cc := c_Value_truth) (maxL := 1) (ret := (some .long)) [(0, .int a0)] (by decide) rfl (Nat.le_of_ble_eq_true rfl) rfl ?_
  intro p e s m below meth c A S hr hlk hK hA hsz
  obtain ⟨hx, hb, hml, hown, hts⟩ := id S
  unfold fX_Value_truth at h
  refine Go.iload_n hx hb 0 rfl d_Value_truth_0 ?_
  refine Go.if_eq (tgt := 10) hx hb d_Value_truth_1 rfl (fun c1 => ?_) (fun c1 => ?_)
  · replace h := (if_pos c1).symm.trans h
    refine Go.ldc2 (v := 4294967296) hx hb hown (hts _ k_489) d_Value_truth_10 ?_
    exact Go.lret hx hb hr hK hlk h d_Value_truth_13
  · replace h := (if_neg c1).symm.trans h
    refine Go.ldc2 (v := 8589934592) hx hb hown (hts _ k_488) d_Value_truth_4 ?_
    refine Go.goto (tgt := 13) hx hb d_Value_truth_7 rfl ?_
    exact Go.lret hx hb hr hK hlk h d_Value_truth_13
set_option maxHeartbeats 4000000 in
set_option maxRecDepth 100000 in
theorem m_VM_compareSame (l : Launch) (D : va_G) (ad : Nat → Nat) (ca : Nat → ClassId) (N : Nat) (st : SG) (sz : Nat) (r : Int32) (u : SG) (h : fX_ValueMachine_compareSame N st = some (r, u)) : Met l y_VM_compareSame (Cond.code y_VM_compareSame c_VM_compareSame 1 (some .int) :: tbl) ({ frames := 2, cells := 0, slots := 0, locals := 44 } : Room) (va_Pc [.ref (ad 0)] (goPre (Xw ad ca) D vwCl (Xtys ca) sz st)) (va_Qi (fun r' u' => r' = r ∧ u' = u) (goPost (Xw ad ca) D vwCl (Xtys ca) (va_A (Xw ad ca st) sz)) (va_A (Xw ad ca st) sz)) 0 0 (va_A (Xw ad ca st) sz) := by
  refine go_met (Qc := fun A9 => va_Qi (fun r' u' => r' = r ∧ u' = u) (goPost (Xw ad ca) D vwCl (Xtys ca) A9) A9) (cc := c_VM_compareSame) (maxL := 1) (ret := (some .int)) [(0, .ref (ad 0))] (by decide) rfl (Nat.le_of_ble_eq_true rfl) rfl ?_
  intro p e s m below meth c A S hr hlk hK hA hsz
  obtain ⟨hx, hb, hml, hown, hts⟩ := id S
  unfold fX_ValueMachine_compareSame at h
  refine Go.aload_n hx hb 0 rfl d_VM_compareSame_0 ?_
  refine Go.get (v := .ref (ad 4)) hx hb hts in_VM hown hK 0 (Xw_0 ad ca _) rfl 1 (by decide) (hts _ k_171) (fun _ h9 => h9) rfl d_VM_compareSame_1 ?_
  refine Go.iconst (v := 1) hx hb (by decide) d_VM_compareSame_4 ?_
  obtain ⟨r1, s1, q1, h⟩ := gb_some h
  refine Go.callVi S hK hA 4 (Xw_4 ad ca _) rfl (fun sz9 => m_ValueStack_holds l D ad ca N _ sz9 _ r1 s1 q1) (cwV 1 hts (gwV k_413 k_414 k_415 k_64 k_416) rfl rfl rfl (by decide +kernel) ⟨Nat.le_of_ble_eq_true rfl, Nat.le_of_ble_eq_true rfl⟩) rfl rfl (Nat.le_of_ble_eq_true rfl) ⟨Nat.zero_le _, Nat.zero_le _⟩ d_VM_compareSame_5 ?_
  refine Go.if_eq (tgt := 42) hx hb d_VM_compareSame_8 rfl (fun c8 => ?_) (fun c8 => ?_)
  · replace h := (if_pos c8).symm.trans h
    refine Go.iconst (v := 3) hx hb (by decide) d_VM_compareSame_42 ?_
    exact Go.iret hx hb hr hK hlk h d_VM_compareSame_43
  · replace h := (if_neg c8).symm.trans h
    refine Go.aload_n hx hb 0 rfl d_VM_compareSame_11 ?_
    refine Go.aload_n hx hb 0 rfl d_VM_compareSame_12 ?_
    refine Go.get (v := .ref (ad 4)) hx hb hts in_VM hown hK 0 (Xw_0 ad ca _) rfl 1 (by decide) (hts _ k_171) (fun _ h9 => h9) rfl d_VM_compareSame_13 ?_
    refine Go.iconst (v := 0) hx hb (by decide) d_VM_compareSame_16 ?_
    obtain ⟨r2, s2, q2, h⟩ := gb_some h
    refine Go.callVl S hK hA 4 (Xw_4 ad ca _) rfl (fun sz9 => m_ValueStack_at l D ad ca N _ sz9 _ r2 s2 q2) (cwV 1 hts (gwV k_242 k_243 k_244 k_64 k_245) rfl rfl rfl (by decide +kernel) ⟨Nat.le_of_ble_eq_true rfl, Nat.le_of_ble_eq_true rfl⟩) rfl rfl (Nat.le_of_ble_eq_true rfl) ⟨Nat.zero_le _, Nat.zero_le _⟩ d_VM_compareSame_17 ?_
    refine Go.aload_n hx hb 0 rfl d_VM_compareSame_20 ?_
    refine Go.get (v := .long (gL s2 0)) hx hb hts in_VM hown hK 0 (Xw_0 ad ca _) rfl 5 (by decide) (hts _ k_175) (fun _ h9 => h9) rfl d_VM_compareSame_21 ?_
    refine Go.lcmp_ne (tgt := 32) hx hb d_VM_compareSame_24 d_VM_compareSame_25 rfl (fun c24 => ?_) (fun c24 => ?_)
    · replace h := (if_neg c24).symm.trans h
      refine Go.iconst (v := 0) hx hb (by decide) d_VM_compareSame_32 ?_
      obtain ⟨r3, s3, q3, h⟩ := gb_some h
      refine Go.callSl S hK hA (fun sz9 => m_Value_truth l D ad ca N _ sz9 _ r3 s3 q3) (va_cwS 1 hts (gwS k_485 k_486 k_72 k_487) rfl rfl rfl (by decide +kernel) ⟨Nat.le_of_ble_eq_true rfl, Nat.le_of_ble_eq_true rfl⟩) rfl rfl (Nat.le_of_ble_eq_true rfl) ⟨Nat.zero_le _, Nat.zero_le _⟩ d_VM_compareSame_33 ?_
      obtain ⟨r4, s4, q4, h⟩ := gb_some h
      refine Go.callVi S hK hA 0 (Xw_0 ad ca _) rfl (fun sz9 => m_VM_acceptForTop l D ad ca N _ sz9 _ r4 s4 q4) (cwV 1 hts (gwV k_421 k_423 k_10 k_62 k_424) rfl rfl rfl (by decide +kernel) ⟨Nat.le_of_ble_eq_true rfl, Nat.le_of_ble_eq_true rfl⟩) rfl rfl (Nat.le_of_ble_eq_true rfl) ⟨Nat.zero_le _, Nat.zero_le _⟩ d_VM_compareSame_36 ?_
      refine Go.goto (tgt := 43) hx hb d_VM_compareSame_39 rfl ?_
      exact Go.iret hx hb hr hK hlk h d_VM_compareSame_43
    · replace h := (if_pos c24).symm.trans h
      refine Go.iconst (v := 1) hx hb (by decide) d_VM_compareSame_28 ?_
      refine Go.goto (tgt := 33) hx hb d_VM_compareSame_29 rfl ?_
      obtain ⟨r5, s5, q5, h⟩ := gb_some h
      refine Go.callSl S hK hA (fun sz9 => m_Value_truth l D ad ca N _ sz9 _ r5 s5 q5) (va_cwS 1 hts (gwS k_485 k_486 k_72 k_487) rfl rfl rfl (by decide +kernel) ⟨Nat.le_of_ble_eq_true rfl, Nat.le_of_ble_eq_true rfl⟩) rfl rfl (Nat.le_of_ble_eq_true rfl) ⟨Nat.zero_le _, Nat.zero_le _⟩ d_VM_compareSame_33 ?_
      obtain ⟨r6, s6, q6, h⟩ := gb_some h
      refine Go.callVi S hK hA 0 (Xw_0 ad ca _) rfl (fun sz9 => m_VM_acceptForTop l D ad ca N _ sz9 _ r6 s6 q6) (cwV 1 hts (gwV k_421 k_423 k_10 k_62 k_424) rfl rfl rfl (by decide +kernel) ⟨Nat.le_of_ble_eq_true rfl, Nat.le_of_ble_eq_true rfl⟩) rfl rfl (Nat.le_of_ble_eq_true rfl) ⟨Nat.zero_le _, Nat.zero_le _⟩ d_VM_compareSame_36 ?_
      refine Go.goto (tgt := 43) hx hb d_VM_compareSame_39 rfl ?_
      exact Go.iret hx hb hr hK hlk h d_VM_compareSame_43
set_option maxHeartbeats 4000000 in
set_option maxRecDepth 100000 in
theorem m_VM_integersFault (l : Launch) (D : va_G) (ad : Nat → Nat) (ca : Nat → ClassId) (N : Nat) (st : SG) (sz : Nat) (r : Int32) (u : SG) (h : fX_ValueMachine_integersFault N st = some (r, u)) : Met l y_VM_integersFault (Cond.code y_VM_integersFault c_VM_integersFault 2 (some .int) :: tbl) ({ frames := 1, cells := 0, slots := 0, locals := 21 } : Room) (va_Pc [.ref (ad 0)] (goPre (Xw ad ca) D vwCl (Xtys ca) sz st)) (va_Qi (fun r' u' => r' = r ∧ u' = u) (goPost (Xw ad ca) D vwCl (Xtys ca) (va_A (Xw ad ca st) sz)) (va_A (Xw ad ca st) sz)) 0 0 (va_A (Xw ad ca st) sz) := by
  refine go_met (Qc := fun A9 => va_Qi (fun r' u' => r' = r ∧ u' = u) (goPost (Xw ad ca) D vwCl (Xtys ca) A9) A9) (cc := c_VM_integersFault) (maxL := 2) (ret := (some .int)) [(0, .ref (ad 0))] (by decide) rfl (Nat.le_of_ble_eq_true rfl) rfl ?_
  intro p e s m below meth c A S hr hlk hK hA hsz
  obtain ⟨hx, hb, hml, hown, hts⟩ := id S
  unfold fX_ValueMachine_integersFault at h
  refine Go.aload_n hx hb 0 rfl d_VM_integersFault_0 ?_
  refine Go.get (v := .ref (ad 4)) hx hb hts in_VM hown hK 0 (Xw_0 ad ca _) rfl 1 (by decide) (hts _ k_171) (fun _ h9 => h9) rfl d_VM_integersFault_1 ?_
  refine Go.iconst (v := 1) hx hb (by decide) d_VM_integersFault_4 ?_
  obtain ⟨r1, s1, q1, h⟩ := gb_some h
  refine Go.callVi S hK hA 4 (Xw_4 ad ca _) rfl (fun sz9 => m_ValueStack_holds l D ad ca N _ sz9 _ r1 s1 q1) (cwV 1 hts (gwV k_413 k_414 k_415 k_64 k_416) rfl rfl rfl (by decide +kernel) ⟨Nat.le_of_ble_eq_true rfl, Nat.le_of_ble_eq_true rfl⟩) rfl rfl (Nat.le_of_ble_eq_true rfl) ⟨Nat.zero_le _, Nat.zero_le _⟩ d_VM_integersFault_5 ?_
  refine Go.if_ne (tgt := 13) hx hb d_VM_integersFault_8 rfl (fun c8 => ?_) (fun c8 => ?_)
  · replace h := (if_neg c8).symm.trans h
    refine Go.aload_n hx hb 0 rfl d_VM_integersFault_13 ?_
    refine Go.get (v := .ref (ad 4)) hx hb hts in_VM hown hK 0 (Xw_0 ad ca _) rfl 1 (by decide) (hts _ k_171) (fun _ h9 => h9) rfl d_VM_integersFault_14 ?_
    refine Go.iconst (v := 0) hx hb (by decide) d_VM_integersFault_17 ?_
    obtain ⟨r2, s2, q2, h⟩ := gb_some h
    refine Go.callVl S hK hA 4 (Xw_4 ad ca _) rfl (fun sz9 => m_ValueStack_at l D ad ca N _ sz9 _ r2 s2 q2) (cwV 1 hts (gwV k_242 k_243 k_244 k_64 k_245) rfl rfl rfl (by decide +kernel) ⟨Nat.le_of_ble_eq_true rfl, Nat.le_of_ble_eq_true rfl⟩) rfl rfl (Nat.le_of_ble_eq_true rfl) ⟨Nat.zero_le _, Nat.zero_le _⟩ d_VM_integersFault_18 ?_
    obtain ⟨r3, s3, q3, h⟩ := gb_some h
    refine Go.callSi S hK hA (fun sz9 => m_Value_sortOf l D ad ca N _ sz9 _ r3 s3 q3) (va_cwS 1 hts (gwS k_235 k_236 k_72 k_237) rfl rfl rfl (by decide +kernel) ⟨Nat.le_of_ble_eq_true rfl, Nat.le_of_ble_eq_true rfl⟩) rfl rfl (Nat.le_of_ble_eq_true rfl) ⟨Nat.zero_le _, Nat.zero_le _⟩ d_VM_integersFault_21 ?_
    refine Go.iconst (v := 3) hx hb (by decide) d_VM_integersFault_24 ?_
    refine Go.icmp_ne (tgt := 43) hx hb d_VM_integersFault_25 rfl (fun c25 => ?_) (fun c25 => ?_)
    · replace h := (if_neg c25).symm.trans h
      refine Go.iconst (v := 0) hx hb (by decide) d_VM_integersFault_43 ?_
      refine Go.istore_n (i := 1) (lv' := [(1, .int 0), (0, .ref (ad 0))]) hx hb rfl (Nat.le_of_ble_eq_true rfl) rfl d_VM_integersFault_44 ?_
      refine Go.iload_n hx hb 0 rfl d_VM_integersFault_45 ?_
      refine Go.if_eq (tgt := 53) hx hb d_VM_integersFault_46 rfl (fun _ => ?_) (fun z9 => absurd (by decide) z9)
      refine Go.iconst (v := 1) hx hb (by decide) d_VM_integersFault_53 ?_
      exact Go.iret hx hb hr hK hlk h d_VM_integersFault_54
    · replace h := (if_pos c25).symm.trans h
      refine Go.aload_n hx hb 0 rfl d_VM_integersFault_28 ?_
      refine Go.get (v := .long (gL s3 0)) hx hb hts in_VM hown hK 0 (Xw_0 ad ca _) rfl 5 (by decide) (hts _ k_175) (fun _ h9 => h9) rfl d_VM_integersFault_29 ?_
      obtain ⟨r4, s4, q4, h⟩ := gb_some h
      refine Go.callSi S hK hA (fun sz9 => m_Value_sortOf l D ad ca N _ sz9 _ r4 s4 q4) (va_cwS 1 hts (gwS k_235 k_236 k_72 k_237) rfl rfl rfl (by decide +kernel) ⟨Nat.le_of_ble_eq_true rfl, Nat.le_of_ble_eq_true rfl⟩) rfl rfl (Nat.le_of_ble_eq_true rfl) ⟨Nat.zero_le _, Nat.zero_le _⟩ d_VM_integersFault_32 ?_
      refine Go.iconst (v := 3) hx hb (by decide) d_VM_integersFault_35 ?_
      refine Go.icmp_ne (tgt := 43) hx hb d_VM_integersFault_36 rfl (fun c36 => ?_) (fun c36 => ?_)
      · replace h := (if_neg c36).symm.trans h
        refine Go.iconst (v := 0) hx hb (by decide) d_VM_integersFault_43 ?_
        refine Go.istore_n (i := 1) (lv' := [(1, .int 0), (0, .ref (ad 0))]) hx hb rfl (Nat.le_of_ble_eq_true rfl) rfl d_VM_integersFault_44 ?_
        refine Go.iload_n hx hb 0 rfl d_VM_integersFault_45 ?_
        refine Go.if_eq (tgt := 53) hx hb d_VM_integersFault_46 rfl (fun _ => ?_) (fun z9 => absurd (by decide) z9)
        refine Go.iconst (v := 1) hx hb (by decide) d_VM_integersFault_53 ?_
        exact Go.iret hx hb hr hK hlk h d_VM_integersFault_54
      · replace h := (if_pos c36).symm.trans h
        refine Go.iconst (v := 1) hx hb (by decide) d_VM_integersFault_39 ?_
        refine Go.goto (tgt := 44) hx hb d_VM_integersFault_40 rfl ?_
        refine Go.istore_n (i := 1) (lv' := [(1, .int 1), (0, .ref (ad 0))]) hx hb rfl (Nat.le_of_ble_eq_true rfl) rfl d_VM_integersFault_44 ?_
        refine Go.iload_n hx hb 0 rfl d_VM_integersFault_45 ?_
        refine Go.if_eq (tgt := 53) hx hb d_VM_integersFault_46 rfl (fun z9 => absurd z9 (by decide)) (fun _ => ?_)
        refine Go.iconst (v := 0) hx hb (by decide) d_VM_integersFault_49 ?_
        refine Go.goto (tgt := 54) hx hb d_VM_integersFault_50 rfl ?_
        exact Go.iret hx hb hr hK hlk h d_VM_integersFault_54
  · replace h := (if_pos c8).symm.trans h
    refine Go.iconst (v := 3) hx hb (by decide) d_VM_integersFault_11 ?_
    exact Go.iret hx hb hr hK hlk h d_VM_integersFault_12
set_option maxHeartbeats 4000000 in
set_option maxRecDepth 100000 in
theorem m_VM_compareLess (l : Launch) (D : va_G) (ad : Nat → Nat) (ca : Nat → ClassId) (N : Nat) (st : SG) (sz : Nat) (r : Int32) (u : SG) (h : fX_ValueMachine_compareLess N st = some (r, u)) : Met l y_VM_compareLess (Cond.code y_VM_compareLess c_VM_compareLess 2 (some .int) :: tbl) ({ frames := 2, cells := 0, slots := 0, locals := 44 } : Room) (va_Pc [.ref (ad 0)] (goPre (Xw ad ca) D vwCl (Xtys ca) sz st)) (va_Qi (fun r' u' => r' = r ∧ u' = u) (goPost (Xw ad ca) D vwCl (Xtys ca) (va_A (Xw ad ca st) sz)) (va_A (Xw ad ca st) sz)) 0 0 (va_A (Xw ad ca st) sz) := by
  refine go_met (Qc := fun A9 => va_Qi (fun r' u' => r' = r ∧ u' = u) (goPost (Xw ad ca) D vwCl (Xtys ca) A9) A9) (cc := c_VM_compareLess) (maxL := 2) (ret := (some .int)) [(0, .ref (ad 0))] (by decide) rfl (Nat.le_of_ble_eq_true rfl) rfl ?_
  intro p e s m below meth c A S hr hlk hK hA hsz
  obtain ⟨hx, hb, hml, hown, hts⟩ := id S
  unfold fX_ValueMachine_compareLess at h
  refine Go.aload_n hx hb 0 rfl d_VM_compareLess_0 ?_
  obtain ⟨r1, s1, q1, h⟩ := gb_some h
  refine Go.callVi S hK hA 0 (Xw_0 ad ca _) rfl (fun sz9 => m_VM_integersFault l D ad ca N _ sz9 r1 s1 q1) (cwV 0 hts (gwV k_494 k_496 k_21 k_62 k_497) rfl rfl rfl (by decide +kernel) ⟨Nat.le_of_ble_eq_true rfl, Nat.le_of_ble_eq_true rfl⟩) rfl rfl (Nat.le_of_ble_eq_true rfl) ⟨Nat.zero_le _, Nat.zero_le _⟩ d_VM_compareLess_1 ?_
  refine Go.istore_n (i := 1) (lv' := [(1, .int r1), (0, .ref (ad 0))]) hx hb rfl (Nat.le_of_ble_eq_true rfl) rfl d_VM_compareLess_4 ?_
  refine Go.iload_n hx hb 0 rfl d_VM_compareLess_5 ?_
  refine Go.if_eq (tgt := 11) hx hb d_VM_compareLess_6 rfl (fun c6 => ?_) (fun c6 => ?_)
  · replace h := (if_pos c6).symm.trans h
    refine Go.aload_n hx hb 1 rfl d_VM_compareLess_11 ?_
    refine Go.aload_n hx hb 1 rfl d_VM_compareLess_12 ?_
    refine Go.get (v := .ref (ad 4)) hx hb hts in_VM hown hK 0 (Xw_0 ad ca _) rfl 1 (by decide) (hts _ k_171) (fun _ h9 => h9) rfl d_VM_compareLess_13 ?_
    refine Go.iconst (v := 0) hx hb (by decide) d_VM_compareLess_16 ?_
    obtain ⟨r2, s2, q2, h⟩ := gb_some h
    refine Go.callVl S hK hA 4 (Xw_4 ad ca _) rfl (fun sz9 => m_ValueStack_at l D ad ca N _ sz9 _ r2 s2 q2) (cwV 1 hts (gwV k_242 k_243 k_244 k_64 k_245) rfl rfl rfl (by decide +kernel) ⟨Nat.le_of_ble_eq_true rfl, Nat.le_of_ble_eq_true rfl⟩) rfl rfl (Nat.le_of_ble_eq_true rfl) ⟨Nat.zero_le _, Nat.zero_le _⟩ d_VM_compareLess_17 ?_
    obtain ⟨r3, s3, q3, h⟩ := gb_some h
    refine Go.callSi S hK hA (fun sz9 => m_Value_numberOf l D ad ca N _ sz9 _ r3 s3 q3) (va_cwS 1 hts (gwS k_275 k_265 k_72 k_266) rfl rfl rfl (by decide +kernel) ⟨Nat.le_of_ble_eq_true rfl, Nat.le_of_ble_eq_true rfl⟩) rfl rfl (Nat.le_of_ble_eq_true rfl) ⟨Nat.zero_le _, Nat.zero_le _⟩ d_VM_compareLess_20 ?_
    refine Go.aload_n hx hb 1 rfl d_VM_compareLess_23 ?_
    refine Go.get (v := .long (gL s3 0)) hx hb hts in_VM hown hK 0 (Xw_0 ad ca _) rfl 5 (by decide) (hts _ k_175) (fun _ h9 => h9) rfl d_VM_compareLess_24 ?_
    obtain ⟨r4, s4, q4, h⟩ := gb_some h
    refine Go.callSi S hK hA (fun sz9 => m_Value_numberOf l D ad ca N _ sz9 _ r4 s4 q4) (va_cwS 1 hts (gwS k_275 k_265 k_72 k_266) rfl rfl rfl (by decide +kernel) ⟨Nat.le_of_ble_eq_true rfl, Nat.le_of_ble_eq_true rfl⟩) rfl rfl (Nat.le_of_ble_eq_true rfl) ⟨Nat.zero_le _, Nat.zero_le _⟩ d_VM_compareLess_27 ?_
    refine Go.icmp_ge (tgt := 37) hx hb d_VM_compareLess_30 rfl (fun c30 => ?_) (fun c30 => ?_)
    · replace h := (if_pos c30).symm.trans h
      refine Go.iconst (v := 0) hx hb (by decide) d_VM_compareLess_37 ?_
      obtain ⟨r5, s5, q5, h⟩ := gb_some h
      refine Go.callSl S hK hA (fun sz9 => m_Value_truth l D ad ca N _ sz9 _ r5 s5 q5) (va_cwS 1 hts (gwS k_485 k_486 k_72 k_487) rfl rfl rfl (by decide +kernel) ⟨Nat.le_of_ble_eq_true rfl, Nat.le_of_ble_eq_true rfl⟩) rfl rfl (Nat.le_of_ble_eq_true rfl) ⟨Nat.zero_le _, Nat.zero_le _⟩ d_VM_compareLess_38 ?_
      obtain ⟨r6, s6, q6, h⟩ := gb_some h
      refine Go.callVi S hK hA 0 (Xw_0 ad ca _) rfl (fun sz9 => m_VM_acceptForTop l D ad ca N _ sz9 _ r6 s6 q6) (cwV 1 hts (gwV k_421 k_423 k_10 k_62 k_424) rfl rfl rfl (by decide +kernel) ⟨Nat.le_of_ble_eq_true rfl, Nat.le_of_ble_eq_true rfl⟩) rfl rfl (Nat.le_of_ble_eq_true rfl) ⟨Nat.zero_le _, Nat.zero_le _⟩ d_VM_compareLess_41 ?_
      exact Go.iret hx hb hr hK hlk h d_VM_compareLess_44
    · replace h := (if_neg c30).symm.trans h
      refine Go.iconst (v := 1) hx hb (by decide) d_VM_compareLess_33 ?_
      refine Go.goto (tgt := 38) hx hb d_VM_compareLess_34 rfl ?_
      obtain ⟨r7, s7, q7, h⟩ := gb_some h
      refine Go.callSl S hK hA (fun sz9 => m_Value_truth l D ad ca N _ sz9 _ r7 s7 q7) (va_cwS 1 hts (gwS k_485 k_486 k_72 k_487) rfl rfl rfl (by decide +kernel) ⟨Nat.le_of_ble_eq_true rfl, Nat.le_of_ble_eq_true rfl⟩) rfl rfl (Nat.le_of_ble_eq_true rfl) ⟨Nat.zero_le _, Nat.zero_le _⟩ d_VM_compareLess_38 ?_
      obtain ⟨r8, s8, q8, h⟩ := gb_some h
      refine Go.callVi S hK hA 0 (Xw_0 ad ca _) rfl (fun sz9 => m_VM_acceptForTop l D ad ca N _ sz9 _ r8 s8 q8) (cwV 1 hts (gwV k_421 k_423 k_10 k_62 k_424) rfl rfl rfl (by decide +kernel) ⟨Nat.le_of_ble_eq_true rfl, Nat.le_of_ble_eq_true rfl⟩) rfl rfl (Nat.le_of_ble_eq_true rfl) ⟨Nat.zero_le _, Nat.zero_le _⟩ d_VM_compareLess_41 ?_
      exact Go.iret hx hb hr hK hlk h d_VM_compareLess_44
  · replace h := (if_neg c6).symm.trans h
    refine Go.iload_n hx hb 0 rfl d_VM_compareLess_9 ?_
    exact Go.iret hx hb hr hK hlk h d_VM_compareLess_10
set_option maxHeartbeats 4000000 in
set_option maxRecDepth 100000 in
theorem m_VM_calculate (l : Launch) (D : va_G) (ad : Nat → Nat) (ca : Nat → ClassId) (N : Nat) (st : SG) (sz : Nat) (a0 : Int32) (r : Int32) (u : SG) (h : fX_ValueMachine_calculate N st a0 = some (r, u)) : Met l y_VM_calculate (Cond.code y_VM_calculate c_VM_calculate 5 (some .int) :: tbl) ({ frames := 2, cells := 0, slots := 0, locals := 44 } : Room) (va_Pc [.ref (ad 0), .int a0] (goPre (Xw ad ca) D vwCl (Xtys ca) sz st)) (va_Qi (fun r' u' => r' = r ∧ u' = u) (goPost (Xw ad ca) D vwCl (Xtys ca) (va_A (Xw ad ca st) sz)) (va_A (Xw ad ca st) sz)) 0 0 (va_A (Xw ad ca st) sz) := by
  refine go_met (Qc := fun A9 => va_Qi (fun r' u' => r' = r ∧ u' = u) (goPost (Xw ad ca) D vwCl (Xtys ca) A9) A9) (cc := c_VM_calculate) (maxL := 5) (ret := (some .int)) [(0, .ref (ad 0)), (1, .int a0)] (by decide) rfl (Nat.le_of_ble_eq_true rfl) rfl ?_
  intro p e s m below meth c A S hr hlk hK hA hsz
  obtain ⟨hx, hb, hml, hown, hts⟩ := id S
  unfold fX_ValueMachine_calculate at h
  refine Go.aload_n hx hb 0 rfl d_VM_calculate_0 ?_
  obtain ⟨r1, s1, q1, h⟩ := gb_some h
  refine Go.callVi S hK hA 0 (Xw_0 ad ca _) rfl (fun sz9 => m_VM_integersFault l D ad ca N _ sz9 r1 s1 q1) (cwV 0 hts (gwV k_494 k_496 k_21 k_62 k_497) rfl rfl rfl (by decide +kernel) ⟨Nat.le_of_ble_eq_true rfl, Nat.le_of_ble_eq_true rfl⟩) rfl rfl (Nat.le_of_ble_eq_true rfl) ⟨Nat.zero_le _, Nat.zero_le _⟩ d_VM_calculate_1 ?_
  refine Go.istore_n (i := 2) (lv' := [(2, .int r1), (0, .ref (ad 0)), (1, .int a0)]) hx hb rfl (Nat.le_of_ble_eq_true rfl) rfl d_VM_calculate_4 ?_
  refine Go.iload_n hx hb 0 rfl d_VM_calculate_5 ?_
  refine Go.if_eq (tgt := 11) hx hb d_VM_calculate_6 rfl (fun c6 => ?_) (fun c6 => ?_)
  · replace h := (if_pos c6).symm.trans h
    refine Go.aload_n hx hb 1 rfl d_VM_calculate_11 ?_
    refine Go.get (v := .ref (ad 4)) hx hb hts in_VM hown hK 0 (Xw_0 ad ca _) rfl 1 (by decide) (hts _ k_171) (fun _ h9 => h9) rfl d_VM_calculate_12 ?_
    refine Go.iconst (v := 0) hx hb (by decide) d_VM_calculate_15 ?_
    obtain ⟨r2, s2, q2, h⟩ := gb_some h
    refine Go.callVl S hK hA 4 (Xw_4 ad ca _) rfl (fun sz9 => m_ValueStack_at l D ad ca N _ sz9 _ r2 s2 q2) (cwV 1 hts (gwV k_242 k_243 k_244 k_64 k_245) rfl rfl rfl (by decide +kernel) ⟨Nat.le_of_ble_eq_true rfl, Nat.le_of_ble_eq_true rfl⟩) rfl rfl (Nat.le_of_ble_eq_true rfl) ⟨Nat.zero_le _, Nat.zero_le _⟩ d_VM_calculate_16 ?_
    obtain ⟨r3, s3, q3, h⟩ := gb_some h
    refine Go.callSi S hK hA (fun sz9 => m_Value_numberOf l D ad ca N _ sz9 _ r3 s3 q3) (va_cwS 1 hts (gwS k_275 k_265 k_72 k_266) rfl rfl rfl (by decide +kernel) ⟨Nat.le_of_ble_eq_true rfl, Nat.le_of_ble_eq_true rfl⟩) rfl rfl (Nat.le_of_ble_eq_true rfl) ⟨Nat.zero_le _, Nat.zero_le _⟩ d_VM_calculate_19 ?_
    refine Go.istore_n (i := 3) (lv' := [(3, .int r3), (2, .int r1), (0, .ref (ad 0)), (1, .int a0)]) hx hb rfl (Nat.le_of_ble_eq_true rfl) rfl d_VM_calculate_22 ?_
    refine Go.aload_n hx hb 2 rfl d_VM_calculate_23 ?_
    refine Go.get (v := .long (gL s3 0)) hx hb hts in_VM hown hK 0 (Xw_0 ad ca _) rfl 5 (by decide) (hts _ k_175) (fun _ h9 => h9) rfl d_VM_calculate_24 ?_
    obtain ⟨r4, s4, q4, h⟩ := gb_some h
    refine Go.callSi S hK hA (fun sz9 => m_Value_numberOf l D ad ca N _ sz9 _ r4 s4 q4) (va_cwS 1 hts (gwS k_275 k_265 k_72 k_266) rfl rfl rfl (by decide +kernel) ⟨Nat.le_of_ble_eq_true rfl, Nat.le_of_ble_eq_true rfl⟩) rfl rfl (Nat.le_of_ble_eq_true rfl) ⟨Nat.zero_le _, Nat.zero_le _⟩ d_VM_calculate_27 ?_
    refine Go.istore (i := 4) (lv' := [(4, .int r4), (3, .int r3), (2, .int r1), (0, .ref (ad 0)), (1, .int a0)]) hx hb (Nat.le_of_ble_eq_true rfl) rfl d_VM_calculate_30 ?_
    refine Go.iload_n hx hb 4 rfl d_VM_calculate_32 ?_
    by_cases c33_0 : a0 = 20
    · replace h := (if_pos c33_0).symm.trans h
      refine Go.lsw (tgt := 60) (off := 27) hx hb d_VM_calculate_33 (by decide) (by rw [c33_0]; decide) rfl ?_
      refine Go.aload_n hx hb 3 rfl d_VM_calculate_60 ?_
      refine Go.iload_n hx hb 1 rfl d_VM_calculate_61 ?_
      refine Go.iload hx hb 0 rfl d_VM_calculate_62 ?_
      refine Go.iadd hx hb d_VM_calculate_64 ?_
      obtain ⟨r5, s5, q5, h⟩ := gb_some h
      refine Go.callSl S hK hA (fun sz9 => m_Value_integer l D ad ca N _ sz9 _ r5 s5 q5) (va_cwS 1 hts (gwS k_390 k_391 k_72 k_392) rfl rfl rfl (by decide +kernel) ⟨Nat.le_of_ble_eq_true rfl, Nat.le_of_ble_eq_true rfl⟩) rfl rfl (Nat.le_of_ble_eq_true rfl) ⟨Nat.zero_le _, Nat.zero_le _⟩ d_VM_calculate_65 ?_
      obtain ⟨r6, s6, q6, h⟩ := gb_some h
      refine Go.callVi S hK hA 0 (Xw_0 ad ca _) rfl (fun sz9 => m_VM_acceptForTop l D ad ca N _ sz9 _ r6 s6 q6) (cwV 1 hts (gwV k_421 k_423 k_10 k_62 k_424) rfl rfl rfl (by decide +kernel) ⟨Nat.le_of_ble_eq_true rfl, Nat.le_of_ble_eq_true rfl⟩) rfl rfl (Nat.le_of_ble_eq_true rfl) ⟨Nat.zero_le _, Nat.zero_le _⟩ d_VM_calculate_68 ?_
      exact Go.iret hx hb hr hK hlk h d_VM_calculate_71
    replace h := (if_neg c33_0).symm.trans h
    by_cases c33_1 : a0 = 21
    · replace h := (if_pos c33_1).symm.trans h
      refine Go.lsw (tgt := 72) (off := 39) hx hb d_VM_calculate_33 (by decide) ((lv_osw c33_0 (by decide)).trans (by rw [c33_1]; decide)) rfl ?_
      refine Go.aload_n hx hb 3 rfl d_VM_calculate_72 ?_
      refine Go.iload_n hx hb 1 rfl d_VM_calculate_73 ?_
      refine Go.iload hx hb 0 rfl d_VM_calculate_74 ?_
      refine Go.isub hx hb d_VM_calculate_76 ?_
      obtain ⟨r7, s7, q7, h⟩ := gb_some h
      refine Go.callSl S hK hA (fun sz9 => m_Value_integer l D ad ca N _ sz9 _ r7 s7 q7) (va_cwS 1 hts (gwS k_390 k_391 k_72 k_392) rfl rfl rfl (by decide +kernel) ⟨Nat.le_of_ble_eq_true rfl, Nat.le_of_ble_eq_true rfl⟩) rfl rfl (Nat.le_of_ble_eq_true rfl) ⟨Nat.zero_le _, Nat.zero_le _⟩ d_VM_calculate_77 ?_
      obtain ⟨r8, s8, q8, h⟩ := gb_some h
      refine Go.callVi S hK hA 0 (Xw_0 ad ca _) rfl (fun sz9 => m_VM_acceptForTop l D ad ca N _ sz9 _ r8 s8 q8) (cwV 1 hts (gwV k_421 k_423 k_10 k_62 k_424) rfl rfl rfl (by decide +kernel) ⟨Nat.le_of_ble_eq_true rfl, Nat.le_of_ble_eq_true rfl⟩) rfl rfl (Nat.le_of_ble_eq_true rfl) ⟨Nat.zero_le _, Nat.zero_le _⟩ d_VM_calculate_80 ?_
      exact Go.iret hx hb hr hK hlk h d_VM_calculate_83
    replace h := (if_neg c33_1).symm.trans h
    refine Go.lsw (tgt := 84) (off := 51) hx hb d_VM_calculate_33 (by decide) ((lv_osw c33_0 (by decide)).trans ((lv_osw c33_1 (by decide)).trans (rfl))) rfl ?_
    refine Go.aload_n hx hb 3 rfl d_VM_calculate_84 ?_
    refine Go.iload_n hx hb 1 rfl d_VM_calculate_85 ?_
    refine Go.iload hx hb 0 rfl d_VM_calculate_86 ?_
    refine Go.imul hx hb d_VM_calculate_88 ?_
    obtain ⟨r9, s9, q9, h⟩ := gb_some h
    refine Go.callSl S hK hA (fun sz9 => m_Value_integer l D ad ca N _ sz9 _ r9 s9 q9) (va_cwS 1 hts (gwS k_390 k_391 k_72 k_392) rfl rfl rfl (by decide +kernel) ⟨Nat.le_of_ble_eq_true rfl, Nat.le_of_ble_eq_true rfl⟩) rfl rfl (Nat.le_of_ble_eq_true rfl) ⟨Nat.zero_le _, Nat.zero_le _⟩ d_VM_calculate_89 ?_
    obtain ⟨r10, s10, q10, h⟩ := gb_some h
    refine Go.callVi S hK hA 0 (Xw_0 ad ca _) rfl (fun sz9 => m_VM_acceptForTop l D ad ca N _ sz9 _ r10 s10 q10) (cwV 1 hts (gwV k_421 k_423 k_10 k_62 k_424) rfl rfl rfl (by decide +kernel) ⟨Nat.le_of_ble_eq_true rfl, Nat.le_of_ble_eq_true rfl⟩) rfl rfl (Nat.le_of_ble_eq_true rfl) ⟨Nat.zero_le _, Nat.zero_le _⟩ d_VM_calculate_92 ?_
    exact Go.iret hx hb hr hK hlk h d_VM_calculate_95
  · replace h := (if_neg c6).symm.trans h
    refine Go.iload_n hx hb 0 rfl d_VM_calculate_9 ?_
    exact Go.iret hx hb hr hK hlk h d_VM_calculate_10
set_option maxHeartbeats 4000000 in
set_option maxRecDepth 100000 in
theorem m_VM_divide (l : Launch) (D : va_G) (ad : Nat → Nat) (ca : Nat → ClassId) (N : Nat) (st : SG) (sz : Nat) (a0 : Int32) (r : Int32) (u : SG) (h : fX_ValueMachine_divide N st a0 = some (r, u)) : Met l y_VM_divide (Cond.code y_VM_divide c_VM_divide 5 (some .int) :: tbl) ({ frames := 2, cells := 0, slots := 0, locals := 44 } : Room) (va_Pc [.ref (ad 0), .int a0] (goPre (Xw ad ca) D vwCl (Xtys ca) sz st)) (va_Qi (fun r' u' => r' = r ∧ u' = u) (goPost (Xw ad ca) D vwCl (Xtys ca) (va_A (Xw ad ca st) sz)) (va_A (Xw ad ca st) sz)) 0 0 (va_A (Xw ad ca st) sz) := by
  refine go_met (Qc := fun A9 => va_Qi (fun r' u' => r' = r ∧ u' = u) (goPost (Xw ad ca) D vwCl (Xtys ca) A9) A9) (cc := c_VM_divide) (maxL := 5) (ret := (some .int)) [(0, .ref (ad 0)), (1, .int a0)] (by decide) rfl (Nat.le_of_ble_eq_true rfl) rfl ?_
  intro p e s m below meth c A S hr hlk hK hA hsz
  obtain ⟨hx, hb, hml, hown, hts⟩ := id S
  unfold fX_ValueMachine_divide at h
  refine Go.aload_n hx hb 0 rfl d_VM_divide_0 ?_
  obtain ⟨r1, s1, q1, h⟩ := gb_some h
  refine Go.callVi S hK hA 0 (Xw_0 ad ca _) rfl (fun sz9 => m_VM_integersFault l D ad ca N _ sz9 r1 s1 q1) (cwV 0 hts (gwV k_494 k_496 k_21 k_62 k_497) rfl rfl rfl (by decide +kernel) ⟨Nat.le_of_ble_eq_true rfl, Nat.le_of_ble_eq_true rfl⟩) rfl rfl (Nat.le_of_ble_eq_true rfl) ⟨Nat.zero_le _, Nat.zero_le _⟩ d_VM_divide_1 ?_
  refine Go.istore_n (i := 2) (lv' := [(2, .int r1), (0, .ref (ad 0)), (1, .int a0)]) hx hb rfl (Nat.le_of_ble_eq_true rfl) rfl d_VM_divide_4 ?_
  refine Go.iload_n hx hb 0 rfl d_VM_divide_5 ?_
  refine Go.if_eq (tgt := 11) hx hb d_VM_divide_6 rfl (fun c6 => ?_) (fun c6 => ?_)
  · replace h := (if_pos c6).symm.trans h
    refine Go.aload_n hx hb 1 rfl d_VM_divide_11 ?_
    refine Go.get (v := .ref (ad 4)) hx hb hts in_VM hown hK 0 (Xw_0 ad ca _) rfl 1 (by decide) (hts _ k_171) (fun _ h9 => h9) rfl d_VM_divide_12 ?_
    refine Go.iconst (v := 0) hx hb (by decide) d_VM_divide_15 ?_
    obtain ⟨r2, s2, q2, h⟩ := gb_some h
    refine Go.callVl S hK hA 4 (Xw_4 ad ca _) rfl (fun sz9 => m_ValueStack_at l D ad ca N _ sz9 _ r2 s2 q2) (cwV 1 hts (gwV k_242 k_243 k_244 k_64 k_245) rfl rfl rfl (by decide +kernel) ⟨Nat.le_of_ble_eq_true rfl, Nat.le_of_ble_eq_true rfl⟩) rfl rfl (Nat.le_of_ble_eq_true rfl) ⟨Nat.zero_le _, Nat.zero_le _⟩ d_VM_divide_16 ?_
    obtain ⟨r3, s3, q3, h⟩ := gb_some h
    refine Go.callSi S hK hA (fun sz9 => m_Value_numberOf l D ad ca N _ sz9 _ r3 s3 q3) (va_cwS 1 hts (gwS k_275 k_265 k_72 k_266) rfl rfl rfl (by decide +kernel) ⟨Nat.le_of_ble_eq_true rfl, Nat.le_of_ble_eq_true rfl⟩) rfl rfl (Nat.le_of_ble_eq_true rfl) ⟨Nat.zero_le _, Nat.zero_le _⟩ d_VM_divide_19 ?_
    refine Go.istore_n (i := 3) (lv' := [(3, .int r3), (2, .int r1), (0, .ref (ad 0)), (1, .int a0)]) hx hb rfl (Nat.le_of_ble_eq_true rfl) rfl d_VM_divide_22 ?_
    refine Go.aload_n hx hb 2 rfl d_VM_divide_23 ?_
    refine Go.get (v := .long (gL s3 0)) hx hb hts in_VM hown hK 0 (Xw_0 ad ca _) rfl 5 (by decide) (hts _ k_175) (fun _ h9 => h9) rfl d_VM_divide_24 ?_
    obtain ⟨r4, s4, q4, h⟩ := gb_some h
    refine Go.callSi S hK hA (fun sz9 => m_Value_numberOf l D ad ca N _ sz9 _ r4 s4 q4) (va_cwS 1 hts (gwS k_275 k_265 k_72 k_266) rfl rfl rfl (by decide +kernel) ⟨Nat.le_of_ble_eq_true rfl, Nat.le_of_ble_eq_true rfl⟩) rfl rfl (Nat.le_of_ble_eq_true rfl) ⟨Nat.zero_le _, Nat.zero_le _⟩ d_VM_divide_27 ?_
    refine Go.istore (i := 4) (lv' := [(4, .int r4), (3, .int r3), (2, .int r1), (0, .ref (ad 0)), (1, .int a0)]) hx hb (Nat.le_of_ble_eq_true rfl) rfl d_VM_divide_30 ?_
    refine Go.iload hx hb 0 rfl d_VM_divide_32 ?_
    refine Go.if_ne (tgt := 39) hx hb d_VM_divide_34 rfl (fun c34 => ?_) (fun c34 => ?_)
    · replace h := (if_neg c34).symm.trans h
      refine Go.aload_n hx hb 3 rfl d_VM_divide_39 ?_
      refine Go.iload_n hx hb 4 rfl d_VM_divide_40 ?_
      refine Go.bipush (v := 23) hx hb (by decide) d_VM_divide_41 ?_
      refine Go.icmp_ne (tgt := 53) hx hb d_VM_divide_43 rfl (fun c43 => ?_) (fun c43 => ?_)
      · replace h := (if_neg c43).symm.trans h
        refine Go.iload_n hx hb 1 rfl d_VM_divide_53 ?_
        refine Go.iload hx hb 0 rfl d_VM_divide_54 ?_
        obtain ⟨c56, h⟩ := gg_some h
        refine Go.irem hx hb c56 d_VM_divide_56 ?_
        obtain ⟨r5, s5, q5, h⟩ := gb_some h
        refine Go.callSl S hK hA (fun sz9 => m_Value_integer l D ad ca N _ sz9 _ r5 s5 q5) (va_cwS 1 hts (gwS k_390 k_391 k_72 k_392) rfl rfl rfl (by decide +kernel) ⟨Nat.le_of_ble_eq_true rfl, Nat.le_of_ble_eq_true rfl⟩) rfl rfl (Nat.le_of_ble_eq_true rfl) ⟨Nat.zero_le _, Nat.zero_le _⟩ d_VM_divide_57 ?_
        obtain ⟨r6, s6, q6, h⟩ := gb_some h
        refine Go.callVi S hK hA 0 (Xw_0 ad ca _) rfl (fun sz9 => m_VM_acceptForTop l D ad ca N _ sz9 _ r6 s6 q6) (cwV 1 hts (gwV k_421 k_423 k_10 k_62 k_424) rfl rfl rfl (by decide +kernel) ⟨Nat.le_of_ble_eq_true rfl, Nat.le_of_ble_eq_true rfl⟩) rfl rfl (Nat.le_of_ble_eq_true rfl) ⟨Nat.zero_le _, Nat.zero_le _⟩ d_VM_divide_60 ?_
        exact Go.iret hx hb hr hK hlk h d_VM_divide_63
      · replace h := (if_pos c43).symm.trans h
        refine Go.iload_n hx hb 1 rfl d_VM_divide_46 ?_
        refine Go.iload hx hb 0 rfl d_VM_divide_47 ?_
        obtain ⟨c49, h⟩ := gg_some h
        refine Go.idiv hx hb c49 d_VM_divide_49 ?_
        refine Go.goto (tgt := 57) hx hb d_VM_divide_50 rfl ?_
        obtain ⟨r7, s7, q7, h⟩ := gb_some h
        refine Go.callSl S hK hA (fun sz9 => m_Value_integer l D ad ca N _ sz9 _ r7 s7 q7) (va_cwS 1 hts (gwS k_390 k_391 k_72 k_392) rfl rfl rfl (by decide +kernel) ⟨Nat.le_of_ble_eq_true rfl, Nat.le_of_ble_eq_true rfl⟩) rfl rfl (Nat.le_of_ble_eq_true rfl) ⟨Nat.zero_le _, Nat.zero_le _⟩ d_VM_divide_57 ?_
        obtain ⟨r8, s8, q8, h⟩ := gb_some h
        refine Go.callVi S hK hA 0 (Xw_0 ad ca _) rfl (fun sz9 => m_VM_acceptForTop l D ad ca N _ sz9 _ r8 s8 q8) (cwV 1 hts (gwV k_421 k_423 k_10 k_62 k_424) rfl rfl rfl (by decide +kernel) ⟨Nat.le_of_ble_eq_true rfl, Nat.le_of_ble_eq_true rfl⟩) rfl rfl (Nat.le_of_ble_eq_true rfl) ⟨Nat.zero_le _, Nat.zero_le _⟩ d_VM_divide_60 ?_
        exact Go.iret hx hb hr hK hlk h d_VM_divide_63
    · replace h := (if_pos c34).symm.trans h
      refine Go.iconst (v := 5) hx hb (by decide) d_VM_divide_37 ?_
      exact Go.iret hx hb hr hK hlk h d_VM_divide_38
  · replace h := (if_neg c6).symm.trans h
    refine Go.iload_n hx hb 0 rfl d_VM_divide_9 ?_
    exact Go.iret hx hb hr hK hlk h d_VM_divide_10
set_option maxHeartbeats 4000000 in
set_option maxRecDepth 100000 in
theorem m_Store_isFull (l : Launch) (D : va_G) (ad : Nat → Nat) (ca : Nat → ClassId) (N : Nat) (st : SG) (sz : Nat) (r : Int32) (u : SG) (h : fX_Store_isFull N st = some (r, u)) : Met l y_Store_isFull (Cond.code y_Store_isFull c_Store_isFull 1 (some .boolean) :: tbl) ({ frames := 0, cells := 0, slots := 0, locals := 0 } : Room) (va_Pc [.ref (ad 9)] (goPre (Xw ad ca) D vwCl (Xtys ca) sz st)) (va_Qi (fun r' u' => r' = r ∧ u' = u) (goPost (Xw ad ca) D vwCl (Xtys ca) (va_A (Xw ad ca st) sz)) (va_A (Xw ad ca st) sz)) 0 0 (va_A (Xw ad ca st) sz) := by
  refine go_met (Qc := fun A9 => va_Qi (fun r' u' => r' = r ∧ u' = u) (goPost (Xw ad ca) D vwCl (Xtys ca) A9) A9) (cc := c_Store_isFull) (maxL := 1) (ret := (some .boolean)) [(0, .ref (ad 9))] (by decide) rfl (Nat.le_of_ble_eq_true rfl) rfl ?_
  intro p e s m below meth c A S hr hlk hK hA hsz
  obtain ⟨hx, hb, hml, hown, hts⟩ := id S
  unfold fX_Store_isFull at h
  refine Go.aload_n hx hb 0 rfl d_Store_isFull_0 ?_
  refine Go.get (v := .int (gI st 4)) hx hb hts in_Store hown hK 9 (Xw_9 ad ca _) rfl 6 (by decide) (hts _ k_144) (fun _ h9 => h9) rfl d_Store_isFull_1 ?_
  refine Go.bipush (v := 30) hx hb (by decide) d_Store_isFull_4 ?_
  refine Go.icmp_lt (tgt := 13) hx hb d_Store_isFull_6 rfl (fun c6 => ?_) (fun c6 => ?_)
  · replace h := (if_pos c6).symm.trans h
    refine Go.iconst (v := 0) hx hb (by decide) d_Store_isFull_13 ?_
    exact Go.zret hx hb hr hK hlk rfl h d_Store_isFull_14
  · replace h := (if_neg c6).symm.trans h
    refine Go.iconst (v := 1) hx hb (by decide) d_Store_isFull_9 ?_
    refine Go.goto (tgt := 14) hx hb d_Store_isFull_10 rfl ?_
    exact Go.zret hx hb hr hK hlk rfl h d_Store_isFull_14
set_option maxHeartbeats 4000000 in
set_option maxRecDepth 100000 in
theorem m_Store_beginSweep (l : Launch) (D : va_G) (ad : Nat → Nat) (ca : Nat → ClassId) (N : Nat) (st : SG) (sz : Nat) (r : Unit) (u : SG) (h : fX_Store_beginSweep N st = some (r, u)) : Met l y_Store_beginSweep (Cond.code y_Store_beginSweep c_Store_beginSweep 2 none :: tbl) ({ frames := 0, cells := 0, slots := 0, locals := 0 } : Room) (va_Pc [.ref (ad 9)] (goPre (Xw ad ca) D vwCl (Xtys ca) sz st)) (va_Qv (fun u' => u' = u) (goPost (Xw ad ca) D vwCl (Xtys ca) (va_A (Xw ad ca st) sz)) (va_A (Xw ad ca st) sz)) 0 0 (va_A (Xw ad ca st) sz) := by
  refine go_met (Qc := fun A9 => va_Qv (fun u' => u' = u) (goPost (Xw ad ca) D vwCl (Xtys ca) A9) A9) (cc := c_Store_beginSweep) (maxL := 2) (ret := none) [(0, .ref (ad 9))] (by decide) rfl (Nat.le_of_ble_eq_true rfl) rfl ?_
  intro p e s m below meth c A S hr hlk hK hA hsz
  obtain ⟨hx, hb, hml, hown, hts⟩ := id S
  unfold fX_Store_beginSweep at h
  have L17 : ∀ (n : Nat) (v1 : Int32) (st : SG), fX_Store_beginSweep_L17 N n v1 st = some (r, u) → Go (Xw ad ca) D vwCl A s.heap 2 p l e ({ frames := 0, cells := 0, slots := 0, locals := 0 } : Room) s m ([.ref (ad 9)] : List Value).toArray below meth c 0 0 (MQ below (va_Qv (fun u' => u' = u) (goPost (Xw ad ca) D vwCl (Xtys ca) A) A) ([.ref (ad 9)] : List Value).toArray s 0 0 A) 17 [(0, .ref (ad 9)), (1, .int v1)] [] st := by
    intro n
    induction n with
    | zero => intro v1 st h; cases h
    | succ n ih =>
      intro v1 st h
      unfold fX_Store_beginSweep_L17 at h
      refine Go.iload_n hx hb 1 rfl d_Store_beginSweep_17 ?_
      refine Go.bipush (v := 30) hx hb (by decide) d_Store_beginSweep_18 ?_
      refine Go.icmp_ge (tgt := 36) hx hb d_Store_beginSweep_20 rfl (fun c20 => ?_) (fun c20 => ?_)
      · replace h := (if_pos c20).symm.trans h
        exact Go.vret hx hb hr hK hlk h d_Store_beginSweep_36
      · replace h := (if_neg c20).symm.trans h
        refine Go.aload_n hx hb 0 rfl d_Store_beginSweep_23 ?_
        refine Go.get (v := .ref (ad 13)) hx hb hts in_Store hown hK 9 (Xw_9 ad ca _) rfl 3 (by decide) (hts _ k_141) (fun _ h9 => h9) rfl d_Store_beginSweep_24 ?_
        refine Go.iload_n hx hb 1 rfl d_Store_beginSweep_27 ?_
        refine Go.iconst (v := 0) hx hb (by decide) d_Store_beginSweep_28 ?_
        obtain ⟨c29, h⟩ := gg_some h
        refine Go.zast hx hb hK 13 8 (Xw_13 ad ca _) rfl c29 (uA st 6 (upd (gA st 6) v1.toNatClampNeg (vp_nar .boolean 0))) (Xs_A6 ad ca _ _) d_Store_beginSweep_29 ?_
        refine Go.iinc (v := v1 + 1) (lv' := [(1, .int (v1 + 1)), (0, .ref (ad 9))]) hx hb 1 rfl rfl (Nat.le_of_ble_eq_true rfl) rfl d_Store_beginSweep_30 ?_
        refine Go.goto (tgt := 17) hx hb d_Store_beginSweep_33 rfl ?_
        refine Go.sub [1, 0] rfl ?_
        exact ih _ _ h
  refine Go.aload_n hx hb 0 rfl d_Store_beginSweep_0 ?_
  refine Go.dup hx hb rfl d_Store_beginSweep_1 ?_
  refine Go.get (v := .int (gI st 6)) hx hb hts in_Store hown hK 9 (Xw_9 ad ca _) rfl 8 (by decide) (hts _ k_148) (fun _ h9 => h9) rfl d_Store_beginSweep_2 ?_
  refine Go.iconst (v := 1) hx hb (by decide) d_Store_beginSweep_5 ?_
  refine Go.iadd hx hb d_Store_beginSweep_6 ?_
  refine Go.put (ty := (.int)) hx hb hts in_Store ty_Store tyok_Store nm_Store hown hK 9 (Xw_9 ad ca _) rfl 8 (by decide) (hts _ k_148) (fun _ h9 => h9) rfl (by decide +kernel) rfl rfl (Nat.le_of_ble_eq_true rfl) (uI st 6 ((gI st 6) + 1)) (Xs_I6 ad ca _ _) d_Store_beginSweep_7 ?_
  refine Go.aload_n hx hb 0 rfl d_Store_beginSweep_10 ?_
  refine Go.iconst (v := 0) hx hb (by decide) d_Store_beginSweep_11 ?_
  refine Go.put (ty := (.int)) hx hb hts in_Store ty_Store tyok_Store nm_Store hown hK 9 (Xw_9 ad ca _) rfl 5 (by decide) (hts _ k_143) (fun _ h9 => h9) rfl (by decide +kernel) rfl rfl (Nat.le_of_ble_eq_true rfl) (uI (uI st 6 ((gI st 6) + 1)) 3 0) (Xs_I3 ad ca _ _) d_Store_beginSweep_12 ?_
  refine Go.iconst (v := 0) hx hb (by decide) d_Store_beginSweep_15 ?_
  refine Go.istore_n (i := 1) (lv' := [(1, .int 0), (0, .ref (ad 9))]) hx hb rfl (Nat.le_of_ble_eq_true rfl) rfl d_Store_beginSweep_16 ?_
  refine Go.sub [1, 0] rfl ?_
  exact L17 N _ _ h
set_option maxHeartbeats 4000000 in
set_option maxRecDepth 100000 in
theorem m_Value_isThing (l : Launch) (D : va_G) (ad : Nat → Nat) (ca : Nat → ClassId) (N : Nat) (st : SG) (sz : Nat) (a0 : Int64) (r : Int32) (u : SG) (h : fX_Value_isThing N st a0 = some (r, u)) : Met l y_Value_isThing (Cond.code y_Value_isThing c_Value_isThing 3 (some .boolean) :: tbl) ({ frames := 0, cells := 0, slots := 0, locals := 0 } : Room) (va_Pc [.long a0] (goPre (Xw ad ca) D vwCl (Xtys ca) sz st)) (va_Qi (fun r' u' => r' = r ∧ u' = u) (goPost (Xw ad ca) D vwCl (Xtys ca) (va_A (Xw ad ca st) sz)) (va_A (Xw ad ca st) sz)) 0 0 (va_A (Xw ad ca st) sz) := by
  refine go_met (Qc := fun A9 => va_Qi (fun r' u' => r' = r ∧ u' = u) (goPost (Xw ad ca) D vwCl (Xtys ca) A9) A9) (cc := c_Value_isThing) (maxL := 3) (ret := (some .boolean)) [(0, .long a0)] (by decide) rfl (Nat.le_of_ble_eq_true rfl) rfl ?_
  intro p e s m below meth c A S hr hlk hK hA hsz
  obtain ⟨hx, hb, hml, hown, hts⟩ := id S
  unfold fX_Value_isThing at h
  refine Go.lload_n hx hb 0 rfl d_Value_isThing_0 ?_
  refine Go.bipush (v := 32) hx hb (by decide) d_Value_isThing_1 ?_
  refine Go.lshr hx hb d_Value_isThing_3 ?_
  refine Go.l2i hx hb d_Value_isThing_4 ?_
  refine Go.istore_n (i := 2) (lv' := [(2, .int ((a0 >>> ((32 : Int32).toInt64 &&& 63)).toInt32)), (0, .long a0)]) hx hb rfl (Nat.le_of_ble_eq_true rfl) rfl d_Value_isThing_5 ?_
  refine Go.iload_n hx hb 0 rfl d_Value_isThing_6 ?_
  refine Go.iconst (v := 4) hx hb (by decide) d_Value_isThing_7 ?_
  refine Go.icmp_eq (tgt := 16) hx hb d_Value_isThing_8 rfl (fun c8 => ?_) (fun c8 => ?_)
  · replace h := (if_pos c8).symm.trans h
    refine Go.iconst (v := 1) hx hb (by decide) d_Value_isThing_16 ?_
    refine Go.goto (tgt := 21) hx hb d_Value_isThing_17 rfl ?_
    exact Go.zret hx hb hr hK hlk rfl h d_Value_isThing_21
  · replace h := (if_neg c8).symm.trans h
    refine Go.iload_n hx hb 0 rfl d_Value_isThing_11 ?_
    refine Go.iconst (v := 5) hx hb (by decide) d_Value_isThing_12 ?_
    refine Go.icmp_ne (tgt := 20) hx hb d_Value_isThing_13 rfl (fun c13 => ?_) (fun c13 => ?_)
    · replace h := (if_neg c13).symm.trans h
      refine Go.iconst (v := 0) hx hb (by decide) d_Value_isThing_20 ?_
      exact Go.zret hx hb hr hK hlk rfl h d_Value_isThing_21
    · replace h := (if_pos c13).symm.trans h
      refine Go.iconst (v := 1) hx hb (by decide) d_Value_isThing_16 ?_
      refine Go.goto (tgt := 21) hx hb d_Value_isThing_17 rfl ?_
      exact Go.zret hx hb hr hK hlk rfl h d_Value_isThing_21
set_option maxHeartbeats 4000000 in
set_option maxRecDepth 100000 in
theorem m_Store_reach (l : Launch) (D : va_G) (ad : Nat → Nat) (ca : Nat → ClassId) (N : Nat) (st : SG) (sz : Nat) (a0 : Int64) (r : Unit) (u : SG) (h : fX_Store_reach N st a0 = some (r, u)) : Met l y_Store_reach (Cond.code y_Store_reach c_Store_reach 4 none :: tbl) ({ frames := 1, cells := 0, slots := 0, locals := 22 } : Room) (va_Pc [.ref (ad 9), .long a0] (goPre (Xw ad ca) D vwCl (Xtys ca) sz st)) (va_Qv (fun u' => u' = u) (goPost (Xw ad ca) D vwCl (Xtys ca) (va_A (Xw ad ca st) sz)) (va_A (Xw ad ca st) sz)) 0 0 (va_A (Xw ad ca st) sz) := by
  refine go_met (Qc := fun A9 => va_Qv (fun u' => u' = u) (goPost (Xw ad ca) D vwCl (Xtys ca) A9) A9) (cc := c_Store_reach) (maxL := 4) (ret := none) [(0, .ref (ad 9)), (1, .long a0)] (by decide) rfl (Nat.le_of_ble_eq_true rfl) rfl ?_
  intro p e s m below meth c A S hr hlk hK hA hsz
  obtain ⟨hx, hb, hml, hown, hts⟩ := id S
  unfold fX_Store_reach at h
  refine Go.lload_n hx hb 1 rfl d_Store_reach_0 ?_
  obtain ⟨r1, s1, q1, h⟩ := gb_some h
  refine Go.callSi S hK hA (fun sz9 => m_Value_isThing l D ad ca N _ sz9 _ r1 s1 q1) (va_cwS 1 hts (gwS k_526 k_254 k_72 k_255) rfl rfl rfl (by decide +kernel) ⟨Nat.le_of_ble_eq_true rfl, Nat.le_of_ble_eq_true rfl⟩) rfl rfl (Nat.le_of_ble_eq_true rfl) ⟨Nat.zero_le _, Nat.zero_le _⟩ d_Store_reach_1 ?_
  refine Go.if_eq (tgt := 19) hx hb d_Store_reach_4 rfl (fun c4 => ?_) (fun c4 => ?_)
  · replace h := (if_pos c4).symm.trans h
    exact Go.vret hx hb hr hK hlk h d_Store_reach_19
  · replace h := (if_neg c4).symm.trans h
    refine Go.aload_n hx hb 0 rfl d_Store_reach_7 ?_
    refine Go.get (v := .ref (ad 13)) hx hb hts in_Store hown hK 9 (Xw_9 ad ca _) rfl 3 (by decide) (hts _ k_141) (fun _ h9 => h9) rfl d_Store_reach_8 ?_
    refine Go.lload_n hx hb 1 rfl d_Store_reach_11 ?_
    obtain ⟨r2, s2, q2, h⟩ := gb_some h
    refine Go.callSi S hK hA (fun sz9 => m_Value_numberOf l D ad ca N _ sz9 _ r2 s2 q2) (va_cwS 1 hts (gwS k_264 k_265 k_72 k_266) rfl rfl rfl (by decide +kernel) ⟨Nat.le_of_ble_eq_true rfl, Nat.le_of_ble_eq_true rfl⟩) rfl rfl (Nat.le_of_ble_eq_true rfl) ⟨Nat.zero_le _, Nat.zero_le _⟩ d_Store_reach_12 ?_
    obtain ⟨c15, h⟩ := gg_some h
    refine Go.zald (v := gA s2 6 r2.toNatClampNeg) hx hb hK 13 8 (Xw_13 ad ca _) rfl c15 rfl d_Store_reach_15 ?_
    refine Go.if_eq (tgt := 20) hx hb d_Store_reach_16 rfl (fun c16 => ?_) (fun c16 => ?_)
    · replace h := (if_pos c16).symm.trans h
      refine Go.lload_n hx hb 1 rfl d_Store_reach_20 ?_
      obtain ⟨r3, s3, q3, h⟩ := gb_some h
      refine Go.callSi S hK hA (fun sz9 => m_Value_numberOf l D ad ca N _ sz9 _ r3 s3 q3) (va_cwS 1 hts (gwS k_264 k_265 k_72 k_266) rfl rfl rfl (by decide +kernel) ⟨Nat.le_of_ble_eq_true rfl, Nat.le_of_ble_eq_true rfl⟩) rfl rfl (Nat.le_of_ble_eq_true rfl) ⟨Nat.zero_le _, Nat.zero_le _⟩ d_Store_reach_21 ?_
      refine Go.istore_n (i := 3) (lv' := [(3, .int r3), (0, .ref (ad 9)), (1, .long a0)]) hx hb rfl (Nat.le_of_ble_eq_true rfl) rfl d_Store_reach_24 ?_
      refine Go.aload_n hx hb 1 rfl d_Store_reach_25 ?_
      refine Go.get (v := .ref (ad 13)) hx hb hts in_Store hown hK 9 (Xw_9 ad ca _) rfl 3 (by decide) (hts _ k_141) (fun _ h9 => h9) rfl d_Store_reach_26 ?_
      refine Go.iload_n hx hb 0 rfl d_Store_reach_29 ?_
      refine Go.iconst (v := 1) hx hb (by decide) d_Store_reach_30 ?_
      obtain ⟨c31, h⟩ := gg_some h
      refine Go.zast hx hb hK 13 8 (Xw_13 ad ca _) rfl c31 (uA s3 6 (upd (gA s3 6) r3.toNatClampNeg (vp_nar .boolean 1))) (Xs_A6 ad ca _ _) d_Store_reach_31 ?_
      refine Go.aload_n hx hb 1 rfl d_Store_reach_32 ?_
      refine Go.get (v := .ref (ad 14)) hx hb hts in_Store hown hK 9 (Xw_9 ad ca _) rfl 4 (by decide) (hts _ k_142) (fun _ h9 => h9) rfl d_Store_reach_33 ?_
      refine Go.aload_n hx hb 1 rfl d_Store_reach_36 ?_
      refine Go.get (v := .int (gI s3 3)) hx hb hts in_Store hown hK 9 (Xw_9 ad ca _) rfl 5 (by decide) (hts _ k_143) (fun _ h9 => h9) rfl d_Store_reach_37 ?_
      refine Go.iload_n hx hb 0 rfl d_Store_reach_40 ?_
      obtain ⟨c41, h⟩ := gg_some h
      refine Go.iast hx hb hK 14 9 (Xw_14 ad ca _) rfl c41 (uA (uA s3 6 (upd (gA s3 6) r3.toNatClampNeg (vp_nar .boolean 1))) 7 (upd (gA s3 7) (gI s3 3).toNatClampNeg r3)) (Xs_A7 ad ca _ _) d_Store_reach_41 ?_
      refine Go.aload_n hx hb 1 rfl d_Store_reach_42 ?_
      refine Go.dup hx hb rfl d_Store_reach_43 ?_
      refine Go.get (v := .int (gI s3 3)) hx hb hts in_Store hown hK 9 (Xw_9 ad ca _) rfl 5 (by decide) (hts _ k_143) (fun _ h9 => h9) rfl d_Store_reach_44 ?_
      refine Go.iconst (v := 1) hx hb (by decide) d_Store_reach_47 ?_
      refine Go.iadd hx hb d_Store_reach_48 ?_
      refine Go.put (ty := (.int)) hx hb hts in_Store ty_Store tyok_Store nm_Store hown hK 9 (Xw_9 ad ca _) rfl 5 (by decide) (hts _ k_143) (fun _ h9 => h9) rfl (by decide +kernel) rfl rfl (Nat.le_of_ble_eq_true rfl) (uI (uA (uA s3 6 (upd (gA s3 6) r3.toNatClampNeg (vp_nar .boolean 1))) 7 (upd (gA s3 7) (gI s3 3).toNatClampNeg r3)) 3 ((gI s3 3) + 1)) (Xs_I3 ad ca _ _) d_Store_reach_49 ?_
      exact Go.vret hx hb hr hK hlk h d_Store_reach_52
    · replace h := (if_neg c16).symm.trans h
      exact Go.vret hx hb hr hK hlk h d_Store_reach_19
set_option maxHeartbeats 4000000 in
set_option maxRecDepth 100000 in
theorem m_Store_endSweep (l : Launch) (D : va_G) (ad : Nat → Nat) (ca : Nat → ClassId) (N : Nat) (st : SG) (sz : Nat) (r : Unit) (u : SG) (h : fX_Store_endSweep N st = some (r, u)) : Met l y_Store_endSweep (Cond.code y_Store_endSweep c_Store_endSweep 5 none :: tbl) ({ frames := 2, cells := 0, slots := 0, locals := 45 } : Room) (va_Pc [.ref (ad 9)] (goPre (Xw ad ca) D vwCl (Xtys ca) sz st)) (va_Qv (fun u' => u' = u) (goPost (Xw ad ca) D vwCl (Xtys ca) (va_A (Xw ad ca st) sz)) (va_A (Xw ad ca st) sz)) 0 0 (va_A (Xw ad ca st) sz) := by
  refine go_met (Qc := fun A9 => va_Qv (fun u' => u' = u) (goPost (Xw ad ca) D vwCl (Xtys ca) A9) A9) (cc := c_Store_endSweep) (maxL := 5) (ret := none) [(0, .ref (ad 9))] (by decide) rfl (Nat.le_of_ble_eq_true rfl) rfl ?_
  intro p e s m below meth c A S hr hlk hK hA hsz
  obtain ⟨hx, hb, hml, hown, hts⟩ := id S
  unfold fX_Store_endSweep at h
  have L74 : ∀ (n : Nat) (v1 : Int32) (st : SG), fX_Store_endSweep_L74 N n v1 st = some (r, u) → Go (Xw ad ca) D vwCl A s.heap 5 p l e ({ frames := 2, cells := 0, slots := 0, locals := 45 } : Room) s m ([.ref (ad 9)] : List Value).toArray below meth c 0 0 (MQ below (va_Qv (fun u' => u' = u) (goPost (Xw ad ca) D vwCl (Xtys ca) A) A) ([.ref (ad 9)] : List Value).toArray s 0 0 A) 74 [(0, .ref (ad 9)), (1, .int v1)] [] st := by
    intro n
    induction n with
    | zero => intro v1 st h; cases h
    | succ n ih =>
      intro v1 st h
      unfold fX_Store_endSweep_L74 at h
      refine Go.iload_n hx hb 1 rfl d_Store_endSweep_74 ?_
      refine Go.bipush (v := 30) hx hb (by decide) d_Store_endSweep_75 ?_
      refine Go.icmp_ge (tgt := 98) hx hb d_Store_endSweep_77 rfl (fun c77 => ?_) (fun c77 => ?_)
      · replace h := (if_pos c77).symm.trans h
        refine Go.aload_n hx hb 0 rfl d_Store_endSweep_98 ?_
        refine Go.aload_n hx hb 0 rfl d_Store_endSweep_99 ?_
        refine Go.get (v := .int (gI st 3)) hx hb hts in_Store hown hK 9 (Xw_9 ad ca _) rfl 5 (by decide) (hts _ k_143) (fun _ h9 => h9) rfl d_Store_endSweep_100 ?_
        refine Go.put (ty := (.int)) hx hb hts in_Store ty_Store tyok_Store nm_Store hown hK 9 (Xw_9 ad ca _) rfl 6 (by decide) (hts _ k_144) (fun _ h9 => h9) rfl (by decide +kernel) rfl rfl (Nat.le_of_ble_eq_true rfl) (uI st 4 (gI st 3)) (Xs_I4 ad ca _ _) d_Store_endSweep_103 ?_
        exact Go.vret hx hb hr hK hlk h d_Store_endSweep_106
      · replace h := (if_neg c77).symm.trans h
        refine Go.aload_n hx hb 0 rfl d_Store_endSweep_80 ?_
        refine Go.get (v := .ref (ad 12)) hx hb hts in_Store hown hK 9 (Xw_9 ad ca _) rfl 2 (by decide) (hts _ k_140) (fun _ h9 => h9) rfl d_Store_endSweep_81 ?_
        refine Go.iload_n hx hb 1 rfl d_Store_endSweep_84 ?_
        refine Go.aload_n hx hb 0 rfl d_Store_endSweep_85 ?_
        refine Go.get (v := .ref (ad 13)) hx hb hts in_Store hown hK 9 (Xw_9 ad ca _) rfl 3 (by decide) (hts _ k_141) (fun _ h9 => h9) rfl d_Store_endSweep_86 ?_
        refine Go.iload_n hx hb 1 rfl d_Store_endSweep_89 ?_
        obtain ⟨c90, h⟩ := gg_some h
        refine Go.zald (v := gA st 6 v1.toNatClampNeg) hx hb hK 13 8 (Xw_13 ad ca _) rfl c90 rfl d_Store_endSweep_90 ?_
        obtain ⟨c91, h⟩ := gg_some h
        refine Go.zast hx hb hK 12 7 (Xw_12 ad ca _) rfl c91 (uA st 5 (upd (gA st 5) v1.toNatClampNeg (vp_nar .boolean (gA st 6 v1.toNatClampNeg)))) (Xs_A5 ad ca _ _) d_Store_endSweep_91 ?_
        refine Go.iinc (v := v1 + 1) (lv' := [(1, .int (v1 + 1)), (0, .ref (ad 9))]) hx hb 1 rfl rfl (Nat.le_of_ble_eq_true rfl) rfl d_Store_endSweep_92 ?_
        refine Go.goto (tgt := 74) hx hb d_Store_endSweep_95 rfl ?_
        refine Go.sub [1, 0] rfl ?_
        exact ih _ _ h
  have L43 : ∀ (K2 : Int32 → SG → Option (Unit × SG)) (hK2 : ∀ (v1 : Int32) (st : SG), K2 v1 st = some (r, u) → Go (Xw ad ca) D vwCl A s.heap 5 p l e ({ frames := 2, cells := 0, slots := 0, locals := 45 } : Room) s m ([.ref (ad 9)] : List Value).toArray below meth c 0 0 (MQ below (va_Qv (fun u' => u' = u) (goPost (Xw ad ca) D vwCl (Xtys ca) A) A) ([.ref (ad 9)] : List Value).toArray s 0 0 A) 2 [(0, .ref (ad 9)), (1, .int v1)] [] st) (n : Nat) (v1 : Int32) (v3 : Int32) (v4 : Int32) (st : SG), fX_Store_endSweep_L43 N K2 n v1 v3 v4 st = some (r, u) → Go (Xw ad ca) D vwCl A s.heap 5 p l e ({ frames := 2, cells := 0, slots := 0, locals := 45 } : Room) s m ([.ref (ad 9)] : List Value).toArray below meth c 0 0 (MQ below (va_Qv (fun u' => u' = u) (goPost (Xw ad ca) D vwCl (Xtys ca) A) A) ([.ref (ad 9)] : List Value).toArray s 0 0 A) 43 [(0, .ref (ad 9)), (1, .int v1), (3, .int v3), (4, .int v4)] [] st := by
    intro K2 hK2 n
    induction n with
    | zero => intro v1 v3 v4 st h; cases h
    | succ n ih =>
      intro v1 v3 v4 st h
      unfold fX_Store_endSweep_L43 at h
      refine Go.iload hx hb 3 rfl d_Store_endSweep_43 ?_
      refine Go.iload_n hx hb 2 rfl d_Store_endSweep_45 ?_
      refine Go.icmp_ge (tgt := 66) hx hb d_Store_endSweep_46 rfl (fun c46 => ?_) (fun c46 => ?_)
      · replace h := (if_pos c46).symm.trans h
        refine Go.iinc (v := v1 + 1) (lv' := [(1, .int (v1 + 1)), (0, .ref (ad 9)), (3, .int v3), (4, .int v4)]) hx hb 1 rfl rfl (Nat.le_of_ble_eq_true rfl) rfl d_Store_endSweep_66 ?_
        refine Go.goto (tgt := 2) hx hb d_Store_endSweep_69 rfl ?_
        refine Go.sub [1, 0] rfl ?_
        exact hK2 _ _ h
      · replace h := (if_neg c46).symm.trans h
        refine Go.aload_n hx hb 0 rfl d_Store_endSweep_49 ?_
        refine Go.aload_n hx hb 0 rfl d_Store_endSweep_50 ?_
        refine Go.get (v := .ref (ad 10)) hx hb hts in_Store hown hK 9 (Xw_9 ad ca _) rfl 0 (by decide) (hts _ k_138) (fun _ h9 => h9) rfl d_Store_endSweep_51 ?_
        refine Go.iload hx hb 3 rfl d_Store_endSweep_54 ?_
        obtain ⟨c56, h⟩ := gg_some h
        refine Go.lald (v := gB st 1 v4.toNatClampNeg) hx hb hK 10 5 (Xw_10 ad ca _) rfl c56 rfl d_Store_endSweep_56 ?_
        obtain ⟨_, s1, q1, h⟩ := gb_some h
        refine Go.callVv S hK hA 9 (Xw_9 ad ca _) rfl (fun sz9 => m_Store_reach l D ad ca N _ sz9 _ _ s1 q1) (cwV 1 hts (gwV k_531 k_523 k_524 k_66 k_525) rfl rfl rfl (by decide +kernel) ⟨Nat.le_of_ble_eq_true rfl, Nat.le_of_ble_eq_true rfl⟩) rfl rfl (Nat.le_of_ble_eq_true rfl) ⟨Nat.zero_le _, Nat.zero_le _⟩ d_Store_endSweep_57 ?_
        refine Go.iinc (v := v4 + 1) (lv' := [(4, .int (v4 + 1)), (0, .ref (ad 9)), (1, .int v1), (3, .int v3)]) hx hb 3 rfl rfl (Nat.le_of_ble_eq_true rfl) rfl d_Store_endSweep_60 ?_
        refine Go.goto (tgt := 43) hx hb d_Store_endSweep_63 rfl ?_
        refine Go.sub [1, 2, 3, 0] rfl ?_
        exact ih _ _ _ _ h
  have L2 : ∀ (n : Nat) (v1 : Int32) (st : SG), fX_Store_endSweep_L2 N n v1 st = some (r, u) → Go (Xw ad ca) D vwCl A s.heap 5 p l e ({ frames := 2, cells := 0, slots := 0, locals := 45 } : Room) s m ([.ref (ad 9)] : List Value).toArray below meth c 0 0 (MQ below (va_Qv (fun u' => u' = u) (goPost (Xw ad ca) D vwCl (Xtys ca) A) A) ([.ref (ad 9)] : List Value).toArray s 0 0 A) 2 [(0, .ref (ad 9)), (1, .int v1)] [] st := by
    intro n
    induction n with
    | zero => intro v1 st h; cases h
    | succ n ih =>
      intro v1 st h
      unfold fX_Store_endSweep_L2 at h
      refine Go.iload_n hx hb 1 rfl d_Store_endSweep_2 ?_
      refine Go.aload_n hx hb 0 rfl d_Store_endSweep_3 ?_
      refine Go.get (v := .int (gI st 3)) hx hb hts in_Store hown hK 9 (Xw_9 ad ca _) rfl 5 (by decide) (hts _ k_143) (fun _ h9 => h9) rfl d_Store_endSweep_4 ?_
      refine Go.icmp_ge (tgt := 72) hx hb d_Store_endSweep_7 rfl (fun c7 => ?_) (fun c7 => ?_)
      · replace h := (if_pos c7).symm.trans h
        refine Go.iconst (v := 0) hx hb (by decide) d_Store_endSweep_72 ?_
        refine Go.istore_n (i := 1) (lv' := [(1, .int 0), (0, .ref (ad 9))]) hx hb rfl (Nat.le_of_ble_eq_true rfl) rfl d_Store_endSweep_73 ?_
        refine Go.sub [1, 0] rfl ?_
        exact L74 N _ _ h
      · replace h := (if_neg c7).symm.trans h
        refine Go.iload_n hx hb 1 rfl d_Store_endSweep_10 ?_
        refine Go.bipush (v := 30) hx hb (by decide) d_Store_endSweep_11 ?_
        refine Go.icmp_ge (tgt := 72) hx hb d_Store_endSweep_13 rfl (fun c13 => ?_) (fun c13 => ?_)
        · replace h := (if_pos c13).symm.trans h
          refine Go.iconst (v := 0) hx hb (by decide) d_Store_endSweep_72 ?_
          refine Go.istore_n (i := 1) (lv' := [(1, .int 0), (0, .ref (ad 9))]) hx hb rfl (Nat.le_of_ble_eq_true rfl) rfl d_Store_endSweep_73 ?_
          refine Go.sub [1, 0] rfl ?_
          exact L74 N _ _ h
        · replace h := (if_neg c13).symm.trans h
          refine Go.aload_n hx hb 0 rfl d_Store_endSweep_16 ?_
          refine Go.get (v := .ref (ad 14)) hx hb hts in_Store hown hK 9 (Xw_9 ad ca _) rfl 4 (by decide) (hts _ k_142) (fun _ h9 => h9) rfl d_Store_endSweep_17 ?_
          refine Go.iload_n hx hb 1 rfl d_Store_endSweep_20 ?_
          obtain ⟨c21, h⟩ := gg_some h
          refine Go.iald (v := gA st 7 v1.toNatClampNeg) hx hb hK 14 9 (Xw_14 ad ca _) rfl c21 rfl d_Store_endSweep_21 ?_
          refine Go.bipush (v := 20) hx hb (by decide) d_Store_endSweep_22 ?_
          refine Go.imul hx hb d_Store_endSweep_24 ?_
          refine Go.istore_n (i := 2) (lv' := [(2, .int ((gA st 7 v1.toNatClampNeg) * 20)), (0, .ref (ad 9)), (1, .int v1)]) hx hb rfl (Nat.le_of_ble_eq_true rfl) rfl d_Store_endSweep_25 ?_
          refine Go.iload_n hx hb 0 rfl d_Store_endSweep_26 ?_
          refine Go.aload_n hx hb 1 rfl d_Store_endSweep_27 ?_
          refine Go.get (v := .ref (ad 11)) hx hb hts in_Store hown hK 9 (Xw_9 ad ca _) rfl 1 (by decide) (hts _ k_139) (fun _ h9 => h9) rfl d_Store_endSweep_28 ?_
          refine Go.aload_n hx hb 1 rfl d_Store_endSweep_31 ?_
          refine Go.get (v := .ref (ad 14)) hx hb hts in_Store hown hK 9 (Xw_9 ad ca _) rfl 4 (by decide) (hts _ k_142) (fun _ h9 => h9) rfl d_Store_endSweep_32 ?_
          refine Go.iload_n hx hb 2 rfl d_Store_endSweep_35 ?_
          obtain ⟨c36, h⟩ := gg_some h
          refine Go.iald (v := gA st 7 v1.toNatClampNeg) hx hb hK 14 9 (Xw_14 ad ca _) rfl c36 rfl d_Store_endSweep_36 ?_
          obtain ⟨c37, h⟩ := gg_some h
          refine Go.iald (v := gA st 4 (gA st 7 v1.toNatClampNeg).toNatClampNeg) hx hb hK 11 6 (Xw_11 ad ca _) rfl c37 rfl d_Store_endSweep_37 ?_
          refine Go.iadd hx hb d_Store_endSweep_38 ?_
          refine Go.istore_n (i := 3) (lv' := [(3, .int (((gA st 7 v1.toNatClampNeg) * 20) + (gA st 4 (gA st 7 v1.toNatClampNeg).toNatClampNeg))), (2, .int ((gA st 7 v1.toNatClampNeg) * 20)), (0, .ref (ad 9)), (1, .int v1)]) hx hb rfl (Nat.le_of_ble_eq_true rfl) rfl d_Store_endSweep_39 ?_
          refine Go.iload_n hx hb 1 rfl d_Store_endSweep_40 ?_
          refine Go.istore (i := 4) (lv' := [(4, .int ((gA st 7 v1.toNatClampNeg) * 20)), (3, .int (((gA st 7 v1.toNatClampNeg) * 20) + (gA st 4 (gA st 7 v1.toNatClampNeg).toNatClampNeg))), (2, .int ((gA st 7 v1.toNatClampNeg) * 20)), (0, .ref (ad 9)), (1, .int v1)]) hx hb (Nat.le_of_ble_eq_true rfl) rfl d_Store_endSweep_41 ?_
          refine Go.sub [3, 4, 1, 0] rfl ?_
          exact L43 (fX_Store_endSweep_L2 N n) ih N _ _ _ _ h
  refine Go.iconst (v := 0) hx hb (by decide) d_Store_endSweep_0 ?_
  refine Go.istore_n (i := 1) (lv' := [(1, .int 0), (0, .ref (ad 9))]) hx hb rfl (Nat.le_of_ble_eq_true rfl) rfl d_Store_endSweep_1 ?_
  refine Go.sub [1, 0] rfl ?_
  exact L2 N _ _ h
