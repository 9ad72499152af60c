set_option maxHeartbeats 4000000 in
set_option maxRecDepth 100000 in
theorem m_Notes_latestTrap (l : Launch) (D : va_G) (ad : Nat → Nat) (ca : Nat → ClassId) (N : Nat) (st : SG) (sz : Nat) (r : Int32) (u : SG) (h : fX_Notes_latestTrap N st = some (r, u)) : Met l y_Notes_latestTrap (Cond.code y_Notes_latestTrap c_Notes_latestTrap 2 (some .int) :: tbl) ({ frames := 0, cells := 0, slots := 0, locals := 0 } : Room) (va_Pc [.ref (ad 6)] (goPre (Xw ad ca) D vwCl (Xtys ca) sz st)) (va_Qi (fun r' u' => r' = r ∧ u' = u) (goPost (Xw ad ca) D vwCl (Xtys ca) (va_A (Xw ad ca st) sz)) (va_A (Xw ad ca st) sz)) 0 0 (va_A (Xw ad ca st) sz) := by
  refine go_met (Qc := fun A9 => va_Qi (fun r' u' => r' = r ∧ u' = u) (goPost (Xw ad ca) D vwCl (Xtys ca) A9) A9) (cc := c_Notes_latestTrap) (maxL := 2) (ret := (some .int)) [(0, .ref (ad 6))] (by decide) rfl (Nat.le_of_ble_eq_true rfl) rfl ?_
  intro p e s m below meth c A S hr hlk hK hA hsz
  obtain ⟨hx, hb, hml, hown, hts⟩ := id S
  unfold fX_Notes_latestTrap at h
  have L7 : ∀ (n : Nat) (v1 : Int32) (st : SG), fX_Notes_latestTrap_L7 N n v1 st = some (r, u) → Go (Xw ad ca) D vwCl A s.heap 2 p l e ({ frames := 0, cells := 0, slots := 0, locals := 0 } : Room) s m ([.ref (ad 6)] : List Value).toArray below meth c 0 0 (MQ below (va_Qi (fun r' u' => r' = r ∧ u' = u) (goPost (Xw ad ca) D vwCl (Xtys ca) A) A) ([.ref (ad 6)] : List Value).toArray s 0 0 A) 7 [(0, .ref (ad 6)), (1, .int v1)] [] st := by
    intro n
    induction n with
    | zero => intro v1 st h; cases h
    | succ n ih =>
      intro v1 st h
      unfold fX_Notes_latestTrap_L7 at h
      refine Go.iload_n hx hb 1 rfl d_Notes_latestTrap_7 ?_
      refine Go.if_lt (tgt := 29) hx hb d_Notes_latestTrap_8 rfl (fun c8 => ?_) (fun c8 => ?_)
      · replace h := (if_pos c8).symm.trans h
        refine Go.iconst (v := (-1)) hx hb (by decide) d_Notes_latestTrap_29 ?_
        exact Go.iret hx hb hr hK hlk h d_Notes_latestTrap_30
      · replace h := (if_neg c8).symm.trans h
        refine Go.aload_n hx hb 0 rfl d_Notes_latestTrap_11 ?_
        refine Go.get (v := .ref (ad 8)) hx hb hts in_Notes hown hK 6 (Xw_6 ad ca _) rfl 1 (by decide) (hts _ k_122) (fun _ h9 => h9) rfl d_Notes_latestTrap_12 ?_
        refine Go.iload_n hx hb 1 rfl d_Notes_latestTrap_15 ?_
        obtain ⟨c16, h⟩ := gg_some h
        refine Go.iald (v := gA st 3 v1.toNatClampNeg) hx hb hK 8 4 (Xw_8 ad ca _) rfl c16 rfl d_Notes_latestTrap_16 ?_
        refine Go.iconst (v := (-1)) hx hb (by decide) d_Notes_latestTrap_17 ?_
        refine Go.icmp_eq (tgt := 23) hx hb d_Notes_latestTrap_18 rfl (fun c18 => ?_) (fun c18 => ?_)
        · replace h := (if_pos c18).symm.trans h
          refine Go.iinc (v := v1 + (-1)) (lv' := [(1, .int (v1 + (-1))), (0, .ref (ad 6))]) hx hb 1 rfl (congrArg (fun z9 : Int32 => v1 + z9) (show Int32.ofInt (-1) = (-1) from by decide)) (Nat.le_of_ble_eq_true rfl) rfl d_Notes_latestTrap_23 ?_
          refine Go.goto (tgt := 7) hx hb d_Notes_latestTrap_26 rfl ?_
          refine Go.sub [1, 0] rfl ?_
          exact ih _ _ h
        · replace h := (if_neg c18).symm.trans h
          refine Go.iload_n hx hb 1 rfl d_Notes_latestTrap_21 ?_
          exact Go.iret hx hb hr hK hlk h d_Notes_latestTrap_22
  refine Go.aload_n hx hb 0 rfl d_Notes_latestTrap_0 ?_
  refine Go.get (v := .int (gI st 2)) hx hb hts in_Notes hown hK 6 (Xw_6 ad ca _) rfl 2 (by decide) (hts _ k_123) (fun _ h9 => h9) rfl d_Notes_latestTrap_1 ?_
  refine Go.iconst (v := 1) hx hb (by decide) d_Notes_latestTrap_4 ?_
  refine Go.isub hx hb d_Notes_latestTrap_5 ?_
  refine Go.istore_n (i := 1) (lv' := [(1, .int ((gI st 2) - 1)), (0, .ref (ad 6))]) hx hb rfl (Nat.le_of_ble_eq_true rfl) rfl d_Notes_latestTrap_6 ?_
  refine Go.sub [1, 0] rfl ?_
  exact L7 N _ _ h
set_option maxHeartbeats 4000000 in
set_option maxRecDepth 100000 in
theorem m_Notes_heightOf (l : Launch) (D : va_G) (ad : Nat → Nat) (ca : Nat → ClassId) (N : Nat) (st : SG) (sz : Nat) (a0 : Int32) (r : Int32) (u : SG) (h : fX_Notes_heightOf N st a0 = some (r, u)) : Met l y_Notes_heightOf (Cond.code y_Notes_heightOf c_Notes_heightOf 2 (some .int) :: tbl) ({ frames := 0, cells := 0, slots := 0, locals := 0 } : Room) (va_Pc [.ref (ad 6), .int a0] (goPre (Xw ad ca) D vwCl (Xtys ca) sz st)) (va_Qi (fun r' u' => r' = r ∧ u' = u) (goPost (Xw ad ca) D vwCl (Xtys ca) (va_A (Xw ad ca st) sz)) (va_A (Xw ad ca st) sz)) 0 0 (va_A (Xw ad ca st) sz) := by
  refine go_met (Qc := fun A9 => va_Qi (fun r' u' => r' = r ∧ u' = u) (goPost (Xw ad ca) D vwCl (Xtys ca) A9) A9) (cc := c_Notes_heightOf) (maxL := 2) (ret := (some .int)) [(0, .ref (ad 6)), (1, .int a0)] (by decide) rfl (Nat.le_of_ble_eq_true rfl) rfl ?_
  intro p e s m below meth c A S hr hlk hK hA hsz
  obtain ⟨hx, hb, hml, hown, hts⟩ := id S
  unfold fX_Notes_heightOf at h
  refine Go.aload_n hx hb 0 rfl d_Notes_heightOf_0 ?_
  refine Go.get (v := .ref (ad 8)) hx hb hts in_Notes hown hK 6 (Xw_6 ad ca _) rfl 1 (by decide) (hts _ k_122) (fun _ h9 => h9) rfl d_Notes_heightOf_1 ?_
  refine Go.iload_n hx hb 1 rfl d_Notes_heightOf_4 ?_
  obtain ⟨c5, h⟩ := gg_some h
  refine Go.iald (v := gA st 3 a0.toNatClampNeg) hx hb hK 8 4 (Xw_8 ad ca _) rfl c5 rfl d_Notes_heightOf_5 ?_
  exact Go.iret hx hb hr hK hlk h d_Notes_heightOf_6
set_option maxHeartbeats 4000000 in
set_option maxRecDepth 100000 in
theorem m_VM_goWrong (l : Launch) (D : va_G) (ad : Nat → Nat) (ca : Nat → ClassId) (N : Nat) (st : SG) (sz : Nat) (a0 : Int32) (a1 : Int64) (r : Unit) (u : SG) (h : fX_ValueMachine_goWrong N st a0 a1 = some (r, u)) : Met l y_VM_goWrong (Cond.code y_VM_goWrong c_VM_goWrong 5 none :: tbl) ({ frames := 1, cells := 0, slots := 0, locals := 21 } : Room) (va_Pc [.ref (ad 0), .int a0, .long a1] (goPre (Xw ad ca) D vwCl (Xtys ca) sz st)) (va_Qv (fun u' => u' = u) (goPost (Xw ad ca) D vwCl (Xtys ca) (va_A (Xw ad ca st) sz)) (va_A (Xw ad ca st) sz)) 0 0 (va_A (Xw ad ca st) sz) := by
  refine go_met (Qc := fun A9 => va_Qv (fun u' => u' = u) (goPost (Xw ad ca) D vwCl (Xtys ca) A9) A9) (cc := c_VM_goWrong) (maxL := 5) (ret := none) [(0, .ref (ad 0)), (1, .int a0), (2, .long a1)] (by decide) rfl (Nat.le_of_ble_eq_true rfl) rfl ?_
  intro p e s m below meth c A S hr hlk hK hA hsz
  obtain ⟨hx, hb, hml, hown, hts⟩ := id S
  unfold fX_ValueMachine_goWrong at h
  refine Go.aload_n hx hb 0 rfl d_VM_goWrong_0 ?_
  refine Go.dup hx hb rfl d_VM_goWrong_1 ?_
  refine Go.get (v := .int (gI st 10)) hx hb hts in_VM hown hK 0 (Xw_0 ad ca _) rfl 11 (by decide) (hts _ k_181) (fun _ h9 => h9) rfl d_VM_goWrong_2 ?_
  refine Go.iconst (v := 1) hx hb (by decide) d_VM_goWrong_5 ?_
  refine Go.iadd hx hb d_VM_goWrong_6 ?_
  refine Go.put (ty := (.int)) hx hb hts in_VM ty_VM tyok_VM nm_VM hown hK 0 (Xw_0 ad ca _) rfl 11 (by decide) (hts _ k_181) (fun _ h9 => h9) rfl (by decide +kernel) rfl rfl (Nat.le_of_ble_eq_true rfl) (uI st 10 ((gI st 10) + 1)) (Xs_I10 ad ca _ _) d_VM_goWrong_7 ?_
  refine Go.aload_n hx hb 0 rfl d_VM_goWrong_10 ?_
  refine Go.get (v := .ref (ad 6)) hx hb hts in_VM hown hK 0 (Xw_0 ad ca _) rfl 2 (by decide) (hts _ k_172) (fun _ h9 => h9) rfl d_VM_goWrong_11 ?_
  obtain ⟨r1, s1, q1, h⟩ := gb_some h
  refine Go.callVi S hK hA 6 (Xw_6 ad ca _) rfl (fun sz9 => m_Notes_latestTrap l D ad ca N _ sz9 r1 s1 q1) (cwV 0 hts (gwV k_598 k_599 k_600 k_65 k_601) rfl rfl rfl (by decide +kernel) ⟨Nat.le_of_ble_eq_true rfl, Nat.le_of_ble_eq_true rfl⟩) rfl rfl (Nat.le_of_ble_eq_true rfl) ⟨Nat.zero_le _, Nat.zero_le _⟩ d_VM_goWrong_14 ?_
  refine Go.istore (i := 4) (lv' := [(4, .int r1), (0, .ref (ad 0)), (1, .int a0), (2, .long a1)]) hx hb (Nat.le_of_ble_eq_true rfl) rfl d_VM_goWrong_17 ?_
  refine Go.iload hx hb 0 rfl d_VM_goWrong_19 ?_
  refine Go.iconst (v := (-1)) hx hb (by decide) d_VM_goWrong_21 ?_
  refine Go.icmp_ne (tgt := 41) hx hb d_VM_goWrong_22 rfl (fun c22 => ?_) (fun c22 => ?_)
  · replace h := (if_neg c22).symm.trans h
    refine Go.aload_n hx hb 1 rfl d_VM_goWrong_41 ?_
    refine Go.aload_n hx hb 1 rfl d_VM_goWrong_42 ?_
    refine Go.get (v := .ref (ad 6)) hx hb hts in_VM hown hK 0 (Xw_0 ad ca _) rfl 2 (by decide) (hts _ k_172) (fun _ h9 => h9) rfl d_VM_goWrong_43 ?_
    refine Go.iload hx hb 0 rfl d_VM_goWrong_46 ?_
    obtain ⟨r2, s2, q2, h⟩ := gb_some h
    refine Go.callVi S hK hA 6 (Xw_6 ad ca _) rfl (fun sz9 => m_Notes_placeOf l D ad ca N _ sz9 _ r2 s2 q2) (cwV 1 hts (gwV k_574 k_575 k_576 k_65 k_577) rfl rfl rfl (by decide +kernel) ⟨Nat.le_of_ble_eq_true rfl, Nat.le_of_ble_eq_true rfl⟩) rfl rfl (Nat.le_of_ble_eq_true rfl) ⟨Nat.zero_le _, Nat.zero_le _⟩ d_VM_goWrong_48 ?_
    refine Go.put (ty := (.int)) hx hb hts in_VM ty_VM tyok_VM nm_VM hown hK 0 (Xw_0 ad ca _) rfl 9 (by decide) (hts _ k_179) (fun _ h9 => h9) rfl (by decide +kernel) rfl rfl (Nat.le_of_ble_eq_true rfl) (uI s2 8 r2) (Xs_I8 ad ca _ _) d_VM_goWrong_51 ?_
    refine Go.aload_n hx hb 1 rfl d_VM_goWrong_54 ?_
    refine Go.get (v := .ref (ad 4)) hx hb hts in_VM hown hK 0 (Xw_0 ad ca _) rfl 1 (by decide) (hts _ k_171) (fun _ h9 => h9) rfl d_VM_goWrong_55 ?_
    refine Go.aload_n hx hb 1 rfl d_VM_goWrong_58 ?_
    refine Go.get (v := .ref (ad 4)) hx hb hts in_VM hown hK 0 (Xw_0 ad ca _) rfl 1 (by decide) (hts _ k_171) (fun _ h9 => h9) rfl d_VM_goWrong_59 ?_
    refine Go.get (v := .int (gI s2 1)) hx hb hts in_ValueStack hown hK 4 (Xw_4 ad ca _) rfl 1 (by decide) (hts _ k_108) (fun _ h9 => h9) rfl d_VM_goWrong_62 ?_
    refine Go.aload_n hx hb 1 rfl d_VM_goWrong_65 ?_
    refine Go.get (v := .ref (ad 6)) hx hb hts in_VM hown hK 0 (Xw_0 ad ca _) rfl 2 (by decide) (hts _ k_172) (fun _ h9 => h9) rfl d_VM_goWrong_66 ?_
    refine Go.iload hx hb 0 rfl d_VM_goWrong_69 ?_
    obtain ⟨r3, s3, q3, h⟩ := gb_some h
    refine Go.callVi S hK hA 6 (Xw_6 ad ca _) rfl (fun sz9 => m_Notes_heightOf l D ad ca N _ sz9 _ r3 s3 q3) (cwV 1 hts (gwV k_602 k_603 k_604 k_65 k_605) rfl rfl rfl (by decide +kernel) ⟨Nat.le_of_ble_eq_true rfl, Nat.le_of_ble_eq_true rfl⟩) rfl rfl (Nat.le_of_ble_eq_true rfl) ⟨Nat.zero_le _, Nat.zero_le _⟩ d_VM_goWrong_71 ?_
    refine Go.mmin hx hb hml hown (hts _ k_606) (hts _ k_607) (hts _ k_73) (hts _ k_608) (Nat.le_of_ble_eq_true rfl) (Nat.le_of_ble_eq_true rfl) (Nat.zero_le _) (Nat.zero_le _) d_VM_goWrong_74 ?_
    refine Go.put (ty := (.int)) hx hb hts in_ValueStack ty_ValueStack tyok_ValueStack nm_ValueStack hown hK 4 (Xw_4 ad ca _) rfl 1 (by decide) (hts _ k_108) (fun _ h9 => h9) rfl (by decide +kernel) rfl rfl (Nat.le_of_ble_eq_true rfl) (uI s3 1 (if r3 < (gI s2 1) then r3 else (gI s2 1))) (Xs_I1 ad ca _ _) d_VM_goWrong_77 ?_
    refine Go.aload_n hx hb 1 rfl d_VM_goWrong_80 ?_
    refine Go.get (v := .ref (ad 6)) hx hb hts in_VM hown hK 0 (Xw_0 ad ca _) rfl 2 (by decide) (hts _ k_172) (fun _ h9 => h9) rfl d_VM_goWrong_81 ?_
    refine Go.iload hx hb 0 rfl d_VM_goWrong_84 ?_
    refine Go.put (ty := (.int)) hx hb hts in_Notes ty_Notes tyok_Notes nm_Notes hown hK 6 (Xw_6 ad ca _) rfl 2 (by decide) (hts _ k_124) (fun _ h9 => h9) rfl (by decide +kernel) rfl rfl (Nat.le_of_ble_eq_true rfl) (uI (uI s3 1 (if r3 < (gI s2 1) then r3 else (gI s2 1))) 2 r1) (Xs_I2 ad ca _ _) d_VM_goWrong_86 ?_
    refine Go.aload_n hx hb 1 rfl d_VM_goWrong_89 ?_
    refine Go.lload_n hx hb 3 rfl d_VM_goWrong_90 ?_
    refine Go.put (ty := (.long)) hx hb hts in_VM ty_VM tyok_VM nm_VM hown hK 0 (Xw_0 ad ca _) rfl 5 (by decide) (hts _ k_175) (fun _ h9 => h9) rfl (by decide +kernel) rfl rfl (Nat.le_of_ble_eq_true rfl) (uL (uI (uI s3 1 (if r3 < (gI s2 1) then r3 else (gI s2 1))) 2 r1) 0 a1) (Xs_L0 ad ca _ _) d_VM_goWrong_91 ?_
    exact Go.vret hx hb hr hK hlk h d_VM_goWrong_94
  · replace h := (if_pos c22).symm.trans h
    refine Go.aload_n hx hb 1 rfl d_VM_goWrong_25 ?_
    refine Go.iload_n hx hb 2 rfl d_VM_goWrong_26 ?_
    refine Go.put (ty := (.int)) hx hb hts in_VM ty_VM tyok_VM nm_VM hown hK 0 (Xw_0 ad ca _) rfl 9 (by decide) (hts _ k_179) (fun _ h9 => h9) rfl (by decide +kernel) rfl rfl (Nat.le_of_ble_eq_true rfl) (uI s1 8 a0) (Xs_I8 ad ca _ _) d_VM_goWrong_27 ?_
    refine Go.aload_n hx hb 1 rfl d_VM_goWrong_30 ?_
    refine Go.iconst (v := 1) hx hb (by decide) d_VM_goWrong_31 ?_
    refine Go.put (ty := (.boolean)) hx hb hts in_VM ty_VM tyok_VM nm_VM hown hK 0 (Xw_0 ad ca _) rfl 8 (by decide) (hts _ k_178) (fun _ h9 => h9) rfl (by decide +kernel) rfl rfl (Nat.le_of_ble_eq_true rfl) (uI (uI s1 8 a0) 7 1) (Xs_I7 ad ca _ _) d_VM_goWrong_32 ?_
    refine Go.aload_n hx hb 1 rfl d_VM_goWrong_35 ?_
    refine Go.lload_n hx hb 3 rfl d_VM_goWrong_36 ?_
    refine Go.put (ty := (.long)) hx hb hts in_VM ty_VM tyok_VM nm_VM hown hK 0 (Xw_0 ad ca _) rfl 7 (by decide) (hts _ k_177) (fun _ h9 => h9) rfl (by decide +kernel) rfl rfl (Nat.le_of_ble_eq_true rfl) (uL (uI (uI s1 8 a0) 7 1) 2 a1) (Xs_L2 ad ca _ _) d_VM_goWrong_37 ?_
    exact Go.vret hx hb hr hK hlk h d_VM_goWrong_40
set_option maxHeartbeats 4000000 in
set_option maxRecDepth 100000 in
theorem m_VM_choose (l : Launch) (D : va_G) (ad : Nat → Nat) (ca : Nat → ClassId) (N : Nat) (st : SG) (sz : Nat) (a0 : Int64) (r : Int32) (u : SG) (h : fX_ValueMachine_choose N st a0 = some (r, u)) : Met l y_VM_choose (Cond.code y_VM_choose c_VM_choose 3 (some .int) :: tbl) ({ frames := 1, cells := 0, slots := 0, locals := 21 } : Room) (va_Pc [.ref (ad 0), .long a0] (goPre (Xw ad ca) D vwCl (Xtys ca) sz st)) (va_Qi (fun r' u' => r' = r ∧ u' = u) (goPost (Xw ad ca) D vwCl (Xtys ca) (va_A (Xw ad ca st) sz)) (va_A (Xw ad ca st) sz)) 0 0 (va_A (Xw ad ca st) sz) := by
  refine go_met (Qc := fun A9 => va_Qi (fun r' u' => r' = r ∧ u' = u) (goPost (Xw ad ca) D vwCl (Xtys ca) A9) A9) (cc := c_VM_choose) (maxL := 3) (ret := (some .int)) [(0, .ref (ad 0)), (1, .long a0)] (by decide) rfl (Nat.le_of_ble_eq_true rfl) rfl ?_
  intro p e s m below meth c A S hr hlk hK hA hsz
  obtain ⟨hx, hb, hml, hown, hts⟩ := id S
  unfold fX_ValueMachine_choose at h
  refine Go.aload_n hx hb 0 rfl d_VM_choose_0 ?_
  refine Go.lload_n hx hb 1 rfl d_VM_choose_1 ?_
  refine Go.put (ty := (.long)) hx hb hts in_VM ty_VM tyok_VM nm_VM hown hK 0 (Xw_0 ad ca _) rfl 6 (by decide) (hts _ k_176) (fun _ h9 => h9) rfl (by decide +kernel) rfl rfl (Nat.le_of_ble_eq_true rfl) (uL st 1 a0) (Xs_L1 ad ca _ _) d_VM_choose_2 ?_
  refine Go.lload_n hx hb 1 rfl d_VM_choose_5 ?_
  obtain ⟨r1, s1, q1, h⟩ := gb_some h
  refine Go.callSi S hK hA (fun sz9 => m_Value_sortOf l D ad ca N _ sz9 _ r1 s1 q1) (va_cwS 1 hts (gwS k_235 k_236 k_72 k_237) rfl rfl rfl (by decide +kernel) ⟨Nat.le_of_ble_eq_true rfl, Nat.le_of_ble_eq_true rfl⟩) rfl rfl (Nat.le_of_ble_eq_true rfl) ⟨Nat.zero_le _, Nat.zero_le _⟩ d_VM_choose_6 ?_
  exact Go.iret hx hb hr hK hlk h d_VM_choose_9
set_option maxHeartbeats 4000000 in
set_option maxRecDepth 100000 in
theorem m_VM_look (l : Launch) (D : va_G) (ad : Nat → Nat) (ca : Nat → ClassId) (N : Nat) (st : SG) (sz : Nat) (a0 : Int32) (a1 : Int32) (r : Int32) (u : SG) (h : fX_ValueMachine_look N st a0 a1 = some (r, u)) : Met l y_VM_look (Cond.code y_VM_look c_VM_look 3 (some .int) :: tbl) ({ frames := 2, cells := 0, slots := 0, locals := 43 } : Room) (va_Pc [.ref (ad 0), .int a0, .int a1] (goPre (Xw ad ca) D vwCl (Xtys ca) sz st)) (va_Qi (fun r' u' => r' = r ∧ u' = u) (goPost (Xw ad ca) D vwCl (Xtys ca) (va_A (Xw ad ca st) sz)) (va_A (Xw ad ca st) sz)) 0 0 (va_A (Xw ad ca st) sz) := by
  refine go_met (Qc := fun A9 => va_Qi (fun r' u' => r' = r ∧ u' = u) (goPost (Xw ad ca) D vwCl (Xtys ca) A9) A9) (cc := c_VM_look) (maxL := 3) (ret := (some .int)) [(0, .ref (ad 0)), (1, .int a0), (2, .int a1)] (by decide) rfl (Nat.le_of_ble_eq_true rfl) rfl ?_
  intro p e s m below meth c A S hr hlk hK hA hsz
  obtain ⟨hx, hb, hml, hown, hts⟩ := id S
  unfold fX_ValueMachine_look at h
  refine Go.iload_n hx hb 1 rfl d_VM_look_0 ?_
  by_cases c1_0 : a0 = 0
  · replace h := (if_pos c1_0).symm.trans h
    refine Go.tin (tgt := 32) (off := 31) hx hb 0 c1_0 d_VM_look_1 (by decide) (by decide) rfl rfl ?_
    refine Go.aload_n hx hb 0 rfl d_VM_look_32 ?_
    refine Go.aload_n hx hb 0 rfl d_VM_look_33 ?_
    refine Go.get (v := .long (gL st 0)) hx hb hts in_VM hown hK 0 (Xw_0 ad ca _) rfl 5 (by decide) (hts _ k_175) (fun _ h9 => h9) rfl d_VM_look_34 ?_
    obtain ⟨r1, s1, q1, h⟩ := gb_some h
    refine Go.callVi S hK hA 0 (Xw_0 ad ca _) rfl (fun sz9 => m_VM_choose l D ad ca N _ sz9 _ r1 s1 q1) (cwV 1 hts (gwV k_231 k_233 k_1 k_62 k_234) rfl rfl rfl (by decide +kernel) ⟨Nat.le_of_ble_eq_true rfl, Nat.le_of_ble_eq_true rfl⟩) rfl rfl (Nat.le_of_ble_eq_true rfl) ⟨Nat.zero_le _, Nat.zero_le _⟩ d_VM_look_37 ?_
    exact Go.iret hx hb hr hK hlk h d_VM_look_40
  replace h := (if_neg c1_0).symm.trans h
  by_cases c1_1 : a0 = 1
  · replace h := (if_pos c1_1).symm.trans h
    refine Go.tin (tgt := 41) (off := 40) hx hb 1 c1_1 d_VM_look_1 (by decide) (by decide) rfl rfl ?_
    refine Go.aload_n hx hb 0 rfl d_VM_look_41 ?_
    refine Go.get (v := .ref (ad 4)) hx hb hts in_VM hown hK 0 (Xw_0 ad ca _) rfl 1 (by decide) (hts _ k_171) (fun _ h9 => h9) rfl d_VM_look_42 ?_
    refine Go.iload_n hx hb 2 rfl d_VM_look_45 ?_
    obtain ⟨r2, s2, q2, h⟩ := gb_some h
    refine Go.callVi S hK hA 4 (Xw_4 ad ca _) rfl (fun sz9 => m_ValueStack_reaches l D ad ca N _ sz9 _ r2 s2 q2) (cwV 1 hts (gwV k_238 k_239 k_240 k_64 k_241) rfl rfl rfl (by decide +kernel) ⟨Nat.le_of_ble_eq_true rfl, Nat.le_of_ble_eq_true rfl⟩) rfl rfl (Nat.le_of_ble_eq_true rfl) ⟨Nat.zero_le _, Nat.zero_le _⟩ d_VM_look_46 ?_
    refine Go.if_eq (tgt := 67) hx hb d_VM_look_49 rfl (fun c49 => ?_) (fun c49 => ?_)
    · replace h := (if_pos c49).symm.trans h
      refine Go.iconst (v := (-1)) hx hb (by decide) d_VM_look_67 ?_
      exact Go.iret hx hb hr hK hlk h d_VM_look_68
    · replace h := (if_neg c49).symm.trans h
      refine Go.aload_n hx hb 0 rfl d_VM_look_52 ?_
      refine Go.aload_n hx hb 0 rfl d_VM_look_53 ?_
      refine Go.get (v := .ref (ad 4)) hx hb hts in_VM hown hK 0 (Xw_0 ad ca _) rfl 1 (by decide) (hts _ k_171) (fun _ h9 => h9) rfl d_VM_look_54 ?_
      refine Go.iload_n hx hb 2 rfl d_VM_look_57 ?_
      obtain ⟨r3, s3, q3, h⟩ := gb_some h
      refine Go.callVl S hK hA 4 (Xw_4 ad ca _) rfl (fun sz9 => m_ValueStack_at l D ad ca N _ sz9 _ r3 s3 q3) (cwV 1 hts (gwV k_242 k_243 k_244 k_64 k_245) rfl rfl rfl (by decide +kernel) ⟨Nat.le_of_ble_eq_true rfl, Nat.le_of_ble_eq_true rfl⟩) rfl rfl (Nat.le_of_ble_eq_true rfl) ⟨Nat.zero_le _, Nat.zero_le _⟩ d_VM_look_58 ?_
      obtain ⟨r4, s4, q4, h⟩ := gb_some h
      refine Go.callVi S hK hA 0 (Xw_0 ad ca _) rfl (fun sz9 => m_VM_choose l D ad ca N _ sz9 _ r4 s4 q4) (cwV 1 hts (gwV k_231 k_233 k_1 k_62 k_234) rfl rfl rfl (by decide +kernel) ⟨Nat.le_of_ble_eq_true rfl, Nat.le_of_ble_eq_true rfl⟩) rfl rfl (Nat.le_of_ble_eq_true rfl) ⟨Nat.zero_le _, Nat.zero_le _⟩ d_VM_look_61 ?_
      refine Go.goto (tgt := 68) hx hb d_VM_look_64 rfl ?_
      exact Go.iret hx hb hr hK hlk h d_VM_look_68
  replace h := (if_neg c1_1).symm.trans h
  by_cases c1_2 : a0 = 2
  · replace h := (if_pos c1_2).symm.trans h
    refine Go.tin (tgt := 69) (off := 68) hx hb 2 c1_2 d_VM_look_1 (by decide) (by decide) rfl rfl ?_
    refine Go.iload_n hx hb 2 rfl d_VM_look_69 ?_
    obtain ⟨r5, s5, q5, h⟩ := gb_some h
    refine Go.callSi S hK hA (fun sz9 => m_VM_isGlobal l D ad ca N _ sz9 _ r5 s5 q5) (va_cwS 1 hts (gwS k_246 k_247 k_62 k_248) rfl rfl rfl (by decide +kernel) ⟨Nat.le_of_ble_eq_true rfl, Nat.le_of_ble_eq_true rfl⟩) rfl rfl (Nat.le_of_ble_eq_true rfl) ⟨Nat.zero_le _, Nat.zero_le _⟩ d_VM_look_70 ?_
    refine Go.if_eq (tgt := 89) hx hb d_VM_look_73 rfl (fun c73 => ?_) (fun c73 => ?_)
    · replace h := (if_pos c73).symm.trans h
      refine Go.iconst (v := (-1)) hx hb (by decide) d_VM_look_89 ?_
      exact Go.iret hx hb hr hK hlk h d_VM_look_90
    · replace h := (if_neg c73).symm.trans h
      refine Go.aload_n hx hb 0 rfl d_VM_look_76 ?_
      refine Go.aload_n hx hb 0 rfl d_VM_look_77 ?_
      refine Go.get (v := .ref (ad 15)) hx hb hts in_VM hown hK 0 (Xw_0 ad ca _) rfl 4 (by decide) (hts _ k_174) (fun _ h9 => h9) rfl d_VM_look_78 ?_
      refine Go.iload_n hx hb 2 rfl d_VM_look_81 ?_
      obtain ⟨c82, h⟩ := gg_some h
      refine Go.lald (v := gB s5 2 a1.toNatClampNeg) hx hb hK 15 10 (Xw_15 ad ca _) rfl c82 rfl d_VM_look_82 ?_
      obtain ⟨r6, s6, q6, h⟩ := gb_some h
      refine Go.callVi S hK hA 0 (Xw_0 ad ca _) rfl (fun sz9 => m_VM_choose l D ad ca N _ sz9 _ r6 s6 q6) (cwV 1 hts (gwV k_231 k_233 k_1 k_62 k_234) rfl rfl rfl (by decide +kernel) ⟨Nat.le_of_ble_eq_true rfl, Nat.le_of_ble_eq_true rfl⟩) rfl rfl (Nat.le_of_ble_eq_true rfl) ⟨Nat.zero_le _, Nat.zero_le _⟩ d_VM_look_83 ?_
      refine Go.goto (tgt := 90) hx hb d_VM_look_86 rfl ?_
      exact Go.iret hx hb hr hK hlk h d_VM_look_90
  replace h := (if_neg c1_2).symm.trans h
  by_cases c1_3 : a0 = 3
  · replace h := (if_pos c1_3).symm.trans h
    refine Go.tin (tgt := 91) (off := 90) hx hb 3 c1_3 d_VM_look_1 (by decide) (by decide) rfl rfl ?_
    refine Go.aload_n hx hb 0 rfl d_VM_look_91 ?_
    refine Go.get (v := .int (gI st 7)) hx hb hts in_VM hown hK 0 (Xw_0 ad ca _) rfl 8 (by decide) (hts _ k_178) (fun _ h9 => h9) rfl d_VM_look_92 ?_
    refine Go.if_eq (tgt := 109) hx hb d_VM_look_95 rfl (fun c95 => ?_) (fun c95 => ?_)
    · replace h := (if_pos c95).symm.trans h
      refine Go.iconst (v := (-1)) hx hb (by decide) d_VM_look_109 ?_
      exact Go.iret hx hb hr hK hlk h d_VM_look_110
    · replace h := (if_neg c95).symm.trans h
      refine Go.aload_n hx hb 0 rfl d_VM_look_98 ?_
      refine Go.aload_n hx hb 0 rfl d_VM_look_99 ?_
      refine Go.get (v := .long (gL st 2)) hx hb hts in_VM hown hK 0 (Xw_0 ad ca _) rfl 7 (by decide) (hts _ k_177) (fun _ h9 => h9) rfl d_VM_look_100 ?_
      obtain ⟨r7, s7, q7, h⟩ := gb_some h
      refine Go.callVi S hK hA 0 (Xw_0 ad ca _) rfl (fun sz9 => m_VM_choose l D ad ca N _ sz9 _ r7 s7 q7) (cwV 1 hts (gwV k_231 k_233 k_1 k_62 k_234) rfl rfl rfl (by decide +kernel) ⟨Nat.le_of_ble_eq_true rfl, Nat.le_of_ble_eq_true rfl⟩) rfl rfl (Nat.le_of_ble_eq_true rfl) ⟨Nat.zero_le _, Nat.zero_le _⟩ d_VM_look_103 ?_
      refine Go.goto (tgt := 110) hx hb d_VM_look_106 rfl ?_
      exact Go.iret hx hb hr hK hlk h d_VM_look_110
  replace h := (if_neg c1_3).symm.trans h
  have n1_0 := lv_neT (a := 0) c1_0 (by decide)
  have n1_1 := lv_neT (a := 1) c1_1 (by decide)
  have n1_2 := lv_neT (a := 2) c1_2 (by decide)
  have n1_3 := lv_neT (a := 3) c1_3 (by decide)
  refine Go.tout (tgt := 111) hx hb d_VM_look_1 (by omega) rfl ?_
  refine Go.iconst (v := (-1)) hx hb (by decide) d_VM_look_111 ?_
  exact Go.iret hx hb hr hK hlk h d_VM_look_112
set_option maxHeartbeats 4000000 in
set_option maxRecDepth 100000 in
theorem m_VM_into (l : Launch) (D : va_G) (ad : Nat → Nat) (ca : Nat → ClassId) (N : Nat) (st : SG) (sz : Nat) (a0 : Int32) (r : Int32) (u : SG) (h : fX_ValueMachine_into N st a0 = some (r, u)) : Met l y_VM_into (Cond.code y_VM_into c_VM_into 2 (some .int) :: tbl) ({ frames := 3, cells := 0, slots := 0, locals := 66 } : Room) (va_Pc [.ref (ad 0), .int a0] (goPre (Xw ad ca) D vwCl (Xtys ca) sz st)) (va_Qi (fun r' u' => r' = r ∧ u' = u) (goPost (Xw ad ca) D vwCl (Xtys ca) (va_A (Xw ad ca st) sz)) (va_A (Xw ad ca st) sz)) 0 0 (va_A (Xw ad ca st) sz) := by
  refine go_met (Qc := fun A9 => va_Qi (fun r' u' => r' = r ∧ u' = u) (goPost (Xw ad ca) D vwCl (Xtys ca) A9) A9) (cc := c_VM_into) (maxL := 2) (ret := (some .int)) [(0, .ref (ad 0)), (1, .int a0)] (by decide) rfl (Nat.le_of_ble_eq_true rfl) rfl ?_
  intro p e s m below meth c A S hr hlk hK hA hsz
  obtain ⟨hx, hb, hml, hown, hts⟩ := id S
  unfold fX_ValueMachine_into at h
  refine Go.aload_n hx hb 0 rfl d_VM_into_0 ?_
  refine Go.get (v := .long (gL st 1)) hx hb hts in_VM hown hK 0 (Xw_0 ad ca _) rfl 6 (by decide) (hts _ k_176) (fun _ h9 => h9) rfl d_VM_into_1 ?_
  obtain ⟨r1, s1, q1, h⟩ := gb_some h
  refine Go.callSi S hK hA (fun sz9 => m_Value_isThing l D ad ca N _ sz9 _ r1 s1 q1) (va_cwS 1 hts (gwS k_253 k_254 k_72 k_255) rfl rfl rfl (by decide +kernel) ⟨Nat.le_of_ble_eq_true rfl, Nat.le_of_ble_eq_true rfl⟩) rfl rfl (Nat.le_of_ble_eq_true rfl) ⟨Nat.zero_le _, Nat.zero_le _⟩ d_VM_into_4 ?_
  refine Go.if_eq (tgt := 25) hx hb d_VM_into_7 rfl (fun c7 => ?_) (fun c7 => ?_)
  · replace h := (if_pos c7).symm.trans h
    refine Go.iconst (v := (-1)) hx hb (by decide) d_VM_into_25 ?_
    exact Go.iret hx hb hr hK hlk h d_VM_into_26
  · replace h := (if_neg c7).symm.trans h
    refine Go.aload_n hx hb 0 rfl d_VM_into_10 ?_
    refine Go.get (v := .ref (ad 9)) hx hb hts in_VM hown hK 0 (Xw_0 ad ca _) rfl 3 (by decide) (hts _ k_173) (fun _ h9 => h9) rfl d_VM_into_11 ?_
    refine Go.aload_n hx hb 0 rfl d_VM_into_14 ?_
    refine Go.get (v := .long (gL s1 1)) hx hb hts in_VM hown hK 0 (Xw_0 ad ca _) rfl 6 (by decide) (hts _ k_176) (fun _ h9 => h9) rfl d_VM_into_15 ?_
    refine Go.iload_n hx hb 1 rfl d_VM_into_18 ?_
    obtain ⟨r2, s2, q2, h⟩ := gb_some h
    refine Go.callVi S hK hA 9 (Xw_9 ad ca _) rfl (fun sz9 => m_Store_hasPart l D ad ca N _ sz9 _ _ r2 s2 q2) (cwV 2 hts (gwV k_256 k_257 k_258 k_66 k_259) rfl rfl rfl (by decide +kernel) ⟨Nat.le_of_ble_eq_true rfl, Nat.le_of_ble_eq_true rfl⟩) rfl rfl (Nat.le_of_ble_eq_true rfl) ⟨Nat.zero_le _, Nat.zero_le _⟩ d_VM_into_19 ?_
    refine Go.if_ne (tgt := 27) hx hb d_VM_into_22 rfl (fun c22 => ?_) (fun c22 => ?_)
    · replace h := (if_neg c22).symm.trans h
      refine Go.aload_n hx hb 0 rfl d_VM_into_27 ?_
      refine Go.aload_n hx hb 0 rfl d_VM_into_28 ?_
      refine Go.get (v := .ref (ad 9)) hx hb hts in_VM hown hK 0 (Xw_0 ad ca _) rfl 3 (by decide) (hts _ k_173) (fun _ h9 => h9) rfl d_VM_into_29 ?_
      refine Go.aload_n hx hb 0 rfl d_VM_into_32 ?_
      refine Go.get (v := .long (gL s2 1)) hx hb hts in_VM hown hK 0 (Xw_0 ad ca _) rfl 6 (by decide) (hts _ k_176) (fun _ h9 => h9) rfl d_VM_into_33 ?_
      refine Go.iload_n hx hb 1 rfl d_VM_into_36 ?_
      obtain ⟨r3, s3, q3, h⟩ := gb_some h
      refine Go.callVl S hK hA 9 (Xw_9 ad ca _) rfl (fun sz9 => m_Store_part l D ad ca N _ sz9 _ _ r3 s3 q3) (cwV 2 hts (gwV k_267 k_268 k_269 k_66 k_270) rfl rfl rfl (by decide +kernel) ⟨Nat.le_of_ble_eq_true rfl, Nat.le_of_ble_eq_true rfl⟩) rfl rfl (Nat.le_of_ble_eq_true rfl) ⟨Nat.zero_le _, Nat.zero_le _⟩ d_VM_into_37 ?_
      obtain ⟨r4, s4, q4, h⟩ := gb_some h
      refine Go.callVi S hK hA 0 (Xw_0 ad ca _) rfl (fun sz9 => m_VM_choose l D ad ca N _ sz9 _ r4 s4 q4) (cwV 1 hts (gwV k_231 k_233 k_1 k_62 k_234) rfl rfl rfl (by decide +kernel) ⟨Nat.le_of_ble_eq_true rfl, Nat.le_of_ble_eq_true rfl⟩) rfl rfl (Nat.le_of_ble_eq_true rfl) ⟨Nat.zero_le _, Nat.zero_le _⟩ d_VM_into_40 ?_
      exact Go.iret hx hb hr hK hlk h d_VM_into_43
    · replace h := (if_pos c22).symm.trans h
      refine Go.iconst (v := (-1)) hx hb (by decide) d_VM_into_25 ?_
      exact Go.iret hx hb hr hK hlk h d_VM_into_26
set_option maxHeartbeats 4000000 in
set_option maxRecDepth 100000 in
theorem m_VM_value (l : Launch) (D : va_G) (ad : Nat → Nat) (ca : Nat → ClassId) (N : Nat) (st : SG) (sz : Nat) (r : Int32) (u : SG) (h : fX_ValueMachine_value N st = some (r, u)) : Met l y_VM_value (Cond.code y_VM_value c_VM_value 1 (some .int) :: tbl) ({ frames := 2, cells := 0, slots := 0, locals := 43 } : Room) (va_Pc [.ref (ad 0)] (goPre (Xw ad ca) D vwCl (Xtys ca) sz st)) (va_Qi (fun r' u' => r' = r ∧ u' = u) (goPost (Xw ad ca) D vwCl (Xtys ca) (va_A (Xw ad ca st) sz)) (va_A (Xw ad ca st) sz)) 0 0 (va_A (Xw ad ca st) sz) := by
  refine go_met (Qc := fun A9 => va_Qi (fun r' u' => r' = r ∧ u' = u) (goPost (Xw ad ca) D vwCl (Xtys ca) A9) A9) (cc := c_VM_value) (maxL := 1) (ret := (some .int)) [(0, .ref (ad 0))] (by decide) rfl (Nat.le_of_ble_eq_true rfl) rfl ?_
  intro p e s m below meth c A S hr hlk hK hA hsz
  obtain ⟨hx, hb, hml, hown, hts⟩ := id S
  unfold fX_ValueMachine_value at h
  refine Go.aload_n hx hb 0 rfl d_VM_value_0 ?_
  refine Go.get (v := .long (gL st 1)) hx hb hts in_VM hown hK 0 (Xw_0 ad ca _) rfl 6 (by decide) (hts _ k_176) (fun _ h9 => h9) rfl d_VM_value_1 ?_
  obtain ⟨r1, s1, q1, h⟩ := gb_some h
  refine Go.callSi S hK hA (fun sz9 => m_Value_sortOf l D ad ca N _ sz9 _ r1 s1 q1) (va_cwS 1 hts (gwS k_235 k_236 k_72 k_237) rfl rfl rfl (by decide +kernel) ⟨Nat.le_of_ble_eq_true rfl, Nat.le_of_ble_eq_true rfl⟩) rfl rfl (Nat.le_of_ble_eq_true rfl) ⟨Nat.zero_le _, Nat.zero_le _⟩ d_VM_value_4 ?_
  by_cases c7_0 : r1 = 3
  · replace h := (if_pos c7_0).symm.trans h
    refine Go.tin (tgt := 36) (off := 29) hx hb 3 c7_0 d_VM_value_7 (by decide) (by decide) rfl rfl ?_
    refine Go.aload_n hx hb 0 rfl d_VM_value_36 ?_
    refine Go.get (v := .long (gL s1 1)) hx hb hts in_VM hown hK 0 (Xw_0 ad ca _) rfl 6 (by decide) (hts _ k_176) (fun _ h9 => h9) rfl d_VM_value_37 ?_
    obtain ⟨r2, s2, q2, h⟩ := gb_some h
    refine Go.callSi S hK hA (fun sz9 => m_Value_numberOf l D ad ca N _ sz9 _ r2 s2 q2) (va_cwS 1 hts (gwS k_275 k_265 k_72 k_266) rfl rfl rfl (by decide +kernel) ⟨Nat.le_of_ble_eq_true rfl, Nat.le_of_ble_eq_true rfl⟩) rfl rfl (Nat.le_of_ble_eq_true rfl) ⟨Nat.zero_le _, Nat.zero_le _⟩ d_VM_value_40 ?_
    exact Go.iret hx hb hr hK hlk h d_VM_value_43
  replace h := (if_neg c7_0).symm.trans h
  by_cases c7_1 : r1 = 4
  · replace h := (if_pos c7_1).symm.trans h
    refine Go.tin (tgt := 56) (off := 49) hx hb 4 c7_1 d_VM_value_7 (by decide) (by decide) rfl rfl ?_
    refine Go.iconst (v := 0) hx hb (by decide) d_VM_value_56 ?_
    exact Go.iret hx hb hr hK hlk h d_VM_value_57
  replace h := (if_neg c7_1).symm.trans h
  by_cases c7_2 : r1 = 5
  · replace h := (if_pos c7_2).symm.trans h
    refine Go.tin (tgt := 44) (off := 37) hx hb 5 c7_2 d_VM_value_7 (by decide) (by decide) rfl rfl ?_
    refine Go.aload_n hx hb 0 rfl d_VM_value_44 ?_
    refine Go.get (v := .ref (ad 9)) hx hb hts in_VM hown hK 0 (Xw_0 ad ca _) rfl 3 (by decide) (hts _ k_173) (fun _ h9 => h9) rfl d_VM_value_45 ?_
    refine Go.aload_n hx hb 0 rfl d_VM_value_48 ?_
    refine Go.get (v := .long (gL s1 1)) hx hb hts in_VM hown hK 0 (Xw_0 ad ca _) rfl 6 (by decide) (hts _ k_176) (fun _ h9 => h9) rfl d_VM_value_49 ?_
    obtain ⟨r3, s3, q3, h⟩ := gb_some h
    refine Go.callVi S hK hA 9 (Xw_9 ad ca _) rfl (fun sz9 => m_Store_sizeOf l D ad ca N _ sz9 _ r3 s3 q3) (cwV 1 hts (gwV k_276 k_261 k_262 k_66 k_263) rfl rfl rfl (by decide +kernel) ⟨Nat.le_of_ble_eq_true rfl, Nat.le_of_ble_eq_true rfl⟩) rfl rfl (Nat.le_of_ble_eq_true rfl) ⟨Nat.zero_le _, Nat.zero_le _⟩ d_VM_value_52 ?_
    exact Go.iret hx hb hr hK hlk h d_VM_value_55
  replace h := (if_neg c7_2).symm.trans h
  by_cases c7_3 : r1 = 6
  · replace h := (if_pos c7_3).symm.trans h
    refine Go.tin (tgt := 36) (off := 29) hx hb 6 c7_3 d_VM_value_7 (by decide) (by decide) rfl rfl ?_
    refine Go.aload_n hx hb 0 rfl d_VM_value_36 ?_
    refine Go.get (v := .long (gL s1 1)) hx hb hts in_VM hown hK 0 (Xw_0 ad ca _) rfl 6 (by decide) (hts _ k_176) (fun _ h9 => h9) rfl d_VM_value_37 ?_
    obtain ⟨r4, s4, q4, h⟩ := gb_some h
    refine Go.callSi S hK hA (fun sz9 => m_Value_numberOf l D ad ca N _ sz9 _ r4 s4 q4) (va_cwS 1 hts (gwS k_275 k_265 k_72 k_266) rfl rfl rfl (by decide +kernel) ⟨Nat.le_of_ble_eq_true rfl, Nat.le_of_ble_eq_true rfl⟩) rfl rfl (Nat.le_of_ble_eq_true rfl) ⟨Nat.zero_le _, Nat.zero_le _⟩ d_VM_value_40 ?_
    exact Go.iret hx hb hr hK hlk h d_VM_value_43
  replace h := (if_neg c7_3).symm.trans h
  have n7_0 := lv_neT (a := 3) c7_0 (by decide)
  have n7_1 := lv_neT (a := 4) c7_1 (by decide)
  have n7_2 := lv_neT (a := 5) c7_2 (by decide)
  have n7_3 := lv_neT (a := 6) c7_3 (by decide)
  refine Go.tout (tgt := 56) hx hb d_VM_value_7 (by omega) rfl ?_
  refine Go.iconst (v := 0) hx hb (by decide) d_VM_value_56 ?_
  exact Go.iret hx hb hr hK hlk h d_VM_value_57
set_option maxHeartbeats 4000000 in
set_option maxRecDepth 100000 in
theorem m_VM_isSame (l : Launch) (D : va_G) (ad : Nat → Nat) (ca : Nat → ClassId) (N : Nat) (st : SG) (sz : Nat) (r : Int32) (u : SG) (h : fX_ValueMachine_isSame N st = some (r, u)) : Met l y_VM_isSame (Cond.code y_VM_isSame c_VM_isSame 1 (some .boolean) :: tbl) ({ frames := 0, cells := 0, slots := 0, locals := 0 } : Room) (va_Pc [.ref (ad 0)] (goPre (Xw ad ca) D vwCl (Xtys ca) sz st)) (va_Qi (fun r' u' => r' = r ∧ u' = u) (goPost (Xw ad ca) D vwCl (Xtys ca) (va_A (Xw ad ca st) sz)) (va_A (Xw ad ca st) sz)) 0 0 (va_A (Xw ad ca st) sz) := by
  refine go_met (Qc := fun A9 => va_Qi (fun r' u' => r' = r ∧ u' = u) (goPost (Xw ad ca) D vwCl (Xtys ca) A9) A9) (cc := c_VM_isSame) (maxL := 1) (ret := (some .boolean)) [(0, .ref (ad 0))] (by decide) rfl (Nat.le_of_ble_eq_true rfl) rfl ?_
  intro p e s m below meth c A S hr hlk hK hA hsz
  obtain ⟨hx, hb, hml, hown, hts⟩ := id S
  unfold fX_ValueMachine_isSame at h
  refine Go.aload_n hx hb 0 rfl d_VM_isSame_0 ?_
  refine Go.get (v := .long (gL st 1)) hx hb hts in_VM hown hK 0 (Xw_0 ad ca _) rfl 6 (by decide) (hts _ k_176) (fun _ h9 => h9) rfl d_VM_isSame_1 ?_
  refine Go.aload_n hx hb 0 rfl d_VM_isSame_4 ?_
  refine Go.get (v := .long (gL st 0)) hx hb hts in_VM hown hK 0 (Xw_0 ad ca _) rfl 5 (by decide) (hts _ k_175) (fun _ h9 => h9) rfl d_VM_isSame_5 ?_
  refine Go.lcmp_ne (tgt := 16) hx hb d_VM_isSame_8 d_VM_isSame_9 rfl (fun c8 => ?_) (fun c8 => ?_)
  · replace h := (if_neg c8).symm.trans h
    refine Go.iconst (v := 0) hx hb (by decide) d_VM_isSame_16 ?_
    exact Go.zret hx hb hr hK hlk rfl h d_VM_isSame_17
  · replace h := (if_pos c8).symm.trans h
    refine Go.iconst (v := 1) hx hb (by decide) d_VM_isSame_12 ?_
    refine Go.goto (tgt := 17) hx hb d_VM_isSame_13 rfl ?_
    exact Go.zret hx hb hr hK hlk rfl h d_VM_isSame_17
set_option maxHeartbeats 4000000 in
set_option maxRecDepth 100000 in
theorem m_VM_count (l : Launch) (D : va_G) (ad : Nat → Nat) (ca : Nat → ClassId) (N : Nat) (st : SG) (sz : Nat) (a0 : Int32) (r : Int32) (u : SG) (h : fX_ValueMachine_count N st a0 = some (r, u)) : Met l y_VM_count (Cond.code y_VM_count c_VM_count 2 (some .int) :: tbl) ({ frames := 0, cells := 0, slots := 0, locals := 0 } : Room) (va_Pc [.ref (ad 0), .int a0] (goPre (Xw ad ca) D vwCl (Xtys ca) sz st)) (va_Qi (fun r' u' => r' = r ∧ u' = u) (goPost (Xw ad ca) D vwCl (Xtys ca) (va_A (Xw ad ca st) sz)) (va_A (Xw ad ca st) sz)) 0 0 (va_A (Xw ad ca st) sz) := by
  refine go_met (Qc := fun A9 => va_Qi (fun r' u' => r' = r ∧ u' = u) (goPost (Xw ad ca) D vwCl (Xtys ca) A9) A9) (cc := c_VM_count) (maxL := 2) (ret := (some .int)) [(0, .ref (ad 0)), (1, .int a0)] (by decide) rfl (Nat.le_of_ble_eq_true rfl) rfl ?_
  intro p e s m below meth c A S hr hlk hK hA hsz
  obtain ⟨hx, hb, hml, hown, hts⟩ := id S
  unfold fX_ValueMachine_count at h
  refine Go.iload_n hx hb 1 rfl d_VM_count_0 ?_
  by_cases c1_0 : a0 = 0
  · replace h := (if_pos c1_0).symm.trans h
    refine Go.tin (tgt := 52) (off := 51) hx hb 0 c1_0 d_VM_count_1 (by decide) (by decide) rfl rfl ?_
    refine Go.aload_n hx hb 0 rfl d_VM_count_52 ?_
    refine Go.get (v := .ref (ad 1)) hx hb hts in_VM hown hK 0 (Xw_0 ad ca _) rfl 0 (by decide) (hts _ k_170) (fun _ h9 => h9) rfl d_VM_count_53 ?_
    refine Go.get (v := .int (gI st 0)) hx hb hts in_Code hown hK 1 (Xw_1 ad ca _) rfl 2 (by decide) (hts _ k_91) (fun _ h9 => h9) rfl d_VM_count_56 ?_
    exact Go.iret hx hb hr hK hlk h d_VM_count_59
  replace h := (if_neg c1_0).symm.trans h
  by_cases c1_1 : a0 = 1
  · replace h := (if_pos c1_1).symm.trans h
    refine Go.tin (tgt := 60) (off := 59) hx hb 1 c1_1 d_VM_count_1 (by decide) (by decide) rfl rfl ?_
    refine Go.aload_n hx hb 0 rfl d_VM_count_60 ?_
    refine Go.get (v := .int (gI st 8)) hx hb hts in_VM hown hK 0 (Xw_0 ad ca _) rfl 9 (by decide) (hts _ k_179) (fun _ h9 => h9) rfl d_VM_count_61 ?_
    exact Go.iret hx hb hr hK hlk h d_VM_count_64
  replace h := (if_neg c1_1).symm.trans h
  by_cases c1_2 : a0 = 2
  · replace h := (if_pos c1_2).symm.trans h
    refine Go.tin (tgt := 65) (off := 64) hx hb 2 c1_2 d_VM_count_1 (by decide) (by decide) rfl rfl ?_
    refine Go.aload_n hx hb 0 rfl d_VM_count_65 ?_
    refine Go.get (v := .ref (ad 4)) hx hb hts in_VM hown hK 0 (Xw_0 ad ca _) rfl 1 (by decide) (hts _ k_171) (fun _ h9 => h9) rfl d_VM_count_66 ?_
    refine Go.get (v := .int (gI st 1)) hx hb hts in_ValueStack hown hK 4 (Xw_4 ad ca _) rfl 1 (by decide) (hts _ k_108) (fun _ h9 => h9) rfl d_VM_count_69 ?_
    exact Go.iret hx hb hr hK hlk h d_VM_count_72
  replace h := (if_neg c1_2).symm.trans h
  by_cases c1_3 : a0 = 3
  · replace h := (if_pos c1_3).symm.trans h
    refine Go.tin (tgt := 73) (off := 72) hx hb 3 c1_3 d_VM_count_1 (by decide) (by decide) rfl rfl ?_
    refine Go.aload_n hx hb 0 rfl d_VM_count_73 ?_
    refine Go.get (v := .ref (ad 6)) hx hb hts in_VM hown hK 0 (Xw_0 ad ca _) rfl 2 (by decide) (hts _ k_172) (fun _ h9 => h9) rfl d_VM_count_74 ?_
    refine Go.get (v := .int (gI st 2)) hx hb hts in_Notes hown hK 6 (Xw_6 ad ca _) rfl 2 (by decide) (hts _ k_124) (fun _ h9 => h9) rfl d_VM_count_77 ?_
    exact Go.iret hx hb hr hK hlk h d_VM_count_80
  replace h := (if_neg c1_3).symm.trans h
  by_cases c1_4 : a0 = 4
  · replace h := (if_pos c1_4).symm.trans h
    refine Go.tin (tgt := 81) (off := 80) hx hb 4 c1_4 d_VM_count_1 (by decide) (by decide) rfl rfl ?_
    refine Go.aload_n hx hb 0 rfl d_VM_count_81 ?_
    refine Go.get (v := .ref (ad 9)) hx hb hts in_VM hown hK 0 (Xw_0 ad ca _) rfl 3 (by decide) (hts _ k_173) (fun _ h9 => h9) rfl d_VM_count_82 ?_
    refine Go.get (v := .int (gI st 4)) hx hb hts in_Store hown hK 9 (Xw_9 ad ca _) rfl 6 (by decide) (hts _ k_145) (fun _ h9 => h9) rfl d_VM_count_85 ?_
    exact Go.iret hx hb hr hK hlk h d_VM_count_88
  replace h := (if_neg c1_4).symm.trans h
  by_cases c1_5 : a0 = 5
  · replace h := (if_pos c1_5).symm.trans h
    refine Go.tin (tgt := 89) (off := 88) hx hb 5 c1_5 d_VM_count_1 (by decide) (by decide) rfl rfl ?_
    refine Go.aload_n hx hb 0 rfl d_VM_count_89 ?_
    refine Go.get (v := .ref (ad 9)) hx hb hts in_VM hown hK 0 (Xw_0 ad ca _) rfl 3 (by decide) (hts _ k_173) (fun _ h9 => h9) rfl d_VM_count_90 ?_
    refine Go.get (v := .int (gI st 5)) hx hb hts in_Store hown hK 9 (Xw_9 ad ca _) rfl 7 (by decide) (hts _ k_147) (fun _ h9 => h9) rfl d_VM_count_93 ?_
    exact Go.iret hx hb hr hK hlk h d_VM_count_96
  replace h := (if_neg c1_5).symm.trans h
  by_cases c1_6 : a0 = 6
  · replace h := (if_pos c1_6).symm.trans h
    refine Go.tin (tgt := 97) (off := 96) hx hb 6 c1_6 d_VM_count_1 (by decide) (by decide) rfl rfl ?_
    refine Go.aload_n hx hb 0 rfl d_VM_count_97 ?_
    refine Go.get (v := .ref (ad 9)) hx hb hts in_VM hown hK 0 (Xw_0 ad ca _) rfl 3 (by decide) (hts _ k_173) (fun _ h9 => h9) rfl d_VM_count_98 ?_
    refine Go.get (v := .int (gI st 6)) hx hb hts in_Store hown hK 9 (Xw_9 ad ca _) rfl 8 (by decide) (hts _ k_149) (fun _ h9 => h9) rfl d_VM_count_101 ?_
    exact Go.iret hx hb hr hK hlk h d_VM_count_104
  replace h := (if_neg c1_6).symm.trans h
  by_cases c1_7 : a0 = 7
  · replace h := (if_pos c1_7).symm.trans h
    refine Go.tin (tgt := 105) (off := 104) hx hb 7 c1_7 d_VM_count_1 (by decide) (by decide) rfl rfl ?_
    refine Go.aload_n hx hb 0 rfl d_VM_count_105 ?_
    refine Go.get (v := .int (gI st 9)) hx hb hts in_VM hown hK 0 (Xw_0 ad ca _) rfl 10 (by decide) (hts _ k_180) (fun _ h9 => h9) rfl d_VM_count_106 ?_
    exact Go.iret hx hb hr hK hlk h d_VM_count_109
  replace h := (if_neg c1_7).symm.trans h
  by_cases c1_8 : a0 = 8
  · replace h := (if_pos c1_8).symm.trans h
    refine Go.tin (tgt := 110) (off := 109) hx hb 8 c1_8 d_VM_count_1 (by decide) (by decide) rfl rfl ?_
    refine Go.aload_n hx hb 0 rfl d_VM_count_110 ?_
    refine Go.get (v := .int (gI st 10)) hx hb hts in_VM hown hK 0 (Xw_0 ad ca _) rfl 11 (by decide) (hts _ k_181) (fun _ h9 => h9) rfl d_VM_count_111 ?_
    exact Go.iret hx hb hr hK hlk h d_VM_count_114
  replace h := (if_neg c1_8).symm.trans h
  have n1_0 := lv_neT (a := 0) c1_0 (by decide)
  have n1_1 := lv_neT (a := 1) c1_1 (by decide)
  have n1_2 := lv_neT (a := 2) c1_2 (by decide)
  have n1_3 := lv_neT (a := 3) c1_3 (by decide)
  have n1_4 := lv_neT (a := 4) c1_4 (by decide)
  have n1_5 := lv_neT (a := 5) c1_5 (by decide)
  have n1_6 := lv_neT (a := 6) c1_6 (by decide)
  have n1_7 := lv_neT (a := 7) c1_7 (by decide)
  have n1_8 := lv_neT (a := 8) c1_8 (by decide)
  refine Go.tout (tgt := 115) hx hb d_VM_count_1 (by omega) rfl ?_
  refine Go.iconst (v := (-1)) hx hb (by decide) d_VM_count_115 ?_
  exact Go.iret hx hb hr hK hlk h d_VM_count_116
