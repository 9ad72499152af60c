set_option maxHeartbeats 4000000 in
set_option maxRecDepth 100000 in
theorem m_Ref_run (l : Launch) (D : va_G) (ad : Nat → Nat) (ca : Nat → ClassId) (N : Nat) (st : SG) (sz : Nat) (a0 : Int32) (r : Int32) (u : SG) (h : fR_ValueMachineModel_run N st a0 = some (r, u)) : Met l y_Ref_run (Cond.code y_Ref_run c_Ref_run 3 (some .int) :: tbl) ({ frames := 5, cells := 0, slots := 0, locals := 115 } : Room) (va_Pc [.ref (ad 0), .int a0] (goPre (Rw ad ca) D vwCl (Rtys ca) sz st)) (va_Qi (fun r' u' => r' = r ∧ u' = u) (goPost (Rw ad ca) D vwCl (Rtys ca) (va_A (Rw ad ca st) sz)) (va_A (Rw ad ca st) sz)) 0 0 (va_A (Rw ad ca st) sz) := by
  refine go_met (Qc := fun A9 => va_Qi (fun r' u' => r' = r ∧ u' = u) (goPost (Rw ad ca) D vwCl (Rtys ca) A9) A9) (cc := c_Ref_run) (maxL := 3) (ret := (some .int)) [(0, .ref (ad 0)), (1, .int a0)] (by decide) rfl (Nat.le_of_ble_eq_true rfl) rfl ?_
  intro p e s m below meth c A S hr hlk hK hA hsz
  obtain ⟨hx, hb, hml, hown, hts⟩ := id S
  unfold fR_ValueMachineModel_run at h
  have L41 : ∀ (n : Nat) (v1 : Int32) (v2 : Int32) (st : SG), fR_ValueMachineModel_run_L41 N n v1 v2 st = some (r, u) → Go (Rw ad ca) D vwCl A s.heap 3 p l e ({ frames := 5, cells := 0, slots := 0, locals := 115 } : Room) s m ([.ref (ad 0), .int a0] : List Value).toArray below meth c 0 0 (MQ below (va_Qi (fun r' u' => r' = r ∧ u' = u) (goPost (Rw ad ca) D vwCl (Rtys ca) A) A) ([.ref (ad 0), .int a0] : List Value).toArray s 0 0 A) 41 [(0, .ref (ad 0)), (1, .int v1), (2, .int v2)] [] st := by
    intro n
    induction n with
    | zero => intro v1 v2 st h; cases h
    | succ n ih =>
      intro v1 v2 st h
      unfold fR_ValueMachineModel_run_L41 at h
      refine Go.iload_n hx hb 2 rfl d_Ref_run_41 ?_
      refine Go.iload_n hx hb 1 rfl d_Ref_run_42 ?_
      refine Go.icmp_ge (tgt := 74) hx hb d_Ref_run_43 rfl (fun c43 => ?_) (fun c43 => ?_)
      · replace h := (if_pos c43).symm.trans h
        refine Go.iload_n hx hb 2 rfl d_Ref_run_74 ?_
        exact Go.iret hx hb hr hK hlk h d_Ref_run_75
      · replace h := (if_neg c43).symm.trans h
        refine Go.aload_n hx hb 0 rfl d_Ref_run_46 ?_
        refine Go.get (v := .int (gI st 7)) hx hb hts in_Ref hown hK 0 (Rw_0 ad ca _) rfl 20 (by decide) (hts _ k_635) (fun _ h9 => h9) rfl d_Ref_run_47 ?_
        refine Go.if_ne (tgt := 74) hx hb d_Ref_run_50 rfl (fun c50 => ?_) (fun c50 => ?_)
        · replace h := (if_neg c50).symm.trans h
          refine Go.iload_n hx hb 2 rfl d_Ref_run_74 ?_
          exact Go.iret hx hb hr hK hlk h d_Ref_run_75
        · replace h := (if_pos c50).symm.trans h
          refine Go.aload_n hx hb 0 rfl d_Ref_run_53 ?_
          refine Go.get (v := .int (gI st 6)) hx hb hts in_Ref hown hK 0 (Rw_0 ad ca _) rfl 19 (by decide) (hts _ k_634) (fun _ h9 => h9) rfl d_Ref_run_54 ?_
          refine Go.aload_n hx hb 0 rfl d_Ref_run_57 ?_
          refine Go.get (v := .int (gI st 1)) hx hb hts in_Ref hown hK 0 (Rw_0 ad ca _) rfl 3 (by decide) (hts _ k_618) (fun _ h9 => h9) rfl d_Ref_run_58 ?_
          refine Go.icmp_ge (tgt := 74) hx hb d_Ref_run_61 rfl (fun c61 => ?_) (fun c61 => ?_)
          · replace h := (if_pos c61).symm.trans h
            refine Go.iload_n hx hb 2 rfl d_Ref_run_74 ?_
            exact Go.iret hx hb hr hK hlk h d_Ref_run_75
          · replace h := (if_neg c61).symm.trans h
            refine Go.aload_n hx hb 0 rfl d_Ref_run_64 ?_
            obtain ⟨_, s1, q1, h⟩ := gb_some h
            refine Go.callVv S hK hA 0 (Rw_0 ad ca _) rfl (fun sz9 => m_Ref_step l D ad ca N _ sz9 _ s1 q1) (cwV 0 hts (gwV k_727 k_729 k_35 k_67 k_730) rfl rfl rfl (by decide +kernel) ⟨Nat.le_of_ble_eq_true rfl, Nat.le_of_ble_eq_true rfl⟩) rfl rfl (Nat.le_of_ble_eq_true rfl) ⟨Nat.zero_le _, Nat.zero_le _⟩ d_Ref_run_65 ?_
            refine Go.iinc (v := v2 + 1) (lv' := [(2, .int (v2 + 1)), (0, .ref (ad 0)), (1, .int v1)]) hx hb 2 rfl rfl (Nat.le_of_ble_eq_true rfl) rfl d_Ref_run_68 ?_
            refine Go.goto (tgt := 41) hx hb d_Ref_run_71 rfl ?_
            refine Go.sub [1, 2, 0] rfl ?_
            exact ih _ _ _ h
  refine Go.aload_n hx hb 0 rfl d_Ref_run_0 ?_
  refine Go.iload_n hx hb 1 rfl d_Ref_run_1 ?_
  refine Go.if_lt (tgt := 12) hx hb d_Ref_run_2 rfl (fun c2 => ?_) (fun c2 => ?_)
  · replace h := (if_pos c2).symm.trans h
    refine Go.iconst (v := 1) hx hb (by decide) d_Ref_run_12 ?_
    refine Go.goto (tgt := 17) hx hb d_Ref_run_13 rfl ?_
    refine Go.put (ty := (.int)) hx hb hts in_Ref ty_Ref tyok_Ref nm_Ref hown hK 0 (Rw_0 ad ca _) rfl 0 (by decide) (hts _ k_615) (fun _ h9 => h9) rfl (by decide +kernel) rfl rfl (Nat.le_of_ble_eq_true rfl) (uI st 0 1) (Rs_I0 ad ca _ _) d_Ref_run_17 ?_
    refine Go.aload_n hx hb 0 rfl d_Ref_run_20 ?_
    refine Go.get (v := .int 1) hx hb hts in_Ref hown hK 0 (Rw_0 ad ca _) rfl 0 (by decide) (hts _ k_615) (fun _ h9 => h9) rfl d_Ref_run_21 ?_
    refine Go.if_le (tgt := 29) hx hb d_Ref_run_24 rfl (fun z9 => absurd z9 (by decide)) (fun _ => ?_)
    refine Go.iconst (v := 0) hx hb (by decide) d_Ref_run_27 ?_
    exact Go.iret hx hb hr hK hlk h d_Ref_run_28
  · replace h := (if_neg c2).symm.trans h
    refine Go.iload_n hx hb 1 rfl d_Ref_run_5 ?_
    refine Go.sipush (v := 20000) hx hb (by decide) d_Ref_run_6 ?_
    refine Go.icmp_le (tgt := 16) hx hb d_Ref_run_9 rfl (fun c9 => ?_) (fun c9 => ?_)
    · replace h := (if_pos c9).symm.trans h
      refine Go.iconst (v := 0) hx hb (by decide) d_Ref_run_16 ?_
      refine Go.put (ty := (.int)) hx hb hts in_Ref ty_Ref tyok_Ref nm_Ref hown hK 0 (Rw_0 ad ca _) rfl 0 (by decide) (hts _ k_615) (fun _ h9 => h9) rfl (by decide +kernel) rfl rfl (Nat.le_of_ble_eq_true rfl) (uI st 0 0) (Rs_I0 ad ca _ _) d_Ref_run_17 ?_
      refine Go.aload_n hx hb 0 rfl d_Ref_run_20 ?_
      refine Go.get (v := .int 0) hx hb hts in_Ref hown hK 0 (Rw_0 ad ca _) rfl 0 (by decide) (hts _ k_615) (fun _ h9 => h9) rfl d_Ref_run_21 ?_
      refine Go.if_le (tgt := 29) hx hb d_Ref_run_24 rfl (fun _ => ?_) (fun z9 => absurd (by decide) z9)
      refine Go.aload_n hx hb 0 rfl d_Ref_run_29 ?_
      refine Go.iconst (v := 0) hx hb (by decide) d_Ref_run_30 ?_
      refine Go.put (ty := (.int)) hx hb hts in_Ref ty_Ref tyok_Ref nm_Ref hown hK 0 (Rw_0 ad ca _) rfl 23 (by decide) (hts _ k_638) (fun _ h9 => h9) rfl (by decide +kernel) rfl rfl (Nat.le_of_ble_eq_true rfl) (uI (uI st 0 0) 10 0) (Rs_I10 ad ca _ _) d_Ref_run_31 ?_
      refine Go.aload_n hx hb 0 rfl d_Ref_run_34 ?_
      refine Go.iconst (v := 0) hx hb (by decide) d_Ref_run_35 ?_
      refine Go.put (ty := (.int)) hx hb hts in_Ref ty_Ref tyok_Ref nm_Ref hown hK 0 (Rw_0 ad ca _) rfl 24 (by decide) (hts _ k_639) (fun _ h9 => h9) rfl (by decide +kernel) rfl rfl (Nat.le_of_ble_eq_true rfl) (uI (uI (uI st 0 0) 10 0) 11 0) (Rs_I11 ad ca _ _) d_Ref_run_36 ?_
      refine Go.iconst (v := 0) hx hb (by decide) d_Ref_run_39 ?_
      refine Go.istore_n (i := 2) (lv' := [(2, .int 0), (0, .ref (ad 0)), (1, .int a0)]) hx hb rfl (Nat.le_of_ble_eq_true rfl) rfl d_Ref_run_40 ?_
      refine Go.sub [1, 2, 0] rfl ?_
      exact L41 N _ _ _ h
    · replace h := (if_neg c9).symm.trans h
      refine Go.iconst (v := 1) hx hb (by decide) d_Ref_run_12 ?_
      refine Go.goto (tgt := 17) hx hb d_Ref_run_13 rfl ?_
      refine Go.put (ty := (.int)) hx hb hts in_Ref ty_Ref tyok_Ref nm_Ref hown hK 0 (Rw_0 ad ca _) rfl 0 (by decide) (hts _ k_615) (fun _ h9 => h9) rfl (by decide +kernel) rfl rfl (Nat.le_of_ble_eq_true rfl) (uI st 0 1) (Rs_I0 ad ca _ _) d_Ref_run_17 ?_
      refine Go.aload_n hx hb 0 rfl d_Ref_run_20 ?_
      refine Go.get (v := .int 1) hx hb hts in_Ref hown hK 0 (Rw_0 ad ca _) rfl 0 (by decide) (hts _ k_615) (fun _ h9 => h9) rfl d_Ref_run_21 ?_
      refine Go.if_le (tgt := 29) hx hb d_Ref_run_24 rfl (fun z9 => absurd z9 (by decide)) (fun _ => ?_)
      refine Go.iconst (v := 0) hx hb (by decide) d_Ref_run_27 ?_
      exact Go.iret hx hb hr hK hlk h d_Ref_run_28
set_option maxHeartbeats 4000000 in
set_option maxRecDepth 100000 in
theorem m_Ref_state (l : Launch) (D : va_G) (ad : Nat → Nat) (ca : Nat → ClassId) (N : Nat) (st : SG) (sz : Nat) (r : Int32) (u : SG) (h : fR_ValueMachineModel_state N st = some (r, u)) : Met l y_Ref_state (Cond.code y_Ref_state c_Ref_state 1 (some .int) :: tbl) ({ frames := 0, cells := 0, slots := 0, locals := 0 } : Room) (va_Pc [.ref (ad 0)] (goPre (Rw ad ca) D vwCl (Rtys ca) sz st)) (va_Qi (fun r' u' => r' = r ∧ u' = u) (goPost (Rw ad ca) D vwCl (Rtys ca) (va_A (Rw ad ca st) sz)) (va_A (Rw ad ca st) sz)) 0 0 (va_A (Rw ad ca st) sz) := by
  refine go_met (Qc := fun A9 => va_Qi (fun r' u' => r' = r ∧ u' = u) (goPost (Rw ad ca) D vwCl (Rtys ca) A9) A9) (cc := c_Ref_state) (maxL := 1) (ret := (some .int)) [(0, .ref (ad 0))] (by decide) rfl (Nat.le_of_ble_eq_true rfl) rfl ?_
  intro p e s m below meth c A S hr hlk hK hA hsz
  obtain ⟨hx, hb, hml, hown, hts⟩ := id S
  unfold fR_ValueMachineModel_state at h
  refine Go.aload_n hx hb 0 rfl d_Ref_state_0 ?_
  refine Go.iconst (v := 0) hx hb (by decide) d_Ref_state_1 ?_
  refine Go.put (ty := (.int)) hx hb hts in_Ref ty_Ref tyok_Ref nm_Ref hown hK 0 (Rw_0 ad ca _) rfl 0 (by decide) (hts _ k_615) (fun _ h9 => h9) rfl (by decide +kernel) rfl rfl (Nat.le_of_ble_eq_true rfl) (uI st 0 0) (Rs_I0 ad ca _ _) d_Ref_state_2 ?_
  refine Go.aload_n hx hb 0 rfl d_Ref_state_5 ?_
  refine Go.get (v := .int (gI st 7)) hx hb hts in_Ref hown hK 0 (Rw_0 ad ca _) rfl 20 (by decide) (hts _ k_635) (fun _ h9 => h9) rfl d_Ref_state_6 ?_
  refine Go.if_eq (tgt := 16) hx hb d_Ref_state_9 rfl (fun c9 => ?_) (fun c9 => ?_)
  · replace h := (if_pos c9).symm.trans h
    refine Go.aload_n hx hb 0 rfl d_Ref_state_16 ?_
    refine Go.get (v := .int (gI st 6)) hx hb hts in_Ref hown hK 0 (Rw_0 ad ca _) rfl 19 (by decide) (hts _ k_634) (fun _ h9 => h9) rfl d_Ref_state_17 ?_
    refine Go.aload_n hx hb 0 rfl d_Ref_state_20 ?_
    refine Go.get (v := .int (gI st 1)) hx hb hts in_Ref hown hK 0 (Rw_0 ad ca _) rfl 3 (by decide) (hts _ k_618) (fun _ h9 => h9) rfl d_Ref_state_21 ?_
    refine Go.icmp_ne (tgt := 31) hx hb d_Ref_state_24 rfl (fun c24 => ?_) (fun c24 => ?_)
    · replace h := (if_neg c24).symm.trans h
      refine Go.iconst (v := 0) hx hb (by decide) d_Ref_state_31 ?_
      exact Go.iret hx hb hr hK hlk h d_Ref_state_32
    · replace h := (if_pos c24).symm.trans h
      refine Go.iconst (v := 1) hx hb (by decide) d_Ref_state_27 ?_
      refine Go.goto (tgt := 32) hx hb d_Ref_state_28 rfl ?_
      exact Go.iret hx hb hr hK hlk h d_Ref_state_32
  · replace h := (if_neg c9).symm.trans h
    refine Go.iconst (v := 2) hx hb (by decide) d_Ref_state_12 ?_
    refine Go.goto (tgt := 32) hx hb d_Ref_state_13 rfl ?_
    exact Go.iret hx hb hr hK hlk h d_Ref_state_32
set_option maxHeartbeats 4000000 in
set_option maxRecDepth 100000 in
theorem m_Ref_chooses (l : Launch) (D : va_G) (ad : Nat → Nat) (ca : Nat → ClassId) (N : Nat) (st : SG) (sz : Nat) (a0 : Int32) (a1 : Int32) (r : Int32) (u : SG) (h : fR_ValueMachineModel_chooses N st a0 a1 = some (r, u)) : Met l y_Ref_chooses (Cond.code y_Ref_chooses c_Ref_chooses 3 (some .int) :: tbl) ({ frames := 0, cells := 0, slots := 0, locals := 0 } : Room) (va_Pc [.ref (ad 0), .int a0, .int a1] (goPre (Rw ad ca) D vwCl (Rtys ca) sz st)) (va_Qi (fun r' u' => r' = r ∧ u' = u) (goPost (Rw ad ca) D vwCl (Rtys ca) (va_A (Rw ad ca st) sz)) (va_A (Rw ad ca st) sz)) 0 0 (va_A (Rw ad ca st) sz) := by
  refine go_met (Qc := fun A9 => va_Qi (fun r' u' => r' = r ∧ u' = u) (goPost (Rw ad ca) D vwCl (Rtys ca) A9) A9) (cc := c_Ref_chooses) (maxL := 3) (ret := (some .int)) [(0, .ref (ad 0)), (1, .int a0), (2, .int a1)] (by decide) rfl (Nat.le_of_ble_eq_true rfl) rfl ?_
  intro p e s m below meth c A S hr hlk hK hA hsz
  obtain ⟨hx, hb, hml, hown, hts⟩ := id S
  unfold fR_ValueMachineModel_chooses at h
  refine Go.aload_n hx hb 0 rfl d_Ref_chooses_0 ?_
  refine Go.iload_n hx hb 1 rfl d_Ref_chooses_1 ?_
  refine Go.put (ty := (.int)) hx hb hts in_Ref ty_Ref tyok_Ref nm_Ref hown hK 0 (Rw_0 ad ca _) rfl 23 (by decide) (hts _ k_638) (fun _ h9 => h9) rfl (by decide +kernel) rfl rfl (Nat.le_of_ble_eq_true rfl) (uI st 10 a0) (Rs_I10 ad ca _ _) d_Ref_chooses_2 ?_
  refine Go.aload_n hx hb 0 rfl d_Ref_chooses_5 ?_
  refine Go.iload_n hx hb 2 rfl d_Ref_chooses_6 ?_
  refine Go.put (ty := (.int)) hx hb hts in_Ref ty_Ref tyok_Ref nm_Ref hown hK 0 (Rw_0 ad ca _) rfl 24 (by decide) (hts _ k_639) (fun _ h9 => h9) rfl (by decide +kernel) rfl rfl (Nat.le_of_ble_eq_true rfl) (uI (uI st 10 a0) 11 a1) (Rs_I11 ad ca _ _) d_Ref_chooses_7 ?_
  refine Go.iload_n hx hb 1 rfl d_Ref_chooses_10 ?_
  exact Go.iret hx hb hr hK hlk h d_Ref_chooses_11
set_option maxHeartbeats 4000000 in
set_option maxRecDepth 100000 in
theorem m_Ref_look (l : Launch) (D : va_G) (ad : Nat → Nat) (ca : Nat → ClassId) (N : Nat) (st : SG) (sz : Nat) (a0 : Int32) (a1 : Int32) (r : Int32) (u : SG) (h : fR_ValueMachineModel_look N st a0 a1 = some (r, u)) : Met l y_Ref_look (Cond.code y_Ref_look c_Ref_look 3 (some .int) :: tbl) ({ frames := 1, cells := 0, slots := 0, locals := 22 } : Room) (va_Pc [.ref (ad 0), .int a0, .int a1] (goPre (Rw ad ca) D vwCl (Rtys ca) sz st)) (va_Qi (fun r' u' => r' = r ∧ u' = u) (goPost (Rw ad ca) D vwCl (Rtys ca) (va_A (Rw ad ca st) sz)) (va_A (Rw ad ca st) sz)) 0 0 (va_A (Rw ad ca st) sz) := by
  refine go_met (Qc := fun A9 => va_Qi (fun r' u' => r' = r ∧ u' = u) (goPost (Rw ad ca) D vwCl (Rtys ca) A9) A9) (cc := c_Ref_look) (maxL := 3) (ret := (some .int)) [(0, .ref (ad 0)), (1, .int a0), (2, .int a1)] (by decide) rfl (Nat.le_of_ble_eq_true rfl) rfl ?_
  intro p e s m below meth c A S hr hlk hK hA hsz
  obtain ⟨hx, hb, hml, hown, hts⟩ := id S
  unfold fR_ValueMachineModel_look at h
  refine Go.aload_n hx hb 0 rfl d_Ref_look_0 ?_
  refine Go.iconst (v := 0) hx hb (by decide) d_Ref_look_1 ?_
  refine Go.put (ty := (.int)) hx hb hts in_Ref ty_Ref tyok_Ref nm_Ref hown hK 0 (Rw_0 ad ca _) rfl 0 (by decide) (hts _ k_615) (fun _ h9 => h9) rfl (by decide +kernel) rfl rfl (Nat.le_of_ble_eq_true rfl) (uI st 0 0) (Rs_I0 ad ca _ _) d_Ref_look_2 ?_
  refine Go.iload_n hx hb 1 rfl d_Ref_look_5 ?_
  by_cases c6_0 : a0 = 0
  · replace h := (if_pos c6_0).symm.trans h
    refine Go.tin (tgt := 36) (off := 30) hx hb 0 c6_0 d_Ref_look_6 (by decide) (by decide) rfl rfl ?_
    refine Go.aload_n hx hb 0 rfl d_Ref_look_36 ?_
    refine Go.aload_n hx hb 0 rfl d_Ref_look_37 ?_
    refine Go.get (v := .int (gI st 2)) hx hb hts in_Ref hown hK 0 (Rw_0 ad ca _) rfl 4 (by decide) (hts _ k_619) (fun _ h9 => h9) rfl d_Ref_look_38 ?_
    refine Go.aload_n hx hb 0 rfl d_Ref_look_41 ?_
    refine Go.get (v := .int (gI st 3)) hx hb hts in_Ref hown hK 0 (Rw_0 ad ca _) rfl 5 (by decide) (hts _ k_620) (fun _ h9 => h9) rfl d_Ref_look_42 ?_
    obtain ⟨r1, s1, q1, h⟩ := gb_some h
    refine Go.callVi S hK hA 0 (Rw_0 ad ca _) rfl (fun sz9 => m_Ref_chooses l D ad ca N _ sz9 _ _ r1 s1 q1) (cwV 2 hts (gwV k_838 k_840 k_60 k_67 k_841) rfl rfl rfl (by decide +kernel) ⟨Nat.le_of_ble_eq_true rfl, Nat.le_of_ble_eq_true rfl⟩) rfl rfl (Nat.le_of_ble_eq_true rfl) ⟨Nat.zero_le _, Nat.zero_le _⟩ d_Ref_look_45 ?_
    exact Go.iret hx hb hr hK hlk h d_Ref_look_48
  replace h := (if_neg c6_0).symm.trans h
  by_cases c6_1 : a0 = 1
  · replace h := (if_pos c6_1).symm.trans h
    refine Go.tin (tgt := 49) (off := 43) hx hb 1 c6_1 d_Ref_look_6 (by decide) (by decide) rfl rfl ?_
    refine Go.iload_n hx hb 2 rfl d_Ref_look_49 ?_
    refine Go.if_lt (tgt := 61) hx hb d_Ref_look_50 rfl (fun c50 => ?_) (fun c50 => ?_)
    · replace h := (if_pos c50).symm.trans h
      refine Go.iconst (v := (-1)) hx hb (by decide) d_Ref_look_61 ?_
      refine Go.goto (tgt := 89) hx hb d_Ref_look_62 rfl ?_
      exact Go.iret hx hb hr hK hlk h d_Ref_look_89
    · replace h := (if_neg c50).symm.trans h
      refine Go.iload_n hx hb 2 rfl d_Ref_look_53 ?_
      refine Go.aload_n hx hb 0 rfl d_Ref_look_54 ?_
      refine Go.get (v := .int (gI st 4)) hx hb hts in_Ref hown hK 0 (Rw_0 ad ca _) rfl 8 (by decide) (hts _ k_623) (fun _ h9 => h9) rfl d_Ref_look_55 ?_
      refine Go.icmp_lt (tgt := 65) hx hb d_Ref_look_58 rfl (fun c58 => ?_) (fun c58 => ?_)
      · replace h := (if_pos c58).symm.trans h
        refine Go.aload_n hx hb 0 rfl d_Ref_look_65 ?_
        refine Go.aload_n hx hb 0 rfl d_Ref_look_66 ?_
        refine Go.get (v := .ref (ad 3)) hx hb hts in_Ref hown hK 0 (Rw_0 ad ca _) rfl 6 (by decide) (hts _ k_621) (fun _ h9 => h9) rfl d_Ref_look_67 ?_
        refine Go.aload_n hx hb 0 rfl d_Ref_look_70 ?_
        refine Go.iload_n hx hb 2 rfl d_Ref_look_71 ?_
        obtain ⟨r2, s2, q2, h⟩ := gb_some h
        refine Go.callVi S hK hA 0 (Rw_0 ad ca _) rfl (fun sz9 => m_Ref_deep l D ad ca N _ sz9 _ r2 s2 q2) (cwV 1 hts (gwV k_751 k_753 k_41 k_67 k_754) rfl rfl rfl (by decide +kernel) ⟨Nat.le_of_ble_eq_true rfl, Nat.le_of_ble_eq_true rfl⟩) rfl rfl (Nat.le_of_ble_eq_true rfl) ⟨Nat.zero_le _, Nat.zero_le _⟩ d_Ref_look_72 ?_
        obtain ⟨c75, h⟩ := gg_some h
        refine Go.iald (v := gA s2 2 r2.toNatClampNeg) hx hb hK 3 2 (Rw_3 ad ca _) rfl c75 rfl d_Ref_look_75 ?_
        refine Go.aload_n hx hb 0 rfl d_Ref_look_76 ?_
        refine Go.get (v := .ref (ad 4)) hx hb hts in_Ref hown hK 0 (Rw_0 ad ca _) rfl 7 (by decide) (hts _ k_622) (fun _ h9 => h9) rfl d_Ref_look_77 ?_
        refine Go.aload_n hx hb 0 rfl d_Ref_look_80 ?_
        refine Go.iload_n hx hb 2 rfl d_Ref_look_81 ?_
        obtain ⟨r3, s3, q3, h⟩ := gb_some h
        refine Go.callVi S hK hA 0 (Rw_0 ad ca _) rfl (fun sz9 => m_Ref_deep l D ad ca N _ sz9 _ r3 s3 q3) (cwV 1 hts (gwV k_751 k_753 k_41 k_67 k_754) rfl rfl rfl (by decide +kernel) ⟨Nat.le_of_ble_eq_true rfl, Nat.le_of_ble_eq_true rfl⟩) rfl rfl (Nat.le_of_ble_eq_true rfl) ⟨Nat.zero_le _, Nat.zero_le _⟩ d_Ref_look_82 ?_
        obtain ⟨c85, h⟩ := gg_some h
        refine Go.iald (v := gA s3 3 r3.toNatClampNeg) hx hb hK 4 3 (Rw_4 ad ca _) rfl c85 rfl d_Ref_look_85 ?_
        obtain ⟨r4, s4, q4, h⟩ := gb_some h
        refine Go.callVi S hK hA 0 (Rw_0 ad ca _) rfl (fun sz9 => m_Ref_chooses l D ad ca N _ sz9 _ _ r4 s4 q4) (cwV 2 hts (gwV k_838 k_840 k_60 k_67 k_841) rfl rfl rfl (by decide +kernel) ⟨Nat.le_of_ble_eq_true rfl, Nat.le_of_ble_eq_true rfl⟩) rfl rfl (Nat.le_of_ble_eq_true rfl) ⟨Nat.zero_le _, Nat.zero_le _⟩ d_Ref_look_86 ?_
        exact Go.iret hx hb hr hK hlk h d_Ref_look_89
      · replace h := (if_neg c58).symm.trans h
        refine Go.iconst (v := (-1)) hx hb (by decide) d_Ref_look_61 ?_
        refine Go.goto (tgt := 89) hx hb d_Ref_look_62 rfl ?_
        exact Go.iret hx hb hr hK hlk h d_Ref_look_89
  replace h := (if_neg c6_1).symm.trans h
  by_cases c6_2 : a0 = 2
  · replace h := (if_pos c6_2).symm.trans h
    refine Go.tin (tgt := 90) (off := 84) hx hb 2 c6_2 d_Ref_look_6 (by decide) (by decide) rfl rfl ?_
    refine Go.iload_n hx hb 2 rfl d_Ref_look_90 ?_
    refine Go.if_lt (tgt := 100) hx hb d_Ref_look_91 rfl (fun c91 => ?_) (fun c91 => ?_)
    · replace h := (if_pos c91).symm.trans h
      refine Go.iconst (v := (-1)) hx hb (by decide) d_Ref_look_100 ?_
      refine Go.goto (tgt := 120) hx hb d_Ref_look_101 rfl ?_
      exact Go.iret hx hb hr hK hlk h d_Ref_look_120
    · replace h := (if_neg c91).symm.trans h
      refine Go.iload_n hx hb 2 rfl d_Ref_look_94 ?_
      refine Go.bipush (v := 7) hx hb (by decide) d_Ref_look_95 ?_
      refine Go.icmp_le (tgt := 104) hx hb d_Ref_look_97 rfl (fun c97 => ?_) (fun c97 => ?_)
      · replace h := (if_pos c97).symm.trans h
        refine Go.aload_n hx hb 0 rfl d_Ref_look_104 ?_
        refine Go.aload_n hx hb 0 rfl d_Ref_look_105 ?_
        refine Go.get (v := .ref (ad 5)) hx hb hts in_Ref hown hK 0 (Rw_0 ad ca _) rfl 9 (by decide) (hts _ k_624) (fun _ h9 => h9) rfl d_Ref_look_106 ?_
        refine Go.iload_n hx hb 2 rfl d_Ref_look_109 ?_
        obtain ⟨c110, h⟩ := gg_some h
        refine Go.iald (v := gA st 4 a1.toNatClampNeg) hx hb hK 5 4 (Rw_5 ad ca _) rfl c110 rfl d_Ref_look_110 ?_
        refine Go.aload_n hx hb 0 rfl d_Ref_look_111 ?_
        refine Go.get (v := .ref (ad 6)) hx hb hts in_Ref hown hK 0 (Rw_0 ad ca _) rfl 10 (by decide) (hts _ k_625) (fun _ h9 => h9) rfl d_Ref_look_112 ?_
        refine Go.iload_n hx hb 2 rfl d_Ref_look_115 ?_
        obtain ⟨c116, h⟩ := gg_some h
        refine Go.iald (v := gA st 5 a1.toNatClampNeg) hx hb hK 6 5 (Rw_6 ad ca _) rfl c116 rfl d_Ref_look_116 ?_
        obtain ⟨r5, s5, q5, h⟩ := gb_some h
        refine Go.callVi S hK hA 0 (Rw_0 ad ca _) rfl (fun sz9 => m_Ref_chooses l D ad ca N _ sz9 _ _ r5 s5 q5) (cwV 2 hts (gwV k_838 k_840 k_60 k_67 k_841) rfl rfl rfl (by decide +kernel) ⟨Nat.le_of_ble_eq_true rfl, Nat.le_of_ble_eq_true rfl⟩) rfl rfl (Nat.le_of_ble_eq_true rfl) ⟨Nat.zero_le _, Nat.zero_le _⟩ d_Ref_look_117 ?_
        exact Go.iret hx hb hr hK hlk h d_Ref_look_120
      · replace h := (if_neg c97).symm.trans h
        refine Go.iconst (v := (-1)) hx hb (by decide) d_Ref_look_100 ?_
        refine Go.goto (tgt := 120) hx hb d_Ref_look_101 rfl ?_
        exact Go.iret hx hb hr hK hlk h d_Ref_look_120
  replace h := (if_neg c6_2).symm.trans h
  by_cases c6_3 : a0 = 3
  · replace h := (if_pos c6_3).symm.trans h
    refine Go.tin (tgt := 121) (off := 115) hx hb 3 c6_3 d_Ref_look_6 (by decide) (by decide) rfl rfl ?_
    refine Go.aload_n hx hb 0 rfl d_Ref_look_121 ?_
    refine Go.get (v := .int (gI st 7)) hx hb hts in_Ref hown hK 0 (Rw_0 ad ca _) rfl 20 (by decide) (hts _ k_635) (fun _ h9 => h9) rfl d_Ref_look_122 ?_
    refine Go.if_eq (tgt := 143) hx hb d_Ref_look_125 rfl (fun c125 => ?_) (fun c125 => ?_)
    · replace h := (if_pos c125).symm.trans h
      refine Go.iconst (v := (-1)) hx hb (by decide) d_Ref_look_143 ?_
      exact Go.iret hx hb hr hK hlk h d_Ref_look_144
    · replace h := (if_neg c125).symm.trans h
      refine Go.aload_n hx hb 0 rfl d_Ref_look_128 ?_
      refine Go.aload_n hx hb 0 rfl d_Ref_look_129 ?_
      refine Go.get (v := .int (gI st 8)) hx hb hts in_Ref hown hK 0 (Rw_0 ad ca _) rfl 21 (by decide) (hts _ k_636) (fun _ h9 => h9) rfl d_Ref_look_130 ?_
      refine Go.aload_n hx hb 0 rfl d_Ref_look_133 ?_
      refine Go.get (v := .int (gI st 9)) hx hb hts in_Ref hown hK 0 (Rw_0 ad ca _) rfl 22 (by decide) (hts _ k_637) (fun _ h9 => h9) rfl d_Ref_look_134 ?_
      obtain ⟨r6, s6, q6, h⟩ := gb_some h
      refine Go.callVi S hK hA 0 (Rw_0 ad ca _) rfl (fun sz9 => m_Ref_chooses l D ad ca N _ sz9 _ _ r6 s6 q6) (cwV 2 hts (gwV k_838 k_840 k_60 k_67 k_841) rfl rfl rfl (by decide +kernel) ⟨Nat.le_of_ble_eq_true rfl, Nat.le_of_ble_eq_true rfl⟩) rfl rfl (Nat.le_of_ble_eq_true rfl) ⟨Nat.zero_le _, Nat.zero_le _⟩ d_Ref_look_137 ?_
      refine Go.goto (tgt := 144) hx hb d_Ref_look_140 rfl ?_
      exact Go.iret hx hb hr hK hlk h d_Ref_look_144
  replace h := (if_neg c6_3).symm.trans h
  have n6_0 := lv_neT (a := 0) c6_0 (by decide)
  have n6_1 := lv_neT (a := 1) c6_1 (by decide)
  have n6_2 := lv_neT (a := 2) c6_2 (by decide)
  have n6_3 := lv_neT (a := 3) c6_3 (by decide)
  refine Go.tout (tgt := 145) hx hb d_Ref_look_6 (by omega) rfl ?_
  refine Go.iconst (v := (-1)) hx hb (by decide) d_Ref_look_145 ?_
  exact Go.iret hx hb hr hK hlk h d_Ref_look_146
set_option maxHeartbeats 4000000 in
set_option maxRecDepth 100000 in
theorem m_Ref_into (l : Launch) (D : va_G) (ad : Nat → Nat) (ca : Nat → ClassId) (N : Nat) (st : SG) (sz : Nat) (a0 : Int32) (r : Int32) (u : SG) (h : fR_ValueMachineModel_into N st a0 = some (r, u)) : Met l y_Ref_into (Cond.code y_Ref_into c_Ref_into 3 (some .int) :: tbl) ({ frames := 1, cells := 0, slots := 0, locals := 22 } : Room) (va_Pc [.ref (ad 0), .int a0] (goPre (Rw ad ca) D vwCl (Rtys ca) sz st)) (va_Qi (fun r' u' => r' = r ∧ u' = u) (goPost (Rw ad ca) D vwCl (Rtys ca) (va_A (Rw ad ca st) sz)) (va_A (Rw ad ca st) sz)) 0 0 (va_A (Rw ad ca st) sz) := by
  refine go_met (Qc := fun A9 => va_Qi (fun r' u' => r' = r ∧ u' = u) (goPost (Rw ad ca) D vwCl (Rtys ca) A9) A9) (cc := c_Ref_into) (maxL := 3) (ret := (some .int)) [(0, .ref (ad 0)), (1, .int a0)] (by decide) rfl (Nat.le_of_ble_eq_true rfl) rfl ?_
  intro p e s m below meth c A S hr hlk hK hA hsz
  obtain ⟨hx, hb, hml, hown, hts⟩ := id S
  unfold fR_ValueMachineModel_into at h
  refine Go.aload_n hx hb 0 rfl d_Ref_into_0 ?_
  refine Go.iconst (v := 0) hx hb (by decide) d_Ref_into_1 ?_
  refine Go.put (ty := (.int)) hx hb hts in_Ref ty_Ref tyok_Ref nm_Ref hown hK 0 (Rw_0 ad ca _) rfl 0 (by decide) (hts _ k_615) (fun _ h9 => h9) rfl (by decide +kernel) rfl rfl (Nat.le_of_ble_eq_true rfl) (uI st 0 0) (Rs_I0 ad ca _ _) d_Ref_into_2 ?_
  refine Go.aload_n hx hb 0 rfl d_Ref_into_5 ?_
  refine Go.get (v := .int (gI st 10)) hx hb hts in_Ref hown hK 0 (Rw_0 ad ca _) rfl 23 (by decide) (hts _ k_638) (fun _ h9 => h9) rfl d_Ref_into_6 ?_
  refine Go.iconst (v := 4) hx hb (by decide) d_Ref_into_9 ?_
  refine Go.icmp_eq (tgt := 21) hx hb d_Ref_into_10 rfl (fun c10 => ?_) (fun c10 => ?_)
  · replace h := (if_pos c10).symm.trans h
    refine Go.iload_n hx hb 1 rfl d_Ref_into_21 ?_
    refine Go.if_lt (tgt := 38) hx hb d_Ref_into_22 rfl (fun c22 => ?_) (fun c22 => ?_)
    · replace h := (if_pos c22).symm.trans h
      refine Go.iconst (v := (-1)) hx hb (by decide) d_Ref_into_38 ?_
      exact Go.iret hx hb hr hK hlk h d_Ref_into_39
    · replace h := (if_neg c22).symm.trans h
      refine Go.iload_n hx hb 1 rfl d_Ref_into_25 ?_
      refine Go.aload_n hx hb 0 rfl d_Ref_into_26 ?_
      refine Go.get (v := .ref (ad 10)) hx hb hts in_Ref hown hK 0 (Rw_0 ad ca _) rfl 15 (by decide) (hts _ k_630) (fun _ h9 => h9) rfl d_Ref_into_27 ?_
      refine Go.aload_n hx hb 0 rfl d_Ref_into_30 ?_
      refine Go.get (v := .int (gI st 11)) hx hb hts in_Ref hown hK 0 (Rw_0 ad ca _) rfl 24 (by decide) (hts _ k_639) (fun _ h9 => h9) rfl d_Ref_into_31 ?_
      obtain ⟨c34, h⟩ := gg_some h
      refine Go.iald (v := gA st 9 (gI st 11).toNatClampNeg) hx hb hK 10 9 (Rw_10 ad ca _) rfl c34 rfl d_Ref_into_34 ?_
      refine Go.icmp_lt (tgt := 40) hx hb d_Ref_into_35 rfl (fun c35 => ?_) (fun c35 => ?_)
      · replace h := (if_pos c35).symm.trans h
        refine Go.bipush (v := 20) hx hb (by decide) d_Ref_into_40 ?_
        refine Go.aload_n hx hb 0 rfl d_Ref_into_42 ?_
        refine Go.get (v := .int (gI st 11)) hx hb hts in_Ref hown hK 0 (Rw_0 ad ca _) rfl 24 (by decide) (hts _ k_639) (fun _ h9 => h9) rfl d_Ref_into_43 ?_
        refine Go.imul hx hb d_Ref_into_46 ?_
        refine Go.iload_n hx hb 1 rfl d_Ref_into_47 ?_
        refine Go.iadd hx hb d_Ref_into_48 ?_
        refine Go.istore_n (i := 2) (lv' := [(2, .int ((20 * (gI st 11)) + a0)), (0, .ref (ad 0)), (1, .int a0)]) hx hb rfl (Nat.le_of_ble_eq_true rfl) rfl d_Ref_into_49 ?_
        refine Go.aload_n hx hb 1 rfl d_Ref_into_50 ?_
        refine Go.aload_n hx hb 1 rfl d_Ref_into_51 ?_
        refine Go.get (v := .ref (ad 11)) hx hb hts in_Ref hown hK 0 (Rw_0 ad ca _) rfl 16 (by decide) (hts _ k_631) (fun _ h9 => h9) rfl d_Ref_into_52 ?_
        refine Go.iload_n hx hb 0 rfl d_Ref_into_55 ?_
        obtain ⟨c56, h⟩ := gg_some h
        refine Go.iald (v := gA st 10 ((20 * (gI st 11)) + a0).toNatClampNeg) hx hb hK 11 10 (Rw_11 ad ca _) rfl c56 rfl d_Ref_into_56 ?_
        refine Go.aload_n hx hb 1 rfl d_Ref_into_57 ?_
        refine Go.get (v := .ref (ad 12)) hx hb hts in_Ref hown hK 0 (Rw_0 ad ca _) rfl 17 (by decide) (hts _ k_632) (fun _ h9 => h9) rfl d_Ref_into_58 ?_
        refine Go.iload_n hx hb 0 rfl d_Ref_into_61 ?_
        obtain ⟨c62, h⟩ := gg_some h
        refine Go.iald (v := gA st 11 ((20 * (gI st 11)) + a0).toNatClampNeg) hx hb hK 12 11 (Rw_12 ad ca _) rfl c62 rfl d_Ref_into_62 ?_
        obtain ⟨r1, s1, q1, h⟩ := gb_some h
        refine Go.callVi S hK hA 0 (Rw_0 ad ca _) rfl (fun sz9 => m_Ref_chooses l D ad ca N _ sz9 _ _ r1 s1 q1) (cwV 2 hts (gwV k_838 k_840 k_60 k_67 k_841) rfl rfl rfl (by decide +kernel) ⟨Nat.le_of_ble_eq_true rfl, Nat.le_of_ble_eq_true rfl⟩) rfl rfl (Nat.le_of_ble_eq_true rfl) ⟨Nat.zero_le _, Nat.zero_le _⟩ d_Ref_into_63 ?_
        exact Go.iret hx hb hr hK hlk h d_Ref_into_66
      · replace h := (if_neg c35).symm.trans h
        refine Go.iconst (v := (-1)) hx hb (by decide) d_Ref_into_38 ?_
        exact Go.iret hx hb hr hK hlk h d_Ref_into_39
  · replace h := (if_neg c10).symm.trans h
    refine Go.aload_n hx hb 0 rfl d_Ref_into_13 ?_
    refine Go.get (v := .int (gI st 10)) hx hb hts in_Ref hown hK 0 (Rw_0 ad ca _) rfl 23 (by decide) (hts _ k_638) (fun _ h9 => h9) rfl d_Ref_into_14 ?_
    refine Go.iconst (v := 5) hx hb (by decide) d_Ref_into_17 ?_
    refine Go.icmp_ne (tgt := 38) hx hb d_Ref_into_18 rfl (fun c18 => ?_) (fun c18 => ?_)
    · replace h := (if_neg c18).symm.trans h
      refine Go.iconst (v := (-1)) hx hb (by decide) d_Ref_into_38 ?_
      exact Go.iret hx hb hr hK hlk h d_Ref_into_39
    · replace h := (if_pos c18).symm.trans h
      refine Go.iload_n hx hb 1 rfl d_Ref_into_21 ?_
      refine Go.if_lt (tgt := 38) hx hb d_Ref_into_22 rfl (fun c22 => ?_) (fun c22 => ?_)
      · replace h := (if_pos c22).symm.trans h
        refine Go.iconst (v := (-1)) hx hb (by decide) d_Ref_into_38 ?_
        exact Go.iret hx hb hr hK hlk h d_Ref_into_39
      · replace h := (if_neg c22).symm.trans h
        refine Go.iload_n hx hb 1 rfl d_Ref_into_25 ?_
        refine Go.aload_n hx hb 0 rfl d_Ref_into_26 ?_
        refine Go.get (v := .ref (ad 10)) hx hb hts in_Ref hown hK 0 (Rw_0 ad ca _) rfl 15 (by decide) (hts _ k_630) (fun _ h9 => h9) rfl d_Ref_into_27 ?_
        refine Go.aload_n hx hb 0 rfl d_Ref_into_30 ?_
        refine Go.get (v := .int (gI st 11)) hx hb hts in_Ref hown hK 0 (Rw_0 ad ca _) rfl 24 (by decide) (hts _ k_639) (fun _ h9 => h9) rfl d_Ref_into_31 ?_
        obtain ⟨c34, h⟩ := gg_some h
        refine Go.iald (v := gA st 9 (gI st 11).toNatClampNeg) hx hb hK 10 9 (Rw_10 ad ca _) rfl c34 rfl d_Ref_into_34 ?_
        refine Go.icmp_lt (tgt := 40) hx hb d_Ref_into_35 rfl (fun c35 => ?_) (fun c35 => ?_)
        · replace h := (if_pos c35).symm.trans h
          refine Go.bipush (v := 20) hx hb (by decide) d_Ref_into_40 ?_
          refine Go.aload_n hx hb 0 rfl d_Ref_into_42 ?_
          refine Go.get (v := .int (gI st 11)) hx hb hts in_Ref hown hK 0 (Rw_0 ad ca _) rfl 24 (by decide) (hts _ k_639) (fun _ h9 => h9) rfl d_Ref_into_43 ?_
          refine Go.imul hx hb d_Ref_into_46 ?_
          refine Go.iload_n hx hb 1 rfl d_Ref_into_47 ?_
          refine Go.iadd hx hb d_Ref_into_48 ?_
          refine Go.istore_n (i := 2) (lv' := [(2, .int ((20 * (gI st 11)) + a0)), (0, .ref (ad 0)), (1, .int a0)]) hx hb rfl (Nat.le_of_ble_eq_true rfl) rfl d_Ref_into_49 ?_
          refine Go.aload_n hx hb 1 rfl d_Ref_into_50 ?_
          refine Go.aload_n hx hb 1 rfl d_Ref_into_51 ?_
          refine Go.get (v := .ref (ad 11)) hx hb hts in_Ref hown hK 0 (Rw_0 ad ca _) rfl 16 (by decide) (hts _ k_631) (fun _ h9 => h9) rfl d_Ref_into_52 ?_
          refine Go.iload_n hx hb 0 rfl d_Ref_into_55 ?_
          obtain ⟨c56, h⟩ := gg_some h
          refine Go.iald (v := gA st 10 ((20 * (gI st 11)) + a0).toNatClampNeg) hx hb hK 11 10 (Rw_11 ad ca _) rfl c56 rfl d_Ref_into_56 ?_
          refine Go.aload_n hx hb 1 rfl d_Ref_into_57 ?_
          refine Go.get (v := .ref (ad 12)) hx hb hts in_Ref hown hK 0 (Rw_0 ad ca _) rfl 17 (by decide) (hts _ k_632) (fun _ h9 => h9) rfl d_Ref_into_58 ?_
          refine Go.iload_n hx hb 0 rfl d_Ref_into_61 ?_
          obtain ⟨c62, h⟩ := gg_some h
          refine Go.iald (v := gA st 11 ((20 * (gI st 11)) + a0).toNatClampNeg) hx hb hK 12 11 (Rw_12 ad ca _) rfl c62 rfl d_Ref_into_62 ?_
          obtain ⟨r2, s2, q2, h⟩ := gb_some h
          refine Go.callVi S hK hA 0 (Rw_0 ad ca _) rfl (fun sz9 => m_Ref_chooses l D ad ca N _ sz9 _ _ r2 s2 q2) (cwV 2 hts (gwV k_838 k_840 k_60 k_67 k_841) rfl rfl rfl (by decide +kernel) ⟨Nat.le_of_ble_eq_true rfl, Nat.le_of_ble_eq_true rfl⟩) rfl rfl (Nat.le_of_ble_eq_true rfl) ⟨Nat.zero_le _, Nat.zero_le _⟩ d_Ref_into_63 ?_
          exact Go.iret hx hb hr hK hlk h d_Ref_into_66
        · replace h := (if_neg c35).symm.trans h
          refine Go.iconst (v := (-1)) hx hb (by decide) d_Ref_into_38 ?_
          exact Go.iret hx hb hr hK hlk h d_Ref_into_39
set_option maxHeartbeats 4000000 in
set_option maxRecDepth 100000 in
theorem m_Ref_value (l : Launch) (D : va_G) (ad : Nat → Nat) (ca : Nat → ClassId) (N : Nat) (st : SG) (sz : Nat) (r : Int32) (u : SG) (h : fR_ValueMachineModel_value N st = some (r, u)) : Met l y_Ref_value (Cond.code y_Ref_value c_Ref_value 1 (some .int) :: tbl) ({ frames := 0, cells := 0, slots := 0, locals := 0 } : Room) (va_Pc [.ref (ad 0)] (goPre (Rw ad ca) D vwCl (Rtys ca) sz st)) (va_Qi (fun r' u' => r' = r ∧ u' = u) (goPost (Rw ad ca) D vwCl (Rtys ca) (va_A (Rw ad ca st) sz)) (va_A (Rw ad ca st) sz)) 0 0 (va_A (Rw ad ca st) sz) := by
  refine go_met (Qc := fun A9 => va_Qi (fun r' u' => r' = r ∧ u' = u) (goPost (Rw ad ca) D vwCl (Rtys ca) A9) A9) (cc := c_Ref_value) (maxL := 1) (ret := (some .int)) [(0, .ref (ad 0))] (by decide) rfl (Nat.le_of_ble_eq_true rfl) rfl ?_
  intro p e s m below meth c A S hr hlk hK hA hsz
  obtain ⟨hx, hb, hml, hown, hts⟩ := id S
  unfold fR_ValueMachineModel_value at h
  refine Go.aload_n hx hb 0 rfl d_Ref_value_0 ?_
  refine Go.iconst (v := 0) hx hb (by decide) d_Ref_value_1 ?_
  refine Go.put (ty := (.int)) hx hb hts in_Ref ty_Ref tyok_Ref nm_Ref hown hK 0 (Rw_0 ad ca _) rfl 0 (by decide) (hts _ k_615) (fun _ h9 => h9) rfl (by decide +kernel) rfl rfl (Nat.le_of_ble_eq_true rfl) (uI st 0 0) (Rs_I0 ad ca _ _) d_Ref_value_2 ?_
  refine Go.aload_n hx hb 0 rfl d_Ref_value_5 ?_
  refine Go.get (v := .int (gI st 10)) hx hb hts in_Ref hown hK 0 (Rw_0 ad ca _) rfl 23 (by decide) (hts _ k_638) (fun _ h9 => h9) rfl d_Ref_value_6 ?_
  refine Go.iconst (v := 3) hx hb (by decide) d_Ref_value_9 ?_
  refine Go.icmp_eq (tgt := 22) hx hb d_Ref_value_10 rfl (fun c10 => ?_) (fun c10 => ?_)
  · replace h := (if_pos c10).symm.trans h
    refine Go.aload_n hx hb 0 rfl d_Ref_value_22 ?_
    refine Go.get (v := .int (gI st 11)) hx hb hts in_Ref hown hK 0 (Rw_0 ad ca _) rfl 24 (by decide) (hts _ k_639) (fun _ h9 => h9) rfl d_Ref_value_23 ?_
    refine Go.goto (tgt := 50) hx hb d_Ref_value_26 rfl ?_
    exact Go.iret hx hb hr hK hlk h d_Ref_value_50
  · replace h := (if_neg c10).symm.trans h
    refine Go.aload_n hx hb 0 rfl d_Ref_value_13 ?_
    refine Go.get (v := .int (gI st 10)) hx hb hts in_Ref hown hK 0 (Rw_0 ad ca _) rfl 23 (by decide) (hts _ k_638) (fun _ h9 => h9) rfl d_Ref_value_14 ?_
    refine Go.bipush (v := 6) hx hb (by decide) d_Ref_value_17 ?_
    refine Go.icmp_ne (tgt := 29) hx hb d_Ref_value_19 rfl (fun c19 => ?_) (fun c19 => ?_)
    · replace h := (if_neg c19).symm.trans h
      refine Go.aload_n hx hb 0 rfl d_Ref_value_29 ?_
      refine Go.get (v := .int (gI st 10)) hx hb hts in_Ref hown hK 0 (Rw_0 ad ca _) rfl 23 (by decide) (hts _ k_638) (fun _ h9 => h9) rfl d_Ref_value_30 ?_
      refine Go.iconst (v := 5) hx hb (by decide) d_Ref_value_33 ?_
      refine Go.icmp_ne (tgt := 49) hx hb d_Ref_value_34 rfl (fun c34 => ?_) (fun c34 => ?_)
      · replace h := (if_neg c34).symm.trans h
        refine Go.iconst (v := 0) hx hb (by decide) d_Ref_value_49 ?_
        exact Go.iret hx hb hr hK hlk h d_Ref_value_50
      · replace h := (if_pos c34).symm.trans h
        refine Go.aload_n hx hb 0 rfl d_Ref_value_37 ?_
        refine Go.get (v := .ref (ad 10)) hx hb hts in_Ref hown hK 0 (Rw_0 ad ca _) rfl 15 (by decide) (hts _ k_630) (fun _ h9 => h9) rfl d_Ref_value_38 ?_
        refine Go.aload_n hx hb 0 rfl d_Ref_value_41 ?_
        refine Go.get (v := .int (gI st 11)) hx hb hts in_Ref hown hK 0 (Rw_0 ad ca _) rfl 24 (by decide) (hts _ k_639) (fun _ h9 => h9) rfl d_Ref_value_42 ?_
        obtain ⟨c45, h⟩ := gg_some h
        refine Go.iald (v := gA st 9 (gI st 11).toNatClampNeg) hx hb hK 10 9 (Rw_10 ad ca _) rfl c45 rfl d_Ref_value_45 ?_
        refine Go.goto (tgt := 50) hx hb d_Ref_value_46 rfl ?_
        exact Go.iret hx hb hr hK hlk h d_Ref_value_50
    · replace h := (if_pos c19).symm.trans h
      refine Go.aload_n hx hb 0 rfl d_Ref_value_22 ?_
      refine Go.get (v := .int (gI st 11)) hx hb hts in_Ref hown hK 0 (Rw_0 ad ca _) rfl 24 (by decide) (hts _ k_639) (fun _ h9 => h9) rfl d_Ref_value_23 ?_
      refine Go.goto (tgt := 50) hx hb d_Ref_value_26 rfl ?_
      exact Go.iret hx hb hr hK hlk h d_Ref_value_50
set_option maxHeartbeats 4000000 in
set_option maxRecDepth 100000 in
theorem m_Ref_isSame (l : Launch) (D : va_G) (ad : Nat → Nat) (ca : Nat → ClassId) (N : Nat) (st : SG) (sz : Nat) (r : Int32) (u : SG) (h : fR_ValueMachineModel_isSame N st = some (r, u)) : Met l y_Ref_isSame (Cond.code y_Ref_isSame c_Ref_isSame 1 (some .boolean) :: tbl) ({ frames := 1, cells := 0, slots := 0, locals := 23 } : Room) (va_Pc [.ref (ad 0)] (goPre (Rw ad ca) D vwCl (Rtys ca) sz st)) (va_Qi (fun r' u' => r' = r ∧ u' = u) (goPost (Rw ad ca) D vwCl (Rtys ca) (va_A (Rw ad ca st) sz)) (va_A (Rw ad ca st) sz)) 0 0 (va_A (Rw ad ca st) sz) := by
  refine go_met (Qc := fun A9 => va_Qi (fun r' u' => r' = r ∧ u' = u) (goPost (Rw ad ca) D vwCl (Rtys ca) A9) A9) (cc := c_Ref_isSame) (maxL := 1) (ret := (some .boolean)) [(0, .ref (ad 0))] (by decide) rfl (Nat.le_of_ble_eq_true rfl) rfl ?_
  intro p e s m below meth c A S hr hlk hK hA hsz
  obtain ⟨hx, hb, hml, hown, hts⟩ := id S
  unfold fR_ValueMachineModel_isSame at h
  refine Go.aload_n hx hb 0 rfl d_Ref_isSame_0 ?_
  refine Go.iconst (v := 0) hx hb (by decide) d_Ref_isSame_1 ?_
  refine Go.put (ty := (.int)) hx hb hts in_Ref ty_Ref tyok_Ref nm_Ref hown hK 0 (Rw_0 ad ca _) rfl 0 (by decide) (hts _ k_615) (fun _ h9 => h9) rfl (by decide +kernel) rfl rfl (Nat.le_of_ble_eq_true rfl) (uI st 0 0) (Rs_I0 ad ca _ _) d_Ref_isSame_2 ?_
  refine Go.aload_n hx hb 0 rfl d_Ref_isSame_5 ?_
  refine Go.get (v := .int (gI st 10)) hx hb hts in_Ref hown hK 0 (Rw_0 ad ca _) rfl 23 (by decide) (hts _ k_638) (fun _ h9 => h9) rfl d_Ref_isSame_6 ?_
  refine Go.aload_n hx hb 0 rfl d_Ref_isSame_9 ?_
  refine Go.get (v := .int (gI st 11)) hx hb hts in_Ref hown hK 0 (Rw_0 ad ca _) rfl 24 (by decide) (hts _ k_639) (fun _ h9 => h9) rfl d_Ref_isSame_10 ?_
  refine Go.aload_n hx hb 0 rfl d_Ref_isSame_13 ?_
  refine Go.get (v := .int (gI st 2)) hx hb hts in_Ref hown hK 0 (Rw_0 ad ca _) rfl 4 (by decide) (hts _ k_619) (fun _ h9 => h9) rfl d_Ref_isSame_14 ?_
  refine Go.aload_n hx hb 0 rfl d_Ref_isSame_17 ?_
  refine Go.get (v := .int (gI st 3)) hx hb hts in_Ref hown hK 0 (Rw_0 ad ca _) rfl 5 (by decide) (hts _ k_620) (fun _ h9 => h9) rfl d_Ref_isSame_18 ?_
  obtain ⟨r1, s1, q1, h⟩ := gb_some h
  refine Go.callSi S hK hA (fun sz9 => m_Ref_same l D ad ca N _ sz9 _ _ _ _ r1 s1 q1) (va_cwS 4 hts (gwS k_783 k_784 k_67 k_785) rfl rfl rfl (by decide +kernel) ⟨Nat.le_of_ble_eq_true rfl, Nat.le_of_ble_eq_true rfl⟩) rfl rfl (Nat.le_of_ble_eq_true rfl) ⟨Nat.zero_le _, Nat.zero_le _⟩ d_Ref_isSame_21 ?_
  obtain ⟨c24, h⟩ := gg_some h
  exact Go.zret hx hb hr hK hlk (congrArg Value.int (Decidable.not_not.mp c24)) h d_Ref_isSame_24
set_option maxHeartbeats 4000000 in
set_option maxRecDepth 100000 in
theorem m_Ref_count (l : Launch) (D : va_G) (ad : Nat → Nat) (ca : Nat → ClassId) (N : Nat) (st : SG) (sz : Nat) (a0 : Int32) (r : Int32) (u : SG) (h : fR_ValueMachineModel_count N st a0 = some (r, u)) : Met l y_Ref_count (Cond.code y_Ref_count c_Ref_count 2 (some .int) :: tbl) ({ frames := 1, cells := 0, slots := 0, locals := 22 } : Room) (va_Pc [.ref (ad 0), .int a0] (goPre (Rw ad ca) D vwCl (Rtys ca) sz st)) (va_Qi (fun r' u' => r' = r ∧ u' = u) (goPost (Rw ad ca) D vwCl (Rtys ca) (va_A (Rw ad ca st) sz)) (va_A (Rw ad ca st) sz)) 0 0 (va_A (Rw ad ca st) sz) := by
  refine go_met (Qc := fun A9 => va_Qi (fun r' u' => r' = r ∧ u' = u) (goPost (Rw ad ca) D vwCl (Rtys ca) A9) A9) (cc := c_Ref_count) (maxL := 2) (ret := (some .int)) [(0, .ref (ad 0)), (1, .int a0)] (by decide) rfl (Nat.le_of_ble_eq_true rfl) rfl ?_
  intro p e s m below meth c A S hr hlk hK hA hsz
  obtain ⟨hx, hb, hml, hown, hts⟩ := id S
  unfold fR_ValueMachineModel_count at h
  refine Go.aload_n hx hb 0 rfl d_Ref_count_0 ?_
  refine Go.iconst (v := 0) hx hb (by decide) d_Ref_count_1 ?_
  refine Go.put (ty := (.int)) hx hb hts in_Ref ty_Ref tyok_Ref nm_Ref hown hK 0 (Rw_0 ad ca _) rfl 0 (by decide) (hts _ k_615) (fun _ h9 => h9) rfl (by decide +kernel) rfl rfl (Nat.le_of_ble_eq_true rfl) (uI st 0 0) (Rs_I0 ad ca _ _) d_Ref_count_2 ?_
  refine Go.iload_n hx hb 1 rfl d_Ref_count_5 ?_
  by_cases c6_0 : a0 = 0
  · replace h := (if_pos c6_0).symm.trans h
    refine Go.tin (tgt := 56) (off := 50) hx hb 0 c6_0 d_Ref_count_6 (by decide) (by decide) rfl rfl ?_
    refine Go.aload_n hx hb 0 rfl d_Ref_count_56 ?_
    refine Go.get (v := .int (gI st 1)) hx hb hts in_Ref hown hK 0 (Rw_0 ad ca _) rfl 3 (by decide) (hts _ k_618) (fun _ h9 => h9) rfl d_Ref_count_57 ?_
    exact Go.iret hx hb hr hK hlk h d_Ref_count_60
  replace h := (if_neg c6_0).symm.trans h
  by_cases c6_1 : a0 = 1
  · replace h := (if_pos c6_1).symm.trans h
    refine Go.tin (tgt := 61) (off := 55) hx hb 1 c6_1 d_Ref_count_6 (by decide) (by decide) rfl rfl ?_
    refine Go.aload_n hx hb 0 rfl d_Ref_count_61 ?_
    refine Go.get (v := .int (gI st 6)) hx hb hts in_Ref hown hK 0 (Rw_0 ad ca _) rfl 19 (by decide) (hts _ k_634) (fun _ h9 => h9) rfl d_Ref_count_62 ?_
    exact Go.iret hx hb hr hK hlk h d_Ref_count_65
  replace h := (if_neg c6_1).symm.trans h
  by_cases c6_2 : a0 = 2
  · replace h := (if_pos c6_2).symm.trans h
    refine Go.tin (tgt := 66) (off := 60) hx hb 2 c6_2 d_Ref_count_6 (by decide) (by decide) rfl rfl ?_
    refine Go.aload_n hx hb 0 rfl d_Ref_count_66 ?_
    refine Go.get (v := .int (gI st 4)) hx hb hts in_Ref hown hK 0 (Rw_0 ad ca _) rfl 8 (by decide) (hts _ k_623) (fun _ h9 => h9) rfl d_Ref_count_67 ?_
    exact Go.iret hx hb hr hK hlk h d_Ref_count_70
  replace h := (if_neg c6_2).symm.trans h
  by_cases c6_3 : a0 = 3
  · replace h := (if_pos c6_3).symm.trans h
    refine Go.tin (tgt := 71) (off := 65) hx hb 3 c6_3 d_Ref_count_6 (by decide) (by decide) rfl rfl ?_
    refine Go.aload_n hx hb 0 rfl d_Ref_count_71 ?_
    refine Go.get (v := .int (gI st 5)) hx hb hts in_Ref hown hK 0 (Rw_0 ad ca _) rfl 13 (by decide) (hts _ k_628) (fun _ h9 => h9) rfl d_Ref_count_72 ?_
    exact Go.iret hx hb hr hK hlk h d_Ref_count_75
  replace h := (if_neg c6_3).symm.trans h
  by_cases c6_4 : a0 = 4
  · replace h := (if_pos c6_4).symm.trans h
    refine Go.tin (tgt := 76) (off := 70) hx hb 4 c6_4 d_Ref_count_6 (by decide) (by decide) rfl rfl ?_
    refine Go.aload_n hx hb 0 rfl d_Ref_count_76 ?_
    obtain ⟨r1, s1, q1, h⟩ := gb_some h
    refine Go.callVi S hK hA 0 (Rw_0 ad ca _) rfl (fun sz9 => m_Ref_many l D ad ca N _ sz9 r1 s1 q1) (cwV 0 hts (gwV k_798 k_800 k_52 k_67 k_801) rfl rfl rfl (by decide +kernel) ⟨Nat.le_of_ble_eq_true rfl, Nat.le_of_ble_eq_true rfl⟩) rfl rfl (Nat.le_of_ble_eq_true rfl) ⟨Nat.zero_le _, Nat.zero_le _⟩ d_Ref_count_77 ?_
    exact Go.iret hx hb hr hK hlk h d_Ref_count_80
  replace h := (if_neg c6_4).symm.trans h
  by_cases c6_5 : a0 = 5
  · replace h := (if_pos c6_5).symm.trans h
    refine Go.tin (tgt := 81) (off := 75) hx hb 5 c6_5 d_Ref_count_6 (by decide) (by decide) rfl rfl ?_
    refine Go.aload_n hx hb 0 rfl d_Ref_count_81 ?_
    refine Go.get (v := .int (gI st 12)) hx hb hts in_Ref hown hK 0 (Rw_0 ad ca _) rfl 25 (by decide) (hts _ k_640) (fun _ h9 => h9) rfl d_Ref_count_82 ?_
    exact Go.iret hx hb hr hK hlk h d_Ref_count_85
  replace h := (if_neg c6_5).symm.trans h
  by_cases c6_6 : a0 = 6
  · replace h := (if_pos c6_6).symm.trans h
    refine Go.tin (tgt := 86) (off := 80) hx hb 6 c6_6 d_Ref_count_6 (by decide) (by decide) rfl rfl ?_
    refine Go.aload_n hx hb 0 rfl d_Ref_count_86 ?_
    refine Go.get (v := .int (gI st 13)) hx hb hts in_Ref hown hK 0 (Rw_0 ad ca _) rfl 26 (by decide) (hts _ k_641) (fun _ h9 => h9) rfl d_Ref_count_87 ?_
    exact Go.iret hx hb hr hK hlk h d_Ref_count_90
  replace h := (if_neg c6_6).symm.trans h
  by_cases c6_7 : a0 = 7
  · replace h := (if_pos c6_7).symm.trans h
    refine Go.tin (tgt := 91) (off := 85) hx hb 7 c6_7 d_Ref_count_6 (by decide) (by decide) rfl rfl ?_
    refine Go.aload_n hx hb 0 rfl d_Ref_count_91 ?_
    refine Go.get (v := .int (gI st 14)) hx hb hts in_Ref hown hK 0 (Rw_0 ad ca _) rfl 27 (by decide) (hts _ k_642) (fun _ h9 => h9) rfl d_Ref_count_92 ?_
    exact Go.iret hx hb hr hK hlk h d_Ref_count_95
  replace h := (if_neg c6_7).symm.trans h
  by_cases c6_8 : a0 = 8
  · replace h := (if_pos c6_8).symm.trans h
    refine Go.tin (tgt := 96) (off := 90) hx hb 8 c6_8 d_Ref_count_6 (by decide) (by decide) rfl rfl ?_
    refine Go.aload_n hx hb 0 rfl d_Ref_count_96 ?_
    refine Go.get (v := .int (gI st 15)) hx hb hts in_Ref hown hK 0 (Rw_0 ad ca _) rfl 28 (by decide) (hts _ k_643) (fun _ h9 => h9) rfl d_Ref_count_97 ?_
    exact Go.iret hx hb hr hK hlk h d_Ref_count_100
  replace h := (if_neg c6_8).symm.trans h
  have n6_0 := lv_neT (a := 0) c6_0 (by decide)
  have n6_1 := lv_neT (a := 1) c6_1 (by decide)
  have n6_2 := lv_neT (a := 2) c6_2 (by decide)
  have n6_3 := lv_neT (a := 3) c6_3 (by decide)
  have n6_4 := lv_neT (a := 4) c6_4 (by decide)
  have n6_5 := lv_neT (a := 5) c6_5 (by decide)
  have n6_6 := lv_neT (a := 6) c6_6 (by decide)
  have n6_7 := lv_neT (a := 7) c6_7 (by decide)
  have n6_8 := lv_neT (a := 8) c6_8 (by decide)
  refine Go.tout (tgt := 101) hx hb d_Ref_count_6 (by omega) rfl ?_
  refine Go.iconst (v := (-1)) hx hb (by decide) d_Ref_count_101 ?_
  exact Go.iret hx hb hr hK hlk h d_Ref_count_102
