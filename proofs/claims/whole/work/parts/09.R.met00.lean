set_option maxHeartbeats 4000000 in
set_option maxRecDepth 100000 in
theorem m_Ref_thrown (l : Launch) (D : va_G) (ad : Nat → Nat) (ca : Nat → ClassId) (N : Nat) (st : SG) (sz : Nat) (r : Int32) (u : SG) (h : fR_ValueMachineModel_thrown N st = some (r, u)) : Met l y_Ref_thrown (Cond.code y_Ref_thrown c_Ref_thrown 1 (some .int) :: tbl) ({ frames := 0, cells := 0, slots := 0, locals := 0 } : Room) (va_Pc [.ref (ad 0)] (goPre (Rw ad ca) D vwCl (Rtys ca) sz st)) (va_Qi (fun r' u' => r' = r ∧ u' = u) (goPost (Rw ad ca) D vwCl (Rtys ca) (va_A (Rw ad ca st) sz)) (va_A (Rw ad ca st) sz)) 0 0 (va_A (Rw ad ca st) sz) := by
  refine go_met (Qc := fun A9 => va_Qi (fun r' u' => r' = r ∧ u' = u) (goPost (Rw ad ca) D vwCl (Rtys ca) A9) A9) (cc := c_Ref_thrown) (maxL := 1) (ret := (some .int)) [(0, .ref (ad 0))] (by decide) rfl (Nat.le_of_ble_eq_true rfl) rfl ?_
  intro p e s m below meth c A S hr hlk hK hA hsz
  obtain ⟨hx, hb, hml, hown, hts⟩ := id S
  unfold fR_ValueMachineModel_thrown at h
  refine Go.aload_n hx hb 0 rfl d_Ref_thrown_0 ?_
  refine Go.get (v := .int (gI st 0)) hx hb hts in_Ref hown hK 0 (Rw_0 ad ca _) rfl 0 (by decide) (hts _ k_615) (fun _ h9 => h9) rfl d_Ref_thrown_1 ?_
  exact Go.iret hx hb hr hK hlk h d_Ref_thrown_4
set_option maxHeartbeats 4000000 in
set_option maxRecDepth 100000 in
theorem m_Ref_code (l : Launch) (D : va_G) (ad : Nat → Nat) (ca : Nat → ClassId) (N : Nat) (st : SG) (sz : Nat) (a0 : Int32) (a1 : Int32) (r : Int32) (u : SG) (h : fR_ValueMachineModel_code N st a0 a1 = some (r, u)) : Met l y_Ref_code (Cond.code y_Ref_code c_Ref_code 3 (some .int) :: tbl) ({ frames := 0, cells := 0, slots := 0, locals := 0 } : Room) (va_Pc [.ref (ad 0), .int a0, .int a1] (goPre (Rw ad ca) D vwCl (Rtys ca) sz st)) (va_Qi (fun r' u' => r' = r ∧ u' = u) (goPost (Rw ad ca) D vwCl (Rtys ca) (va_A (Rw ad ca st) sz)) (va_A (Rw ad ca st) sz)) 0 0 (va_A (Rw ad ca st) sz) := by
  refine go_met (Qc := fun A9 => va_Qi (fun r' u' => r' = r ∧ u' = u) (goPost (Rw ad ca) D vwCl (Rtys ca) A9) A9) (cc := c_Ref_code) (maxL := 3) (ret := (some .int)) [(0, .ref (ad 0)), (1, .int a0), (2, .int a1)] (by decide) rfl (Nat.le_of_ble_eq_true rfl) rfl ?_
  intro p e s m below meth c A S hr hlk hK hA hsz
  obtain ⟨hx, hb, hml, hown, hts⟩ := id S
  unfold fR_ValueMachineModel_code at h
  refine Go.aload_n hx hb 0 rfl d_Ref_code_0 ?_
  refine Go.iload_n hx hb 1 rfl d_Ref_code_1 ?_
  refine Go.if_lt (tgt := 11) hx hb d_Ref_code_2 rfl (fun c2 => ?_) (fun c2 => ?_)
  · replace h := (if_pos c2).symm.trans h
    refine Go.iconst (v := 1) hx hb (by decide) d_Ref_code_11 ?_
    refine Go.goto (tgt := 16) hx hb d_Ref_code_12 rfl ?_
    refine Go.put (ty := (.int)) hx hb hts in_Ref ty_Ref tyok_Ref nm_Ref hown hK 0 (Rw_0 ad ca _) rfl 0 (by decide) (hts _ k_615) (fun _ h9 => h9) rfl (by decide +kernel) rfl rfl (Nat.le_of_ble_eq_true rfl) (uI st 0 1) (Rs_I0 ad ca _ _) d_Ref_code_16 ?_
    refine Go.aload_n hx hb 0 rfl d_Ref_code_19 ?_
    refine Go.get (v := .int 1) hx hb hts in_Ref hown hK 0 (Rw_0 ad ca _) rfl 0 (by decide) (hts _ k_615) (fun _ h9 => h9) rfl d_Ref_code_20 ?_
    refine Go.if_le (tgt := 28) hx hb d_Ref_code_23 rfl (fun z9 => absurd z9 (by decide)) (fun _ => ?_)
    refine Go.iconst (v := 0) hx hb (by decide) d_Ref_code_26 ?_
    exact Go.iret hx hb hr hK hlk h d_Ref_code_27
  · replace h := (if_neg c2).symm.trans h
    refine Go.iload_n hx hb 1 rfl d_Ref_code_5 ?_
    refine Go.bipush (v := 34) hx hb (by decide) d_Ref_code_6 ?_
    refine Go.icmp_le (tgt := 15) hx hb d_Ref_code_8 rfl (fun c8 => ?_) (fun c8 => ?_)
    · replace h := (if_pos c8).symm.trans h
      refine Go.iconst (v := 0) hx hb (by decide) d_Ref_code_15 ?_
      refine Go.put (ty := (.int)) hx hb hts in_Ref ty_Ref tyok_Ref nm_Ref hown hK 0 (Rw_0 ad ca _) rfl 0 (by decide) (hts _ k_615) (fun _ h9 => h9) rfl (by decide +kernel) rfl rfl (Nat.le_of_ble_eq_true rfl) (uI st 0 0) (Rs_I0 ad ca _ _) d_Ref_code_16 ?_
      refine Go.aload_n hx hb 0 rfl d_Ref_code_19 ?_
      refine Go.get (v := .int 0) hx hb hts in_Ref hown hK 0 (Rw_0 ad ca _) rfl 0 (by decide) (hts _ k_615) (fun _ h9 => h9) rfl d_Ref_code_20 ?_
      refine Go.if_le (tgt := 28) hx hb d_Ref_code_23 rfl (fun _ => ?_) (fun z9 => absurd (by decide) z9)
      refine Go.aload_n hx hb 0 rfl d_Ref_code_28 ?_
      refine Go.get (v := .int (gI st 1)) hx hb hts in_Ref hown hK 0 (Rw_0 ad ca _) rfl 3 (by decide) (hts _ k_618) (fun _ h9 => h9) rfl d_Ref_code_29 ?_
      refine Go.sipush (v := 150) hx hb (by decide) d_Ref_code_32 ?_
      refine Go.icmp_ne (tgt := 40) hx hb d_Ref_code_35 rfl (fun c35 => ?_) (fun c35 => ?_)
      · replace h := (if_neg c35).symm.trans h
        refine Go.aload_n hx hb 0 rfl d_Ref_code_40 ?_
        refine Go.get (v := .ref (ad 1)) hx hb hts in_Ref hown hK 0 (Rw_0 ad ca _) rfl 1 (by decide) (hts _ k_616) (fun _ h9 => h9) rfl d_Ref_code_41 ?_
        refine Go.aload_n hx hb 0 rfl d_Ref_code_44 ?_
        refine Go.get (v := .int (gI st 1)) hx hb hts in_Ref hown hK 0 (Rw_0 ad ca _) rfl 3 (by decide) (hts _ k_618) (fun _ h9 => h9) rfl d_Ref_code_45 ?_
        refine Go.iload_n hx hb 1 rfl d_Ref_code_48 ?_
        obtain ⟨c49, h⟩ := gg_some h
        refine Go.iast hx hb hK 1 0 (Rw_1 ad ca _) rfl c49 (uA (uI st 0 0) 0 (upd (gA st 0) (gI st 1).toNatClampNeg a0)) (Rs_A0 ad ca _ _) d_Ref_code_49 ?_
        refine Go.aload_n hx hb 0 rfl d_Ref_code_50 ?_
        refine Go.get (v := .ref (ad 2)) hx hb hts in_Ref hown hK 0 (Rw_0 ad ca _) rfl 2 (by decide) (hts _ k_617) (fun _ h9 => h9) rfl d_Ref_code_51 ?_
        refine Go.aload_n hx hb 0 rfl d_Ref_code_54 ?_
        refine Go.get (v := .int (gI st 1)) hx hb hts in_Ref hown hK 0 (Rw_0 ad ca _) rfl 3 (by decide) (hts _ k_618) (fun _ h9 => h9) rfl d_Ref_code_55 ?_
        refine Go.iload_n hx hb 2 rfl d_Ref_code_58 ?_
        obtain ⟨c59, h⟩ := gg_some h
        refine Go.iast hx hb hK 2 1 (Rw_2 ad ca _) rfl c59 (uA (uA (uI st 0 0) 0 (upd (gA st 0) (gI st 1).toNatClampNeg a0)) 1 (upd (gA st 1) (gI st 1).toNatClampNeg a1)) (Rs_A1 ad ca _ _) d_Ref_code_59 ?_
        refine Go.aload_n hx hb 0 rfl d_Ref_code_60 ?_
        refine Go.dup hx hb rfl d_Ref_code_61 ?_
        refine Go.get (v := .int (gI st 1)) hx hb hts in_Ref hown hK 0 (Rw_0 ad ca _) rfl 3 (by decide) (hts _ k_618) (fun _ h9 => h9) rfl d_Ref_code_62 ?_
        refine Go.iconst (v := 1) hx hb (by decide) d_Ref_code_65 ?_
        refine Go.iadd hx hb d_Ref_code_66 ?_
        refine Go.put (ty := (.int)) hx hb hts in_Ref ty_Ref tyok_Ref nm_Ref hown hK 0 (Rw_0 ad ca _) rfl 3 (by decide) (hts _ k_618) (fun _ h9 => h9) rfl (by decide +kernel) rfl rfl (Nat.le_of_ble_eq_true rfl) (uI (uA (uA (uI st 0 0) 0 (upd (gA st 0) (gI st 1).toNatClampNeg a0)) 1 (upd (gA st 1) (gI st 1).toNatClampNeg a1)) 1 ((gI st 1) + 1)) (Rs_I1 ad ca _ _) d_Ref_code_67 ?_
        refine Go.aload_n hx hb 0 rfl d_Ref_code_70 ?_
        refine Go.get (v := .int ((gI st 1) + 1)) hx hb hts in_Ref hown hK 0 (Rw_0 ad ca _) rfl 3 (by decide) (hts _ k_618) (fun _ h9 => h9) rfl d_Ref_code_71 ?_
        exact Go.iret hx hb hr hK hlk h d_Ref_code_74
      · replace h := (if_pos c35).symm.trans h
        refine Go.iconst (v := (-1)) hx hb (by decide) d_Ref_code_38 ?_
        exact Go.iret hx hb hr hK hlk h d_Ref_code_39
    · replace h := (if_neg c8).symm.trans h
      refine Go.iconst (v := 1) hx hb (by decide) d_Ref_code_11 ?_
      refine Go.goto (tgt := 16) hx hb d_Ref_code_12 rfl ?_
      refine Go.put (ty := (.int)) hx hb hts in_Ref ty_Ref tyok_Ref nm_Ref hown hK 0 (Rw_0 ad ca _) rfl 0 (by decide) (hts _ k_615) (fun _ h9 => h9) rfl (by decide +kernel) rfl rfl (Nat.le_of_ble_eq_true rfl) (uI st 0 1) (Rs_I0 ad ca _ _) d_Ref_code_16 ?_
      refine Go.aload_n hx hb 0 rfl d_Ref_code_19 ?_
      refine Go.get (v := .int 1) hx hb hts in_Ref hown hK 0 (Rw_0 ad ca _) rfl 0 (by decide) (hts _ k_615) (fun _ h9 => h9) rfl d_Ref_code_20 ?_
      refine Go.if_le (tgt := 28) hx hb d_Ref_code_23 rfl (fun z9 => absurd z9 (by decide)) (fun _ => ?_)
      refine Go.iconst (v := 0) hx hb (by decide) d_Ref_code_26 ?_
      exact Go.iret hx hb hr hK hlk h d_Ref_code_27
set_option maxHeartbeats 4000000 in
set_option maxRecDepth 100000 in
theorem m_Ref_reset (l : Launch) (D : va_G) (ad : Nat → Nat) (ca : Nat → ClassId) (N : Nat) (st : SG) (sz : Nat) (r : Unit) (u : SG) (h : fR_ValueMachineModel_reset N st = some (r, u)) : Met l y_Ref_reset (Cond.code y_Ref_reset c_Ref_reset 2 none :: tbl) ({ frames := 0, cells := 0, slots := 0, locals := 0 } : Room) (va_Pc [.ref (ad 0)] (goPre (Rw ad ca) D vwCl (Rtys ca) sz st)) (va_Qv (fun u' => u' = u) (goPost (Rw ad ca) D vwCl (Rtys ca) (va_A (Rw ad ca st) sz)) (va_A (Rw ad ca st) sz)) 0 0 (va_A (Rw ad ca st) sz) := by
  refine go_met (Qc := fun A9 => va_Qv (fun u' => u' = u) (goPost (Rw ad ca) D vwCl (Rtys ca) A9) A9) (cc := c_Ref_reset) (maxL := 2) (ret := none) [(0, .ref (ad 0))] (by decide) rfl (Nat.le_of_ble_eq_true rfl) rfl ?_
  intro p e s m below meth c A S hr hlk hK hA hsz
  obtain ⟨hx, hb, hml, hown, hts⟩ := id S
  unfold fR_ValueMachineModel_reset at h
  have L55 : ∀ (n : Nat) (v1 : Int32) (st : SG), fR_ValueMachineModel_reset_L55 N n v1 st = some (r, u) → Go (Rw ad ca) D vwCl A s.heap 2 p l e ({ frames := 0, cells := 0, slots := 0, locals := 0 } : Room) s m ([.ref (ad 0)] : List Value).toArray below meth c 0 0 (MQ below (va_Qv (fun u' => u' = u) (goPost (Rw ad ca) D vwCl (Rtys ca) A) A) ([.ref (ad 0)] : List Value).toArray s 0 0 A) 55 [(0, .ref (ad 0)), (1, .int v1)] [] st := by
    intro n
    induction n with
    | zero => intro v1 st h; cases h
    | succ n ih =>
      intro v1 st h
      unfold fR_ValueMachineModel_reset_L55 at h
      refine Go.iload_n hx hb 1 rfl d_Ref_reset_55 ?_
      refine Go.bipush (v := 30) hx hb (by decide) d_Ref_reset_56 ?_
      refine Go.icmp_ge (tgt := 74) hx hb d_Ref_reset_58 rfl (fun c58 => ?_) (fun c58 => ?_)
      · replace h := (if_pos c58).symm.trans h
        refine Go.aload_n hx hb 0 rfl d_Ref_reset_74 ?_
        refine Go.iconst (v := 0) hx hb (by decide) d_Ref_reset_75 ?_
        refine Go.put (ty := (.int)) hx hb hts in_Ref ty_Ref tyok_Ref nm_Ref hown hK 0 (Rw_0 ad ca _) rfl 19 (by decide) (hts _ k_634) (fun _ h9 => h9) rfl (by decide +kernel) rfl rfl (Nat.le_of_ble_eq_true rfl) (uI st 6 0) (Rs_I6 ad ca _ _) d_Ref_reset_76 ?_
        refine Go.aload_n hx hb 0 rfl d_Ref_reset_79 ?_
        refine Go.iconst (v := 0) hx hb (by decide) d_Ref_reset_80 ?_
        refine Go.put (ty := (.boolean)) hx hb hts in_Ref ty_Ref tyok_Ref nm_Ref hown hK 0 (Rw_0 ad ca _) rfl 20 (by decide) (hts _ k_635) (fun _ h9 => h9) rfl (by decide +kernel) rfl rfl (Nat.le_of_ble_eq_true rfl) (uI (uI st 6 0) 7 0) (Rs_I7 ad ca _ _) d_Ref_reset_81 ?_
        refine Go.aload_n hx hb 0 rfl d_Ref_reset_84 ?_
        refine Go.iconst (v := 0) hx hb (by decide) d_Ref_reset_85 ?_
        refine Go.put (ty := (.int)) hx hb hts in_Ref ty_Ref tyok_Ref nm_Ref hown hK 0 (Rw_0 ad ca _) rfl 23 (by decide) (hts _ k_638) (fun _ h9 => h9) rfl (by decide +kernel) rfl rfl (Nat.le_of_ble_eq_true rfl) (uI (uI (uI st 6 0) 7 0) 10 0) (Rs_I10 ad ca _ _) d_Ref_reset_86 ?_
        refine Go.aload_n hx hb 0 rfl d_Ref_reset_89 ?_
        refine Go.iconst (v := 0) hx hb (by decide) d_Ref_reset_90 ?_
        refine Go.put (ty := (.int)) hx hb hts in_Ref ty_Ref tyok_Ref nm_Ref hown hK 0 (Rw_0 ad ca _) rfl 24 (by decide) (hts _ k_639) (fun _ h9 => h9) rfl (by decide +kernel) rfl rfl (Nat.le_of_ble_eq_true rfl) (uI (uI (uI (uI st 6 0) 7 0) 10 0) 11 0) (Rs_I11 ad ca _ _) d_Ref_reset_91 ?_
        refine Go.aload_n hx hb 0 rfl d_Ref_reset_94 ?_
        refine Go.iconst (v := 0) hx hb (by decide) d_Ref_reset_95 ?_
        refine Go.put (ty := (.int)) hx hb hts in_Ref ty_Ref tyok_Ref nm_Ref hown hK 0 (Rw_0 ad ca _) rfl 25 (by decide) (hts _ k_640) (fun _ h9 => h9) rfl (by decide +kernel) rfl rfl (Nat.le_of_ble_eq_true rfl) (uI (uI (uI (uI (uI st 6 0) 7 0) 10 0) 11 0) 12 0) (Rs_I12 ad ca _ _) d_Ref_reset_96 ?_
        refine Go.aload_n hx hb 0 rfl d_Ref_reset_99 ?_
        refine Go.iconst (v := 0) hx hb (by decide) d_Ref_reset_100 ?_
        refine Go.put (ty := (.int)) hx hb hts in_Ref ty_Ref tyok_Ref nm_Ref hown hK 0 (Rw_0 ad ca _) rfl 26 (by decide) (hts _ k_641) (fun _ h9 => h9) rfl (by decide +kernel) rfl rfl (Nat.le_of_ble_eq_true rfl) (uI (uI (uI (uI (uI (uI st 6 0) 7 0) 10 0) 11 0) 12 0) 13 0) (Rs_I13 ad ca _ _) d_Ref_reset_101 ?_
        refine Go.aload_n hx hb 0 rfl d_Ref_reset_104 ?_
        refine Go.iconst (v := 0) hx hb (by decide) d_Ref_reset_105 ?_
        refine Go.put (ty := (.int)) hx hb hts in_Ref ty_Ref tyok_Ref nm_Ref hown hK 0 (Rw_0 ad ca _) rfl 27 (by decide) (hts _ k_642) (fun _ h9 => h9) rfl (by decide +kernel) rfl rfl (Nat.le_of_ble_eq_true rfl) (uI (uI (uI (uI (uI (uI (uI st 6 0) 7 0) 10 0) 11 0) 12 0) 13 0) 14 0) (Rs_I14 ad ca _ _) d_Ref_reset_106 ?_
        refine Go.aload_n hx hb 0 rfl d_Ref_reset_109 ?_
        refine Go.iconst (v := 0) hx hb (by decide) d_Ref_reset_110 ?_
        refine Go.put (ty := (.int)) hx hb hts in_Ref ty_Ref tyok_Ref nm_Ref hown hK 0 (Rw_0 ad ca _) rfl 28 (by decide) (hts _ k_643) (fun _ h9 => h9) rfl (by decide +kernel) rfl rfl (Nat.le_of_ble_eq_true rfl) (uI (uI (uI (uI (uI (uI (uI (uI st 6 0) 7 0) 10 0) 11 0) 12 0) 13 0) 14 0) 15 0) (Rs_I15 ad ca _ _) d_Ref_reset_111 ?_
        exact Go.vret hx hb hr hK hlk h d_Ref_reset_114
      · replace h := (if_neg c58).symm.trans h
        refine Go.aload_n hx hb 0 rfl d_Ref_reset_61 ?_
        refine Go.get (v := .ref (ad 9)) hx hb hts in_Ref hown hK 0 (Rw_0 ad ca _) rfl 14 (by decide) (hts _ k_629) (fun _ h9 => h9) rfl d_Ref_reset_62 ?_
        refine Go.iload_n hx hb 1 rfl d_Ref_reset_65 ?_
        refine Go.iconst (v := 0) hx hb (by decide) d_Ref_reset_66 ?_
        obtain ⟨c67, h⟩ := gg_some h
        refine Go.iast hx hb hK 9 8 (Rw_9 ad ca _) rfl c67 (uA st 8 (upd (gA st 8) v1.toNatClampNeg 0)) (Rs_A8 ad ca _ _) d_Ref_reset_67 ?_
        refine Go.iinc (v := v1 + 1) (lv' := [(1, .int (v1 + 1)), (0, .ref (ad 0))]) hx hb 1 rfl rfl (Nat.le_of_ble_eq_true rfl) rfl d_Ref_reset_68 ?_
        refine Go.goto (tgt := 55) hx hb d_Ref_reset_71 rfl ?_
        refine Go.sub [1, 0] rfl ?_
        exact ih _ _ h
  have L27 : ∀ (n : Nat) (v1 : Int32) (st : SG), fR_ValueMachineModel_reset_L27 N n v1 st = some (r, u) → Go (Rw ad ca) D vwCl A s.heap 2 p l e ({ frames := 0, cells := 0, slots := 0, locals := 0 } : Room) s m ([.ref (ad 0)] : List Value).toArray below meth c 0 0 (MQ below (va_Qv (fun u' => u' = u) (goPost (Rw ad ca) D vwCl (Rtys ca) A) A) ([.ref (ad 0)] : List Value).toArray s 0 0 A) 27 [(0, .ref (ad 0)), (1, .int v1)] [] st := by
    intro n
    induction n with
    | zero => intro v1 st h; cases h
    | succ n ih =>
      intro v1 st h
      unfold fR_ValueMachineModel_reset_L27 at h
      refine Go.iload_n hx hb 1 rfl d_Ref_reset_27 ?_
      refine Go.bipush (v := 8) hx hb (by decide) d_Ref_reset_28 ?_
      refine Go.icmp_ge (tgt := 53) hx hb d_Ref_reset_30 rfl (fun c30 => ?_) (fun c30 => ?_)
      · replace h := (if_pos c30).symm.trans h
        refine Go.iconst (v := 0) hx hb (by decide) d_Ref_reset_53 ?_
        refine Go.istore_n (i := 1) (lv' := [(1, .int 0), (0, .ref (ad 0))]) hx hb rfl (Nat.le_of_ble_eq_true rfl) rfl d_Ref_reset_54 ?_
        refine Go.sub [1, 0] rfl ?_
        exact L55 N _ _ h
      · replace h := (if_neg c30).symm.trans h
        refine Go.aload_n hx hb 0 rfl d_Ref_reset_33 ?_
        refine Go.get (v := .ref (ad 5)) hx hb hts in_Ref hown hK 0 (Rw_0 ad ca _) rfl 9 (by decide) (hts _ k_624) (fun _ h9 => h9) rfl d_Ref_reset_34 ?_
        refine Go.iload_n hx hb 1 rfl d_Ref_reset_37 ?_
        refine Go.iconst (v := 0) hx hb (by decide) d_Ref_reset_38 ?_
        obtain ⟨c39, h⟩ := gg_some h
        refine Go.iast hx hb hK 5 4 (Rw_5 ad ca _) rfl c39 (uA st 4 (upd (gA st 4) v1.toNatClampNeg 0)) (Rs_A4 ad ca _ _) d_Ref_reset_39 ?_
        refine Go.aload_n hx hb 0 rfl d_Ref_reset_40 ?_
        refine Go.get (v := .ref (ad 6)) hx hb hts in_Ref hown hK 0 (Rw_0 ad ca _) rfl 10 (by decide) (hts _ k_625) (fun _ h9 => h9) rfl d_Ref_reset_41 ?_
        refine Go.iload_n hx hb 1 rfl d_Ref_reset_44 ?_
        refine Go.iconst (v := 0) hx hb (by decide) d_Ref_reset_45 ?_
        obtain ⟨c46, h⟩ := gg_some h
        refine Go.iast hx hb hK 6 5 (Rw_6 ad ca _) rfl c46 (uA (uA st 4 (upd (gA st 4) v1.toNatClampNeg 0)) 5 (upd (gA st 5) v1.toNatClampNeg 0)) (Rs_A5 ad ca _ _) d_Ref_reset_46 ?_
        refine Go.iinc (v := v1 + 1) (lv' := [(1, .int (v1 + 1)), (0, .ref (ad 0))]) hx hb 1 rfl rfl (Nat.le_of_ble_eq_true rfl) rfl d_Ref_reset_47 ?_
        refine Go.goto (tgt := 27) hx hb d_Ref_reset_50 rfl ?_
        refine Go.sub [1, 0] rfl ?_
        exact ih _ _ h
  refine Go.aload_n hx hb 0 rfl d_Ref_reset_0 ?_
  refine Go.iconst (v := 0) hx hb (by decide) d_Ref_reset_1 ?_
  refine Go.put (ty := (.int)) hx hb hts in_Ref ty_Ref tyok_Ref nm_Ref hown hK 0 (Rw_0 ad ca _) rfl 0 (by decide) (hts _ k_615) (fun _ h9 => h9) rfl (by decide +kernel) rfl rfl (Nat.le_of_ble_eq_true rfl) (uI st 0 0) (Rs_I0 ad ca _ _) d_Ref_reset_2 ?_
  refine Go.aload_n hx hb 0 rfl d_Ref_reset_5 ?_
  refine Go.iconst (v := 0) hx hb (by decide) d_Ref_reset_6 ?_
  refine Go.put (ty := (.int)) hx hb hts in_Ref ty_Ref tyok_Ref nm_Ref hown hK 0 (Rw_0 ad ca _) rfl 4 (by decide) (hts _ k_619) (fun _ h9 => h9) rfl (by decide +kernel) rfl rfl (Nat.le_of_ble_eq_true rfl) (uI (uI st 0 0) 2 0) (Rs_I2 ad ca _ _) d_Ref_reset_7 ?_
  refine Go.aload_n hx hb 0 rfl d_Ref_reset_10 ?_
  refine Go.iconst (v := 0) hx hb (by decide) d_Ref_reset_11 ?_
  refine Go.put (ty := (.int)) hx hb hts in_Ref ty_Ref tyok_Ref nm_Ref hown hK 0 (Rw_0 ad ca _) rfl 5 (by decide) (hts _ k_620) (fun _ h9 => h9) rfl (by decide +kernel) rfl rfl (Nat.le_of_ble_eq_true rfl) (uI (uI (uI st 0 0) 2 0) 3 0) (Rs_I3 ad ca _ _) d_Ref_reset_12 ?_
  refine Go.aload_n hx hb 0 rfl d_Ref_reset_15 ?_
  refine Go.iconst (v := 0) hx hb (by decide) d_Ref_reset_16 ?_
  refine Go.put (ty := (.int)) hx hb hts in_Ref ty_Ref tyok_Ref nm_Ref hown hK 0 (Rw_0 ad ca _) rfl 8 (by decide) (hts _ k_623) (fun _ h9 => h9) rfl (by decide +kernel) rfl rfl (Nat.le_of_ble_eq_true rfl) (uI (uI (uI (uI st 0 0) 2 0) 3 0) 4 0) (Rs_I4 ad ca _ _) d_Ref_reset_17 ?_
  refine Go.aload_n hx hb 0 rfl d_Ref_reset_20 ?_
  refine Go.iconst (v := 0) hx hb (by decide) d_Ref_reset_21 ?_
  refine Go.put (ty := (.int)) hx hb hts in_Ref ty_Ref tyok_Ref nm_Ref hown hK 0 (Rw_0 ad ca _) rfl 13 (by decide) (hts _ k_628) (fun _ h9 => h9) rfl (by decide +kernel) rfl rfl (Nat.le_of_ble_eq_true rfl) (uI (uI (uI (uI (uI st 0 0) 2 0) 3 0) 4 0) 5 0) (Rs_I5 ad ca _ _) d_Ref_reset_22 ?_
  refine Go.iconst (v := 0) hx hb (by decide) d_Ref_reset_25 ?_
  refine Go.istore_n (i := 1) (lv' := [(1, .int 0), (0, .ref (ad 0))]) hx hb rfl (Nat.le_of_ble_eq_true rfl) rfl d_Ref_reset_26 ?_
  refine Go.sub [1, 0] rfl ?_
  exact L27 N _ _ h
set_option maxHeartbeats 4000000 in
set_option maxRecDepth 100000 in
theorem m_Ref_clear (l : Launch) (D : va_G) (ad : Nat → Nat) (ca : Nat → ClassId) (N : Nat) (st : SG) (sz : Nat) (r : Unit) (u : SG) (h : fR_ValueMachineModel_clear N st = some (r, u)) : Met l y_Ref_clear (Cond.code y_Ref_clear c_Ref_clear 1 none :: tbl) ({ frames := 1, cells := 0, slots := 0, locals := 21 } : Room) (va_Pc [.ref (ad 0)] (goPre (Rw ad ca) D vwCl (Rtys ca) sz st)) (va_Qv (fun u' => u' = u) (goPost (Rw ad ca) D vwCl (Rtys ca) (va_A (Rw ad ca st) sz)) (va_A (Rw ad ca st) sz)) 0 0 (va_A (Rw ad ca st) sz) := by
  refine go_met (Qc := fun A9 => va_Qv (fun u' => u' = u) (goPost (Rw ad ca) D vwCl (Rtys ca) A9) A9) (cc := c_Ref_clear) (maxL := 1) (ret := none) [(0, .ref (ad 0))] (by decide) rfl (Nat.le_of_ble_eq_true rfl) rfl ?_
  intro p e s m below meth c A S hr hlk hK hA hsz
  obtain ⟨hx, hb, hml, hown, hts⟩ := id S
  unfold fR_ValueMachineModel_clear at h
  refine Go.aload_n hx hb 0 rfl d_Ref_clear_0 ?_
  obtain ⟨_, s1, q1, h⟩ := gb_some h
  refine Go.callVv S hK hA 0 (Rw_0 ad ca _) rfl (fun sz9 => m_Ref_reset l D ad ca N _ sz9 _ s1 q1) (cwV 0 hts (gwV k_718 k_719 k_720 k_67 k_721) rfl rfl rfl (by decide +kernel) ⟨Nat.le_of_ble_eq_true rfl, Nat.le_of_ble_eq_true rfl⟩) rfl rfl (Nat.le_of_ble_eq_true rfl) ⟨Nat.zero_le _, Nat.zero_le _⟩ d_Ref_clear_1 ?_
  refine Go.aload_n hx hb 0 rfl d_Ref_clear_4 ?_
  refine Go.iconst (v := 0) hx hb (by decide) d_Ref_clear_5 ?_
  refine Go.put (ty := (.int)) hx hb hts in_Ref ty_Ref tyok_Ref nm_Ref hown hK 0 (Rw_0 ad ca _) rfl 3 (by decide) (hts _ k_618) (fun _ h9 => h9) rfl (by decide +kernel) rfl rfl (Nat.le_of_ble_eq_true rfl) (uI s1 1 0) (Rs_I1 ad ca _ _) d_Ref_clear_6 ?_
  exact Go.vret hx hb hr hK hlk h d_Ref_clear_9
set_option maxHeartbeats 4000000 in
set_option maxRecDepth 100000 in
theorem m_Ref_acc (l : Launch) (D : va_G) (ad : Nat → Nat) (ca : Nat → ClassId) (N : Nat) (st : SG) (sz : Nat) (a0 : Int32) (a1 : Int32) (r : Unit) (u : SG) (h : fR_ValueMachineModel_acc N st a0 a1 = some (r, u)) : Met l y_Ref_acc (Cond.code y_Ref_acc c_Ref_acc 3 none :: tbl) ({ frames := 0, cells := 0, slots := 0, locals := 0 } : Room) (va_Pc [.ref (ad 0), .int a0, .int a1] (goPre (Rw ad ca) D vwCl (Rtys ca) sz st)) (va_Qv (fun u' => u' = u) (goPost (Rw ad ca) D vwCl (Rtys ca) (va_A (Rw ad ca st) sz)) (va_A (Rw ad ca st) sz)) 0 0 (va_A (Rw ad ca st) sz) := by
  refine go_met (Qc := fun A9 => va_Qv (fun u' => u' = u) (goPost (Rw ad ca) D vwCl (Rtys ca) A9) A9) (cc := c_Ref_acc) (maxL := 3) (ret := none) [(0, .ref (ad 0)), (1, .int a0), (2, .int a1)] (by decide) rfl (Nat.le_of_ble_eq_true rfl) rfl ?_
  intro p e s m below meth c A S hr hlk hK hA hsz
  obtain ⟨hx, hb, hml, hown, hts⟩ := id S
  unfold fR_ValueMachineModel_acc at h
  refine Go.aload_n hx hb 0 rfl d_Ref_acc_0 ?_
  refine Go.iload_n hx hb 1 rfl d_Ref_acc_1 ?_
  refine Go.put (ty := (.int)) hx hb hts in_Ref ty_Ref tyok_Ref nm_Ref hown hK 0 (Rw_0 ad ca _) rfl 4 (by decide) (hts _ k_619) (fun _ h9 => h9) rfl (by decide +kernel) rfl rfl (Nat.le_of_ble_eq_true rfl) (uI st 2 a0) (Rs_I2 ad ca _ _) d_Ref_acc_2 ?_
  refine Go.aload_n hx hb 0 rfl d_Ref_acc_5 ?_
  refine Go.iload_n hx hb 2 rfl d_Ref_acc_6 ?_
  refine Go.put (ty := (.int)) hx hb hts in_Ref ty_Ref tyok_Ref nm_Ref hown hK 0 (Rw_0 ad ca _) rfl 5 (by decide) (hts _ k_620) (fun _ h9 => h9) rfl (by decide +kernel) rfl rfl (Nat.le_of_ble_eq_true rfl) (uI (uI st 2 a0) 3 a1) (Rs_I3 ad ca _ _) d_Ref_acc_7 ?_
  exact Go.vret hx hb hr hK hlk h d_Ref_acc_10
set_option maxHeartbeats 4000000 in
set_option maxRecDepth 100000 in
theorem m_Ref_truth (l : Launch) (D : va_G) (ad : Nat → Nat) (ca : Nat → ClassId) (N : Nat) (st : SG) (sz : Nat) (a0 : Int32) (r : Unit) (u : SG) (h : fR_ValueMachineModel_truth N st a0 = some (r, u)) : Met l y_Ref_truth (Cond.code y_Ref_truth c_Ref_truth 2 none :: tbl) ({ frames := 1, cells := 0, slots := 0, locals := 22 } : Room) (va_Pc [.ref (ad 0), .int a0] (goPre (Rw ad ca) D vwCl (Rtys ca) sz st)) (va_Qv (fun u' => u' = u) (goPost (Rw ad ca) D vwCl (Rtys ca) (va_A (Rw ad ca st) sz)) (va_A (Rw ad ca st) sz)) 0 0 (va_A (Rw ad ca st) sz) := by
  refine go_met (Qc := fun A9 => va_Qv (fun u' => u' = u) (goPost (Rw ad ca) D vwCl (Rtys ca) A9) A9) (cc := c_Ref_truth) (maxL := 2) (ret := none) [(0, .ref (ad 0)), (1, .int a0)] (by decide) rfl (Nat.le_of_ble_eq_true rfl) rfl ?_
  intro p e s m below meth c A S hr hlk hK hA hsz
  obtain ⟨hx, hb, hml, hown, hts⟩ := id S
  unfold fR_ValueMachineModel_truth at h
  refine Go.aload_n hx hb 0 rfl d_Ref_truth_0 ?_
  refine Go.iload_n hx hb 1 rfl d_Ref_truth_1 ?_
  refine Go.if_eq (tgt := 9) hx hb d_Ref_truth_2 rfl (fun c2 => ?_) (fun c2 => ?_)
  · replace h := (if_pos c2).symm.trans h
    refine Go.iconst (v := 1) hx hb (by decide) d_Ref_truth_9 ?_
    refine Go.iconst (v := 0) hx hb (by decide) d_Ref_truth_10 ?_
    obtain ⟨_, s1, q1, h⟩ := gb_some h
    refine Go.callVv S hK hA 0 (Rw_0 ad ca _) rfl (fun sz9 => m_Ref_acc l D ad ca N _ sz9 _ _ _ s1 q1) (cwV 2 hts (gwV k_739 k_741 k_38 k_67 k_742) rfl rfl rfl (by decide +kernel) ⟨Nat.le_of_ble_eq_true rfl, Nat.le_of_ble_eq_true rfl⟩) rfl rfl (Nat.le_of_ble_eq_true rfl) ⟨Nat.zero_le _, Nat.zero_le _⟩ d_Ref_truth_11 ?_
    exact Go.vret hx hb hr hK hlk h d_Ref_truth_14
  · replace h := (if_neg c2).symm.trans h
    refine Go.iconst (v := 2) hx hb (by decide) d_Ref_truth_5 ?_
    refine Go.goto (tgt := 10) hx hb d_Ref_truth_6 rfl ?_
    refine Go.iconst (v := 0) hx hb (by decide) d_Ref_truth_10 ?_
    obtain ⟨_, s2, q2, h⟩ := gb_some h
    refine Go.callVv S hK hA 0 (Rw_0 ad ca _) rfl (fun sz9 => m_Ref_acc l D ad ca N _ sz9 _ _ _ s2 q2) (cwV 2 hts (gwV k_739 k_741 k_38 k_67 k_742) rfl rfl rfl (by decide +kernel) ⟨Nat.le_of_ble_eq_true rfl, Nat.le_of_ble_eq_true rfl⟩) rfl rfl (Nat.le_of_ble_eq_true rfl) ⟨Nat.zero_le _, Nat.zero_le _⟩ d_Ref_truth_11 ?_
    exact Go.vret hx hb hr hK hlk h d_Ref_truth_14
set_option maxHeartbeats 4000000 in
set_option maxRecDepth 100000 in
theorem m_Ref_deep (l : Launch) (D : va_G) (ad : Nat → Nat) (ca : Nat → ClassId) (N : Nat) (st : SG) (sz : Nat) (a0 : Int32) (r : Int32) (u : SG) (h : fR_ValueMachineModel_deep N st a0 = some (r, u)) : Met l y_Ref_deep (Cond.code y_Ref_deep c_Ref_deep 2 (some .int) :: tbl) ({ frames := 0, cells := 0, slots := 0, locals := 0 } : Room) (va_Pc [.ref (ad 0), .int a0] (goPre (Rw ad ca) D vwCl (Rtys ca) sz st)) (va_Qi (fun r' u' => r' = r ∧ u' = u) (goPost (Rw ad ca) D vwCl (Rtys ca) (va_A (Rw ad ca st) sz)) (va_A (Rw ad ca st) sz)) 0 0 (va_A (Rw ad ca st) sz) := by
  refine go_met (Qc := fun A9 => va_Qi (fun r' u' => r' = r ∧ u' = u) (goPost (Rw ad ca) D vwCl (Rtys ca) A9) A9) (cc := c_Ref_deep) (maxL := 2) (ret := (some .int)) [(0, .ref (ad 0)), (1, .int a0)] (by decide) rfl (Nat.le_of_ble_eq_true rfl) rfl ?_
  intro p e s m below meth c A S hr hlk hK hA hsz
  obtain ⟨hx, hb, hml, hown, hts⟩ := id S
  unfold fR_ValueMachineModel_deep at h
  refine Go.aload_n hx hb 0 rfl d_Ref_deep_0 ?_
  refine Go.get (v := .int (gI st 4)) hx hb hts in_Ref hown hK 0 (Rw_0 ad ca _) rfl 8 (by decide) (hts _ k_623) (fun _ h9 => h9) rfl d_Ref_deep_1 ?_
  refine Go.iconst (v := 1) hx hb (by decide) d_Ref_deep_4 ?_
  refine Go.isub hx hb d_Ref_deep_5 ?_
  refine Go.iload_n hx hb 1 rfl d_Ref_deep_6 ?_
  refine Go.isub hx hb d_Ref_deep_7 ?_
  exact Go.iret hx hb hr hK hlk h d_Ref_deep_8
set_option maxHeartbeats 4000000 in
set_option maxRecDepth 100000 in
theorem m_Ref_needs (l : Launch) (D : va_G) (ad : Nat → Nat) (ca : Nat → ClassId) (N : Nat) (st : SG) (sz : Nat) (a0 : Int32) (a1 : Int32) (r : Int32) (u : SG) (h : fR_ValueMachineModel_needs N st a0 a1 = some (r, u)) : Met l y_Ref_needs (Cond.code y_Ref_needs c_Ref_needs 3 (some .boolean) :: tbl) ({ frames := 0, cells := 0, slots := 0, locals := 0 } : Room) (va_Pc [.ref (ad 0), .int a0, .int a1] (goPre (Rw ad ca) D vwCl (Rtys ca) sz st)) (va_Qi (fun r' u' => r' = r ∧ u' = u) (goPost (Rw ad ca) D vwCl (Rtys ca) (va_A (Rw ad ca st) sz)) (va_A (Rw ad ca st) sz)) 0 0 (va_A (Rw ad ca st) sz) := by
  refine go_met (Qc := fun A9 => va_Qi (fun r' u' => r' = r ∧ u' = u) (goPost (Rw ad ca) D vwCl (Rtys ca) A9) A9) (cc := c_Ref_needs) (maxL := 3) (ret := (some .boolean)) [(0, .ref (ad 0)), (1, .int a0), (2, .int a1)] (by decide) rfl (Nat.le_of_ble_eq_true rfl) rfl ?_
  intro p e s m below meth c A S hr hlk hK hA hsz
  obtain ⟨hx, hb, hml, hown, hts⟩ := id S
  unfold fR_ValueMachineModel_needs at h
  refine Go.iload_n hx hb 1 rfl d_Ref_needs_0 ?_
  refine Go.if_ne (tgt := 37) hx hb d_Ref_needs_1 rfl (fun c1 => ?_) (fun c1 => ?_)
  · replace h := (if_neg c1).symm.trans h
    refine Go.iload_n hx hb 1 rfl d_Ref_needs_37 ?_
    obtain ⟨c38, h⟩ := gg_some h
    exact Go.zret hx hb hr hK hlk (congrArg Value.int (Decidable.not_not.mp c38)) h d_Ref_needs_38
  · replace h := (if_pos c1).symm.trans h
    refine Go.aload_n hx hb 0 rfl d_Ref_needs_4 ?_
    refine Go.get (v := .int (gI st 16)) hx hb hts in_Ref hown hK 0 (Rw_0 ad ca _) rfl 29 (by decide) (hts _ k_644) (fun _ h9 => h9) rfl d_Ref_needs_5 ?_
    refine Go.if_eq (tgt := 32) hx hb d_Ref_needs_8 rfl (fun c8 => ?_) (fun c8 => ?_)
    · replace h := (if_pos c8).symm.trans h
      refine Go.aload_n hx hb 0 rfl d_Ref_needs_32 ?_
      refine Go.iload_n hx hb 2 rfl d_Ref_needs_33 ?_
      refine Go.put (ty := (.int)) hx hb hts in_Ref ty_Ref tyok_Ref nm_Ref hown hK 0 (Rw_0 ad ca _) rfl 29 (by decide) (hts _ k_644) (fun _ h9 => h9) rfl (by decide +kernel) rfl rfl (Nat.le_of_ble_eq_true rfl) (uI st 16 a1) (Rs_I16 ad ca _ _) d_Ref_needs_34 ?_
      refine Go.iload_n hx hb 1 rfl d_Ref_needs_37 ?_
      obtain ⟨c38, h⟩ := gg_some h
      exact Go.zret hx hb hr hK hlk (congrArg Value.int (Decidable.not_not.mp c38)) h d_Ref_needs_38
    · replace h := (if_neg c8).symm.trans h
      refine Go.aload_n hx hb 0 rfl d_Ref_needs_11 ?_
      refine Go.get (v := .int (gI st 16)) hx hb hts in_Ref hown hK 0 (Rw_0 ad ca _) rfl 29 (by decide) (hts _ k_644) (fun _ h9 => h9) rfl d_Ref_needs_12 ?_
      refine Go.iconst (v := 3) hx hb (by decide) d_Ref_needs_15 ?_
      refine Go.icmp_eq (tgt := 37) hx hb d_Ref_needs_16 rfl (fun c16 => ?_) (fun c16 => ?_)
      · replace h := (if_pos c16).symm.trans h
        refine Go.iload_n hx hb 1 rfl d_Ref_needs_37 ?_
        obtain ⟨c38, h⟩ := gg_some h
        exact Go.zret hx hb hr hK hlk (congrArg Value.int (Decidable.not_not.mp c38)) h d_Ref_needs_38
      · replace h := (if_neg c16).symm.trans h
        refine Go.iload_n hx hb 2 rfl d_Ref_needs_19 ?_
        refine Go.iconst (v := 3) hx hb (by decide) d_Ref_needs_20 ?_
        refine Go.icmp_eq (tgt := 32) hx hb d_Ref_needs_21 rfl (fun c21 => ?_) (fun c21 => ?_)
        · replace h := (if_pos c21).symm.trans h
          refine Go.aload_n hx hb 0 rfl d_Ref_needs_32 ?_
          refine Go.iload_n hx hb 2 rfl d_Ref_needs_33 ?_
          refine Go.put (ty := (.int)) hx hb hts in_Ref ty_Ref tyok_Ref nm_Ref hown hK 0 (Rw_0 ad ca _) rfl 29 (by decide) (hts _ k_644) (fun _ h9 => h9) rfl (by decide +kernel) rfl rfl (Nat.le_of_ble_eq_true rfl) (uI st 16 a1) (Rs_I16 ad ca _ _) d_Ref_needs_34 ?_
          refine Go.iload_n hx hb 1 rfl d_Ref_needs_37 ?_
          obtain ⟨c38, h⟩ := gg_some h
          exact Go.zret hx hb hr hK hlk (congrArg Value.int (Decidable.not_not.mp c38)) h d_Ref_needs_38
        · replace h := (if_neg c21).symm.trans h
          refine Go.iload_n hx hb 2 rfl d_Ref_needs_24 ?_
          refine Go.aload_n hx hb 0 rfl d_Ref_needs_25 ?_
          refine Go.get (v := .int (gI st 16)) hx hb hts in_Ref hown hK 0 (Rw_0 ad ca _) rfl 29 (by decide) (hts _ k_644) (fun _ h9 => h9) rfl d_Ref_needs_26 ?_
          refine Go.icmp_ge (tgt := 37) hx hb d_Ref_needs_29 rfl (fun c29 => ?_) (fun c29 => ?_)
          · replace h := (if_pos c29).symm.trans h
            refine Go.iload_n hx hb 1 rfl d_Ref_needs_37 ?_
            obtain ⟨c38, h⟩ := gg_some h
            exact Go.zret hx hb hr hK hlk (congrArg Value.int (Decidable.not_not.mp c38)) h d_Ref_needs_38
          · replace h := (if_neg c29).symm.trans h
            refine Go.aload_n hx hb 0 rfl d_Ref_needs_32 ?_
            refine Go.iload_n hx hb 2 rfl d_Ref_needs_33 ?_
            refine Go.put (ty := (.int)) hx hb hts in_Ref ty_Ref tyok_Ref nm_Ref hown hK 0 (Rw_0 ad ca _) rfl 29 (by decide) (hts _ k_644) (fun _ h9 => h9) rfl (by decide +kernel) rfl rfl (Nat.le_of_ble_eq_true rfl) (uI st 16 a1) (Rs_I16 ad ca _ _) d_Ref_needs_34 ?_
            refine Go.iload_n hx hb 1 rfl d_Ref_needs_37 ?_
            obtain ⟨c38, h⟩ := gg_some h
            exact Go.zret hx hb hr hK hlk (congrArg Value.int (Decidable.not_not.mp c38)) h d_Ref_needs_38
set_option maxHeartbeats 4000000 in
set_option maxRecDepth 100000 in
theorem m_Ref_has (l : Launch) (D : va_G) (ad : Nat → Nat) (ca : Nat → ClassId) (N : Nat) (st : SG) (sz : Nat) (a0 : Int32) (r : Int32) (u : SG) (h : fR_ValueMachineModel_has N st a0 = some (r, u)) : Met l y_Ref_has (Cond.code y_Ref_has c_Ref_has 2 (some .boolean) :: tbl) ({ frames := 1, cells := 0, slots := 0, locals := 22 } : Room) (va_Pc [.ref (ad 0), .int a0] (goPre (Rw ad ca) D vwCl (Rtys ca) sz st)) (va_Qi (fun r' u' => r' = r ∧ u' = u) (goPost (Rw ad ca) D vwCl (Rtys ca) (va_A (Rw ad ca st) sz)) (va_A (Rw ad ca st) sz)) 0 0 (va_A (Rw ad ca st) sz) := by
  refine go_met (Qc := fun A9 => va_Qi (fun r' u' => r' = r ∧ u' = u) (goPost (Rw ad ca) D vwCl (Rtys ca) A9) A9) (cc := c_Ref_has) (maxL := 2) (ret := (some .boolean)) [(0, .ref (ad 0)), (1, .int a0)] (by decide) rfl (Nat.le_of_ble_eq_true rfl) rfl ?_
  intro p e s m below meth c A S hr hlk hK hA hsz
  obtain ⟨hx, hb, hml, hown, hts⟩ := id S
  unfold fR_ValueMachineModel_has at h
  refine Go.aload_n hx hb 0 rfl d_Ref_has_0 ?_
  refine Go.iload_n hx hb 1 rfl d_Ref_has_1 ?_
  refine Go.if_lt (tgt := 17) hx hb d_Ref_has_2 rfl (fun c2 => ?_) (fun c2 => ?_)
  · replace h := (if_pos c2).symm.trans h
    refine Go.iconst (v := 0) hx hb (by decide) d_Ref_has_17 ?_
    refine Go.iconst (v := 3) hx hb (by decide) d_Ref_has_18 ?_
    obtain ⟨r1, s1, q1, h⟩ := gb_some h
    refine Go.callVi S hK hA 0 (Rw_0 ad ca _) rfl (fun sz9 => m_Ref_needs l D ad ca N _ sz9 _ _ r1 s1 q1) (cwV 2 hts (gwV k_747 k_749 k_40 k_67 k_750) rfl rfl rfl (by decide +kernel) ⟨Nat.le_of_ble_eq_true rfl, Nat.le_of_ble_eq_true rfl⟩) rfl rfl (Nat.le_of_ble_eq_true rfl) ⟨Nat.zero_le _, Nat.zero_le _⟩ d_Ref_has_19 ?_
    obtain ⟨c22, h⟩ := gg_some h
    exact Go.zret hx hb hr hK hlk (congrArg Value.int (Decidable.not_not.mp c22)) h d_Ref_has_22
  · replace h := (if_neg c2).symm.trans h
    refine Go.iload_n hx hb 1 rfl d_Ref_has_5 ?_
    refine Go.aload_n hx hb 0 rfl d_Ref_has_6 ?_
    refine Go.get (v := .int (gI st 4)) hx hb hts in_Ref hown hK 0 (Rw_0 ad ca _) rfl 8 (by decide) (hts _ k_623) (fun _ h9 => h9) rfl d_Ref_has_7 ?_
    refine Go.icmp_gt (tgt := 17) hx hb d_Ref_has_10 rfl (fun c10 => ?_) (fun c10 => ?_)
    · replace h := (if_pos c10).symm.trans h
      refine Go.iconst (v := 0) hx hb (by decide) d_Ref_has_17 ?_
      refine Go.iconst (v := 3) hx hb (by decide) d_Ref_has_18 ?_
      obtain ⟨r2, s2, q2, h⟩ := gb_some h
      refine Go.callVi S hK hA 0 (Rw_0 ad ca _) rfl (fun sz9 => m_Ref_needs l D ad ca N _ sz9 _ _ r2 s2 q2) (cwV 2 hts (gwV k_747 k_749 k_40 k_67 k_750) rfl rfl rfl (by decide +kernel) ⟨Nat.le_of_ble_eq_true rfl, Nat.le_of_ble_eq_true rfl⟩) rfl rfl (Nat.le_of_ble_eq_true rfl) ⟨Nat.zero_le _, Nat.zero_le _⟩ d_Ref_has_19 ?_
      obtain ⟨c22, h⟩ := gg_some h
      exact Go.zret hx hb hr hK hlk (congrArg Value.int (Decidable.not_not.mp c22)) h d_Ref_has_22
    · replace h := (if_neg c10).symm.trans h
      refine Go.iconst (v := 1) hx hb (by decide) d_Ref_has_13 ?_
      refine Go.goto (tgt := 18) hx hb d_Ref_has_14 rfl ?_
      refine Go.iconst (v := 3) hx hb (by decide) d_Ref_has_18 ?_
      obtain ⟨r3, s3, q3, h⟩ := gb_some h
      refine Go.callVi S hK hA 0 (Rw_0 ad ca _) rfl (fun sz9 => m_Ref_needs l D ad ca N _ sz9 _ _ r3 s3 q3) (cwV 2 hts (gwV k_747 k_749 k_40 k_67 k_750) rfl rfl rfl (by decide +kernel) ⟨Nat.le_of_ble_eq_true rfl, Nat.le_of_ble_eq_true rfl⟩) rfl rfl (Nat.le_of_ble_eq_true rfl) ⟨Nat.zero_le _, Nat.zero_le _⟩ d_Ref_has_19 ?_
      obtain ⟨c22, h⟩ := gg_some h
      exact Go.zret hx hb hr hK hlk (congrArg Value.int (Decidable.not_not.mp c22)) h d_Ref_has_22
set_option maxHeartbeats 4000000 in
set_option maxRecDepth 100000 in
theorem m_Ref_isSort (l : Launch) (D : va_G) (ad : Nat → Nat) (ca : Nat → ClassId) (N : Nat) (st : SG) (sz : Nat) (a0 : Int32) (a1 : Int32) (r : Int32) (u : SG) (h : fR_ValueMachineModel_isSort N st a0 a1 = some (r, u)) : Met l y_Ref_isSort (Cond.code y_Ref_isSort c_Ref_isSort 3 (some .boolean) :: tbl) ({ frames := 1, cells := 0, slots := 0, locals := 22 } : Room) (va_Pc [.ref (ad 0), .int a0, .int a1] (goPre (Rw ad ca) D vwCl (Rtys ca) sz st)) (va_Qi (fun r' u' => r' = r ∧ u' = u) (goPost (Rw ad ca) D vwCl (Rtys ca) (va_A (Rw ad ca st) sz)) (va_A (Rw ad ca st) sz)) 0 0 (va_A (Rw ad ca st) sz) := by
  refine go_met (Qc := fun A9 => va_Qi (fun r' u' => r' = r ∧ u' = u) (goPost (Rw ad ca) D vwCl (Rtys ca) A9) A9) (cc := c_Ref_isSort) (maxL := 3) (ret := (some .boolean)) [(0, .ref (ad 0)), (1, .int a0), (2, .int a1)] (by decide) rfl (Nat.le_of_ble_eq_true rfl) rfl ?_
  intro p e s m below meth c A S hr hlk hK hA hsz
  obtain ⟨hx, hb, hml, hown, hts⟩ := id S
  unfold fR_ValueMachineModel_isSort at h
  refine Go.aload_n hx hb 0 rfl d_Ref_isSort_0 ?_
  refine Go.aload_n hx hb 0 rfl d_Ref_isSort_1 ?_
  refine Go.get (v := .ref (ad 3)) hx hb hts in_Ref hown hK 0 (Rw_0 ad ca _) rfl 6 (by decide) (hts _ k_621) (fun _ h9 => h9) rfl d_Ref_isSort_2 ?_
  refine Go.aload_n hx hb 0 rfl d_Ref_isSort_5 ?_
  refine Go.iload_n hx hb 1 rfl d_Ref_isSort_6 ?_
  obtain ⟨r1, s1, q1, h⟩ := gb_some h
  refine Go.callVi S hK hA 0 (Rw_0 ad ca _) rfl (fun sz9 => m_Ref_deep l D ad ca N _ sz9 _ r1 s1 q1) (cwV 1 hts (gwV k_751 k_753 k_41 k_67 k_754) rfl rfl rfl (by decide +kernel) ⟨Nat.le_of_ble_eq_true rfl, Nat.le_of_ble_eq_true rfl⟩) rfl rfl (Nat.le_of_ble_eq_true rfl) ⟨Nat.zero_le _, Nat.zero_le _⟩ d_Ref_isSort_7 ?_
  obtain ⟨c10, h⟩ := gg_some h
  refine Go.iald (v := gA s1 2 r1.toNatClampNeg) hx hb hK 3 2 (Rw_3 ad ca _) rfl c10 rfl d_Ref_isSort_10 ?_
  refine Go.iload_n hx hb 2 rfl d_Ref_isSort_11 ?_
  refine Go.icmp_ne (tgt := 19) hx hb d_Ref_isSort_12 rfl (fun c12 => ?_) (fun c12 => ?_)
  · replace h := (if_neg c12).symm.trans h
    refine Go.iconst (v := 0) hx hb (by decide) d_Ref_isSort_19 ?_
    refine Go.iconst (v := 1) hx hb (by decide) d_Ref_isSort_20 ?_
    obtain ⟨r2, s2, q2, h⟩ := gb_some h
    refine Go.callVi S hK hA 0 (Rw_0 ad ca _) rfl (fun sz9 => m_Ref_needs l D ad ca N _ sz9 _ _ r2 s2 q2) (cwV 2 hts (gwV k_747 k_749 k_40 k_67 k_750) rfl rfl rfl (by decide +kernel) ⟨Nat.le_of_ble_eq_true rfl, Nat.le_of_ble_eq_true rfl⟩) rfl rfl (Nat.le_of_ble_eq_true rfl) ⟨Nat.zero_le _, Nat.zero_le _⟩ d_Ref_isSort_21 ?_
    obtain ⟨c24, h⟩ := gg_some h
    exact Go.zret hx hb hr hK hlk (congrArg Value.int (Decidable.not_not.mp c24)) h d_Ref_isSort_24
  · replace h := (if_pos c12).symm.trans h
    refine Go.iconst (v := 1) hx hb (by decide) d_Ref_isSort_15 ?_
    refine Go.goto (tgt := 20) hx hb d_Ref_isSort_16 rfl ?_
    refine Go.iconst (v := 1) hx hb (by decide) d_Ref_isSort_20 ?_
    obtain ⟨r3, s3, q3, h⟩ := gb_some h
    refine Go.callVi S hK hA 0 (Rw_0 ad ca _) rfl (fun sz9 => m_Ref_needs l D ad ca N _ sz9 _ _ r3 s3 q3) (cwV 2 hts (gwV k_747 k_749 k_40 k_67 k_750) rfl rfl rfl (by decide +kernel) ⟨Nat.le_of_ble_eq_true rfl, Nat.le_of_ble_eq_true rfl⟩) rfl rfl (Nat.le_of_ble_eq_true rfl) ⟨Nat.zero_le _, Nat.zero_le _⟩ d_Ref_isSort_21 ?_
    obtain ⟨c24, h⟩ := gg_some h
    exact Go.zret hx hb hr hK hlk (congrArg Value.int (Decidable.not_not.mp c24)) h d_Ref_isSort_24
set_option maxHeartbeats 4000000 in
set_option maxRecDepth 100000 in
theorem m_Ref_isAcc (l : Launch) (D : va_G) (ad : Nat → Nat) (ca : Nat → ClassId) (N : Nat) (st : SG) (sz : Nat) (a0 : Int32) (r : Int32) (u : SG) (h : fR_ValueMachineModel_isAcc N st a0 = some (r, u)) : Met l y_Ref_isAcc (Cond.code y_Ref_isAcc c_Ref_isAcc 2 (some .boolean) :: tbl) ({ frames := 1, cells := 0, slots := 0, locals := 22 } : Room) (va_Pc [.ref (ad 0), .int a0] (goPre (Rw ad ca) D vwCl (Rtys ca) sz st)) (va_Qi (fun r' u' => r' = r ∧ u' = u) (goPost (Rw ad ca) D vwCl (Rtys ca) (va_A (Rw ad ca st) sz)) (va_A (Rw ad ca st) sz)) 0 0 (va_A (Rw ad ca st) sz) := by
  refine go_met (Qc := fun A9 => va_Qi (fun r' u' => r' = r ∧ u' = u) (goPost (Rw ad ca) D vwCl (Rtys ca) A9) A9) (cc := c_Ref_isAcc) (maxL := 2) (ret := (some .boolean)) [(0, .ref (ad 0)), (1, .int a0)] (by decide) rfl (Nat.le_of_ble_eq_true rfl) rfl ?_
  intro p e s m below meth c A S hr hlk hK hA hsz
  obtain ⟨hx, hb, hml, hown, hts⟩ := id S
  unfold fR_ValueMachineModel_isAcc at h
  refine Go.aload_n hx hb 0 rfl d_Ref_isAcc_0 ?_
  refine Go.aload_n hx hb 0 rfl d_Ref_isAcc_1 ?_
  refine Go.get (v := .int (gI st 2)) hx hb hts in_Ref hown hK 0 (Rw_0 ad ca _) rfl 4 (by decide) (hts _ k_619) (fun _ h9 => h9) rfl d_Ref_isAcc_2 ?_
  refine Go.iload_n hx hb 1 rfl d_Ref_isAcc_5 ?_
  refine Go.icmp_ne (tgt := 13) hx hb d_Ref_isAcc_6 rfl (fun c6 => ?_) (fun c6 => ?_)
  · replace h := (if_neg c6).symm.trans h
    refine Go.iconst (v := 0) hx hb (by decide) d_Ref_isAcc_13 ?_
    refine Go.iconst (v := 1) hx hb (by decide) d_Ref_isAcc_14 ?_
    obtain ⟨r1, s1, q1, h⟩ := gb_some h
    refine Go.callVi S hK hA 0 (Rw_0 ad ca _) rfl (fun sz9 => m_Ref_needs l D ad ca N _ sz9 _ _ r1 s1 q1) (cwV 2 hts (gwV k_747 k_749 k_40 k_67 k_750) rfl rfl rfl (by decide +kernel) ⟨Nat.le_of_ble_eq_true rfl, Nat.le_of_ble_eq_true rfl⟩) rfl rfl (Nat.le_of_ble_eq_true rfl) ⟨Nat.zero_le _, Nat.zero_le _⟩ d_Ref_isAcc_15 ?_
    obtain ⟨c18, h⟩ := gg_some h
    exact Go.zret hx hb hr hK hlk (congrArg Value.int (Decidable.not_not.mp c18)) h d_Ref_isAcc_18
  · replace h := (if_pos c6).symm.trans h
    refine Go.iconst (v := 1) hx hb (by decide) d_Ref_isAcc_9 ?_
    refine Go.goto (tgt := 14) hx hb d_Ref_isAcc_10 rfl ?_
    refine Go.iconst (v := 1) hx hb (by decide) d_Ref_isAcc_14 ?_
    obtain ⟨r2, s2, q2, h⟩ := gb_some h
    refine Go.callVi S hK hA 0 (Rw_0 ad ca _) rfl (fun sz9 => m_Ref_needs l D ad ca N _ sz9 _ _ r2 s2 q2) (cwV 2 hts (gwV k_747 k_749 k_40 k_67 k_750) rfl rfl rfl (by decide +kernel) ⟨Nat.le_of_ble_eq_true rfl, Nat.le_of_ble_eq_true rfl⟩) rfl rfl (Nat.le_of_ble_eq_true rfl) ⟨Nat.zero_le _, Nat.zero_le _⟩ d_Ref_isAcc_15 ?_
    obtain ⟨c18, h⟩ := gg_some h
    exact Go.zret hx hb hr hK hlk (congrArg Value.int (Decidable.not_not.mp c18)) h d_Ref_isAcc_18
set_option maxHeartbeats 4000000 in
set_option maxRecDepth 100000 in
theorem m_Ref_isPlace (l : Launch) (D : va_G) (ad : Nat → Nat) (ca : Nat → ClassId) (N : Nat) (st : SG) (sz : Nat) (a0 : Int32) (r : Int32) (u : SG) (h : fR_ValueMachineModel_isPlace N st a0 = some (r, u)) : Met l y_Ref_isPlace (Cond.code y_Ref_isPlace c_Ref_isPlace 2 (some .boolean) :: tbl) ({ frames := 1, cells := 0, slots := 0, locals := 22 } : Room) (va_Pc [.ref (ad 0), .int a0] (goPre (Rw ad ca) D vwCl (Rtys ca) sz st)) (va_Qi (fun r' u' => r' = r ∧ u' = u) (goPost (Rw ad ca) D vwCl (Rtys ca) (va_A (Rw ad ca st) sz)) (va_A (Rw ad ca st) sz)) 0 0 (va_A (Rw ad ca st) sz) := by
  refine go_met (Qc := fun A9 => va_Qi (fun r' u' => r' = r ∧ u' = u) (goPost (Rw ad ca) D vwCl (Rtys ca) A9) A9) (cc := c_Ref_isPlace) (maxL := 2) (ret := (some .boolean)) [(0, .ref (ad 0)), (1, .int a0)] (by decide) rfl (Nat.le_of_ble_eq_true rfl) rfl ?_
  intro p e s m below meth c A S hr hlk hK hA hsz
  obtain ⟨hx, hb, hml, hown, hts⟩ := id S
  unfold fR_ValueMachineModel_isPlace at h
  refine Go.aload_n hx hb 0 rfl d_Ref_isPlace_0 ?_
  refine Go.iload_n hx hb 1 rfl d_Ref_isPlace_1 ?_
  refine Go.if_lt (tgt := 17) hx hb d_Ref_isPlace_2 rfl (fun c2 => ?_) (fun c2 => ?_)
  · replace h := (if_pos c2).symm.trans h
    refine Go.iconst (v := 0) hx hb (by decide) d_Ref_isPlace_17 ?_
    refine Go.bipush (v := 8) hx hb (by decide) d_Ref_isPlace_18 ?_
    obtain ⟨r1, s1, q1, h⟩ := gb_some h
    refine Go.callVi S hK hA 0 (Rw_0 ad ca _) rfl (fun sz9 => m_Ref_needs l D ad ca N _ sz9 _ _ r1 s1 q1) (cwV 2 hts (gwV k_747 k_749 k_40 k_67 k_750) rfl rfl rfl (by decide +kernel) ⟨Nat.le_of_ble_eq_true rfl, Nat.le_of_ble_eq_true rfl⟩) rfl rfl (Nat.le_of_ble_eq_true rfl) ⟨Nat.zero_le _, Nat.zero_le _⟩ d_Ref_isPlace_20 ?_
    obtain ⟨c23, h⟩ := gg_some h
    exact Go.zret hx hb hr hK hlk (congrArg Value.int (Decidable.not_not.mp c23)) h d_Ref_isPlace_23
  · replace h := (if_neg c2).symm.trans h
    refine Go.iload_n hx hb 1 rfl d_Ref_isPlace_5 ?_
    refine Go.aload_n hx hb 0 rfl d_Ref_isPlace_6 ?_
    refine Go.get (v := .int (gI st 1)) hx hb hts in_Ref hown hK 0 (Rw_0 ad ca _) rfl 3 (by decide) (hts _ k_618) (fun _ h9 => h9) rfl d_Ref_isPlace_7 ?_
    refine Go.icmp_gt (tgt := 17) hx hb d_Ref_isPlace_10 rfl (fun c10 => ?_) (fun c10 => ?_)
    · replace h := (if_pos c10).symm.trans h
      refine Go.iconst (v := 0) hx hb (by decide) d_Ref_isPlace_17 ?_
      refine Go.bipush (v := 8) hx hb (by decide) d_Ref_isPlace_18 ?_
      obtain ⟨r2, s2, q2, h⟩ := gb_some h
      refine Go.callVi S hK hA 0 (Rw_0 ad ca _) rfl (fun sz9 => m_Ref_needs l D ad ca N _ sz9 _ _ r2 s2 q2) (cwV 2 hts (gwV k_747 k_749 k_40 k_67 k_750) rfl rfl rfl (by decide +kernel) ⟨Nat.le_of_ble_eq_true rfl, Nat.le_of_ble_eq_true rfl⟩) rfl rfl (Nat.le_of_ble_eq_true rfl) ⟨Nat.zero_le _, Nat.zero_le _⟩ d_Ref_isPlace_20 ?_
      obtain ⟨c23, h⟩ := gg_some h
      exact Go.zret hx hb hr hK hlk (congrArg Value.int (Decidable.not_not.mp c23)) h d_Ref_isPlace_23
    · replace h := (if_neg c10).symm.trans h
      refine Go.iconst (v := 1) hx hb (by decide) d_Ref_isPlace_13 ?_
      refine Go.goto (tgt := 18) hx hb d_Ref_isPlace_14 rfl ?_
      refine Go.bipush (v := 8) hx hb (by decide) d_Ref_isPlace_18 ?_
      obtain ⟨r3, s3, q3, h⟩ := gb_some h
      refine Go.callVi S hK hA 0 (Rw_0 ad ca _) rfl (fun sz9 => m_Ref_needs l D ad ca N _ sz9 _ _ r3 s3 q3) (cwV 2 hts (gwV k_747 k_749 k_40 k_67 k_750) rfl rfl rfl (by decide +kernel) ⟨Nat.le_of_ble_eq_true rfl, Nat.le_of_ble_eq_true rfl⟩) rfl rfl (Nat.le_of_ble_eq_true rfl) ⟨Nat.zero_le _, Nat.zero_le _⟩ d_Ref_isPlace_20 ?_
      obtain ⟨c23, h⟩ := gg_some h
      exact Go.zret hx hb hr hK hlk (congrArg Value.int (Decidable.not_not.mp c23)) h d_Ref_isPlace_23
set_option maxHeartbeats 4000000 in
set_option maxRecDepth 100000 in
theorem m_Ref_meets (l : Launch) (D : va_G) (ad : Nat → Nat) (ca : Nat → ClassId) (N : Nat) (st : SG) (sz : Nat) (a0 : Int32) (a1 : Int32) (r : Unit) (u : SG) (h : fR_ValueMachineModel_meets N st a0 a1 = some (r, u)) : Met l y_Ref_meets (Cond.code y_Ref_meets c_Ref_meets 3 none :: tbl) ({ frames := 0, cells := 0, slots := 0, locals := 0 } : Room) (va_Pc [.ref (ad 0), .int a0, .int a1] (goPre (Rw ad ca) D vwCl (Rtys ca) sz st)) (va_Qv (fun u' => u' = u) (goPost (Rw ad ca) D vwCl (Rtys ca) (va_A (Rw ad ca st) sz)) (va_A (Rw ad ca st) sz)) 0 0 (va_A (Rw ad ca st) sz) := by
  refine go_met (Qc := fun A9 => va_Qv (fun u' => u' = u) (goPost (Rw ad ca) D vwCl (Rtys ca) A9) A9) (cc := c_Ref_meets) (maxL := 3) (ret := none) [(0, .ref (ad 0)), (1, .int a0), (2, .int a1)] (by decide) rfl (Nat.le_of_ble_eq_true rfl) rfl ?_
  intro p e s m below meth c A S hr hlk hK hA hsz
  obtain ⟨hx, hb, hml, hown, hts⟩ := id S
  unfold fR_ValueMachineModel_meets at h
  refine Go.iload_n hx hb 1 rfl d_Ref_meets_0 ?_
  refine Go.iconst (v := 4) hx hb (by decide) d_Ref_meets_1 ?_
  refine Go.icmp_eq (tgt := 10) hx hb d_Ref_meets_2 rfl (fun c2 => ?_) (fun c2 => ?_)
  · replace h := (if_pos c2).symm.trans h
    refine Go.aload_n hx hb 0 rfl d_Ref_meets_10 ?_
    refine Go.get (v := .ref (ad 13)) hx hb hts in_Ref hown hK 0 (Rw_0 ad ca _) rfl 18 (by decide) (hts _ k_633) (fun _ h9 => h9) rfl d_Ref_meets_11 ?_
    refine Go.iload_n hx hb 2 rfl d_Ref_meets_14 ?_
    refine Go.iconst (v := 1) hx hb (by decide) d_Ref_meets_15 ?_
    obtain ⟨c16, h⟩ := gg_some h
    refine Go.zast hx hb hK 13 12 (Rw_13 ad ca _) rfl c16 (uA st 12 (upd (gA st 12) a1.toNatClampNeg (vp_nar .boolean 1))) (Rs_A12 ad ca _ _) d_Ref_meets_16 ?_
    exact Go.vret hx hb hr hK hlk h d_Ref_meets_17
  · replace h := (if_neg c2).symm.trans h
    refine Go.iload_n hx hb 1 rfl d_Ref_meets_5 ?_
    refine Go.iconst (v := 5) hx hb (by decide) d_Ref_meets_6 ?_
    refine Go.icmp_ne (tgt := 17) hx hb d_Ref_meets_7 rfl (fun c7 => ?_) (fun c7 => ?_)
    · replace h := (if_neg c7).symm.trans h
      exact Go.vret hx hb hr hK hlk h d_Ref_meets_17
    · replace h := (if_pos c7).symm.trans h
      refine Go.aload_n hx hb 0 rfl d_Ref_meets_10 ?_
      refine Go.get (v := .ref (ad 13)) hx hb hts in_Ref hown hK 0 (Rw_0 ad ca _) rfl 18 (by decide) (hts _ k_633) (fun _ h9 => h9) rfl d_Ref_meets_11 ?_
      refine Go.iload_n hx hb 2 rfl d_Ref_meets_14 ?_
      refine Go.iconst (v := 1) hx hb (by decide) d_Ref_meets_15 ?_
      obtain ⟨c16, h⟩ := gg_some h
      refine Go.zast hx hb hK 13 12 (Rw_13 ad ca _) rfl c16 (uA st 12 (upd (gA st 12) a1.toNatClampNeg (vp_nar .boolean 1))) (Rs_A12 ad ca _ _) d_Ref_meets_16 ?_
      exact Go.vret hx hb hr hK hlk h d_Ref_meets_17
set_option maxHeartbeats 4000000 in
set_option maxRecDepth 100000 in
theorem m_Ref_many (l : Launch) (D : va_G) (ad : Nat → Nat) (ca : Nat → ClassId) (N : Nat) (st : SG) (sz : Nat) (r : Int32) (u : SG) (h : fR_ValueMachineModel_many N st = some (r, u)) : Met l y_Ref_many (Cond.code y_Ref_many c_Ref_many 3 (some .int) :: tbl) ({ frames := 0, cells := 0, slots := 0, locals := 0 } : Room) (va_Pc [.ref (ad 0)] (goPre (Rw ad ca) D vwCl (Rtys ca) sz st)) (va_Qi (fun r' u' => r' = r ∧ u' = u) (goPost (Rw ad ca) D vwCl (Rtys ca) (va_A (Rw ad ca st) sz)) (va_A (Rw ad ca st) sz)) 0 0 (va_A (Rw ad ca st) sz) := by
  refine go_met (Qc := fun A9 => va_Qi (fun r' u' => r' = r ∧ u' = u) (goPost (Rw ad ca) D vwCl (Rtys ca) A9) A9) (cc := c_Ref_many) (maxL := 3) (ret := (some .int)) [(0, .ref (ad 0))] (by decide) rfl (Nat.le_of_ble_eq_true rfl) rfl ?_
  intro p e s m below meth c A S hr hlk hK hA hsz
  obtain ⟨hx, hb, hml, hown, hts⟩ := id S
  unfold fR_ValueMachineModel_many at h
  have L4 : ∀ (n : Nat) (v1 : Int32) (v2 : Int32) (st : SG), fR_ValueMachineModel_many_L4 N n v1 v2 st = some (r, u) → Go (Rw ad ca) D vwCl A s.heap 3 p l e ({ frames := 0, cells := 0, slots := 0, locals := 0 } : Room) s m ([.ref (ad 0)] : List Value).toArray below meth c 0 0 (MQ below (va_Qi (fun r' u' => r' = r ∧ u' = u) (goPost (Rw ad ca) D vwCl (Rtys ca) A) A) ([.ref (ad 0)] : List Value).toArray s 0 0 A) 4 [(0, .ref (ad 0)), (1, .int v1), (2, .int v2)] [] st := by
    intro n
    induction n with
    | zero => intro v1 v2 st h; cases h
    | succ n ih =>
      intro v1 v2 st h
      unfold fR_ValueMachineModel_many_L4 at h
      refine Go.iload_n hx hb 2 rfl d_Ref_many_4 ?_
      refine Go.bipush (v := 30) hx hb (by decide) d_Ref_many_5 ?_
      refine Go.icmp_ge (tgt := 33) hx hb d_Ref_many_7 rfl (fun c7 => ?_) (fun c7 => ?_)
      · replace h := (if_pos c7).symm.trans h
        refine Go.iload_n hx hb 1 rfl d_Ref_many_33 ?_
        exact Go.iret hx hb hr hK hlk h d_Ref_many_34
      · replace h := (if_neg c7).symm.trans h
        refine Go.iload_n hx hb 1 rfl d_Ref_many_10 ?_
        refine Go.aload_n hx hb 0 rfl d_Ref_many_11 ?_
        refine Go.get (v := .ref (ad 9)) hx hb hts in_Ref hown hK 0 (Rw_0 ad ca _) rfl 14 (by decide) (hts _ k_629) (fun _ h9 => h9) rfl d_Ref_many_12 ?_
        refine Go.iload_n hx hb 2 rfl d_Ref_many_15 ?_
        obtain ⟨c16, h⟩ := gg_some h
        refine Go.iald (v := gA st 8 v2.toNatClampNeg) hx hb hK 9 8 (Rw_9 ad ca _) rfl c16 rfl d_Ref_many_16 ?_
        refine Go.if_eq (tgt := 24) hx hb d_Ref_many_17 rfl (fun c17 => ?_) (fun c17 => ?_)
        · replace h := (if_pos c17).symm.trans h
          refine Go.iconst (v := 0) hx hb (by decide) d_Ref_many_24 ?_
          refine Go.iadd hx hb d_Ref_many_25 ?_
          refine Go.istore_n (i := 1) (lv' := [(1, .int (v1 + 0)), (0, .ref (ad 0)), (2, .int v2)]) hx hb rfl (Nat.le_of_ble_eq_true rfl) rfl d_Ref_many_26 ?_
          refine Go.iinc (v := v2 + 1) (lv' := [(2, .int (v2 + 1)), (1, .int (v1 + 0)), (0, .ref (ad 0))]) hx hb 2 rfl rfl (Nat.le_of_ble_eq_true rfl) rfl d_Ref_many_27 ?_
          refine Go.goto (tgt := 4) hx hb d_Ref_many_30 rfl ?_
          refine Go.sub [2, 1, 0] rfl ?_
          exact ih _ _ _ h
        · replace h := (if_neg c17).symm.trans h
          refine Go.iconst (v := 1) hx hb (by decide) d_Ref_many_20 ?_
          refine Go.goto (tgt := 25) hx hb d_Ref_many_21 rfl ?_
          refine Go.iadd hx hb d_Ref_many_25 ?_
          refine Go.istore_n (i := 1) (lv' := [(1, .int (v1 + 1)), (0, .ref (ad 0)), (2, .int v2)]) hx hb rfl (Nat.le_of_ble_eq_true rfl) rfl d_Ref_many_26 ?_
          refine Go.iinc (v := v2 + 1) (lv' := [(2, .int (v2 + 1)), (1, .int (v1 + 1)), (0, .ref (ad 0))]) hx hb 2 rfl rfl (Nat.le_of_ble_eq_true rfl) rfl d_Ref_many_27 ?_
          refine Go.goto (tgt := 4) hx hb d_Ref_many_30 rfl ?_
          refine Go.sub [2, 1, 0] rfl ?_
          exact ih _ _ _ h
  refine Go.iconst (v := 0) hx hb (by decide) d_Ref_many_0 ?_
  refine Go.istore_n (i := 1) (lv' := [(1, .int 0), (0, .ref (ad 0))]) hx hb rfl (Nat.le_of_ble_eq_true rfl) rfl d_Ref_many_1 ?_
  refine Go.iconst (v := 0) hx hb (by decide) d_Ref_many_2 ?_
  refine Go.istore_n (i := 2) (lv' := [(2, .int 0), (1, .int 0), (0, .ref (ad 0))]) hx hb rfl (Nat.le_of_ble_eq_true rfl) rfl d_Ref_many_3 ?_
  refine Go.sub [2, 1, 0] rfl ?_
  exact L4 N _ _ _ h
set_option maxHeartbeats 4000000 in
set_option maxRecDepth 100000 in
theorem m_Ref_sweeps (l : Launch) (D : va_G) (ad : Nat → Nat) (ca : Nat → ClassId) (N : Nat) (st : SG) (sz : Nat) (r : Unit) (u : SG) (h : fR_ValueMachineModel_sweeps N st = some (r, u)) : Met l y_Ref_sweeps (Cond.code y_Ref_sweeps c_Ref_sweeps 4 none :: tbl) ({ frames := 1, cells := 0, slots := 0, locals := 22 } : Room) (va_Pc [.ref (ad 0)] (goPre (Rw ad ca) D vwCl (Rtys ca) sz st)) (va_Qv (fun u' => u' = u) (goPost (Rw ad ca) D vwCl (Rtys ca) (va_A (Rw ad ca st) sz)) (va_A (Rw ad ca st) sz)) 0 0 (va_A (Rw ad ca st) sz) := by
  refine go_met (Qc := fun A9 => va_Qv (fun u' => u' = u) (goPost (Rw ad ca) D vwCl (Rtys ca) A9) A9) (cc := c_Ref_sweeps) (maxL := 4) (ret := none) [(0, .ref (ad 0))] (by decide) rfl (Nat.le_of_ble_eq_true rfl) rfl ?_
  intro p e s m below meth c A S hr hlk hK hA hsz
  obtain ⟨hx, hb, hml, hown, hts⟩ := id S
  unfold fR_ValueMachineModel_sweeps at h
  have L188 : ∀ (n : Nat) (v1 : Int32) (st : SG), fR_ValueMachineModel_sweeps_L188 N n v1 st = some (r, u) → Go (Rw ad ca) D vwCl A s.heap 4 p l e ({ frames := 1, cells := 0, slots := 0, locals := 22 } : Room) s m ([.ref (ad 0)] : List Value).toArray below meth c 0 0 (MQ below (va_Qv (fun u' => u' = u) (goPost (Rw ad ca) D vwCl (Rtys ca) A) A) ([.ref (ad 0)] : List Value).toArray s 0 0 A) 188 [(0, .ref (ad 0)), (1, .int v1)] [] st := by
    intro n
    induction n with
    | zero => intro v1 st h; cases h
    | succ n ih =>
      intro v1 st h
      unfold fR_ValueMachineModel_sweeps_L188 at h
      refine Go.iload_n hx hb 1 rfl d_Ref_sweeps_188 ?_
      refine Go.bipush (v := 30) hx hb (by decide) d_Ref_sweeps_189 ?_
      refine Go.icmp_ge (tgt := 225) hx hb d_Ref_sweeps_191 rfl (fun c191 => ?_) (fun c191 => ?_)
      · replace h := (if_pos c191).symm.trans h
        exact Go.vret hx hb hr hK hlk h d_Ref_sweeps_225
      · replace h := (if_neg c191).symm.trans h
        refine Go.aload_n hx hb 0 rfl d_Ref_sweeps_194 ?_
        refine Go.get (v := .ref (ad 9)) hx hb hts in_Ref hown hK 0 (Rw_0 ad ca _) rfl 14 (by decide) (hts _ k_629) (fun _ h9 => h9) rfl d_Ref_sweeps_195 ?_
        refine Go.iload_n hx hb 1 rfl d_Ref_sweeps_198 ?_
        refine Go.aload_n hx hb 0 rfl d_Ref_sweeps_199 ?_
        refine Go.get (v := .ref (ad 13)) hx hb hts in_Ref hown hK 0 (Rw_0 ad ca _) rfl 18 (by decide) (hts _ k_633) (fun _ h9 => h9) rfl d_Ref_sweeps_200 ?_
        refine Go.iload_n hx hb 1 rfl d_Ref_sweeps_203 ?_
        obtain ⟨c204, h⟩ := gg_some h
        refine Go.zald (v := gA st 12 v1.toNatClampNeg) hx hb hK 13 12 (Rw_13 ad ca _) rfl c204 rfl d_Ref_sweeps_204 ?_
        refine Go.if_eq (tgt := 217) hx hb d_Ref_sweeps_205 rfl (fun c205 => ?_) (fun c205 => ?_)
        · replace h := (if_pos c205).symm.trans h
          refine Go.iconst (v := 0) hx hb (by decide) d_Ref_sweeps_217 ?_
          obtain ⟨c218, h⟩ := gg_some h
          refine Go.iast hx hb hK 9 8 (Rw_9 ad ca _) rfl c218 (uA st 8 (upd (gA st 8) v1.toNatClampNeg 0)) (Rs_A8 ad ca _ _) d_Ref_sweeps_218 ?_
          refine Go.iinc (v := v1 + 1) (lv' := [(1, .int (v1 + 1)), (0, .ref (ad 0))]) hx hb 1 rfl rfl (Nat.le_of_ble_eq_true rfl) rfl d_Ref_sweeps_219 ?_
          refine Go.goto (tgt := 188) hx hb d_Ref_sweeps_222 rfl ?_
          refine Go.sub [1, 0] rfl ?_
          exact ih _ _ h
        · replace h := (if_neg c205).symm.trans h
          refine Go.aload_n hx hb 0 rfl d_Ref_sweeps_208 ?_
          refine Go.get (v := .ref (ad 9)) hx hb hts in_Ref hown hK 0 (Rw_0 ad ca _) rfl 14 (by decide) (hts _ k_629) (fun _ h9 => h9) rfl d_Ref_sweeps_209 ?_
          refine Go.iload_n hx hb 1 rfl d_Ref_sweeps_212 ?_
          obtain ⟨c213, h⟩ := gg_some h
          refine Go.iald (v := gA st 8 v1.toNatClampNeg) hx hb hK 9 8 (Rw_9 ad ca _) rfl c213 rfl d_Ref_sweeps_213 ?_
          refine Go.goto (tgt := 218) hx hb d_Ref_sweeps_214 rfl ?_
          obtain ⟨c218, h⟩ := gg_some h
          refine Go.iast hx hb hK 9 8 (Rw_9 ad ca _) rfl c218 (uA st 8 (upd (gA st 8) v1.toNatClampNeg (gA st 8 v1.toNatClampNeg))) (Rs_A8 ad ca _ _) d_Ref_sweeps_218 ?_
          refine Go.iinc (v := v1 + 1) (lv' := [(1, .int (v1 + 1)), (0, .ref (ad 0))]) hx hb 1 rfl rfl (Nat.le_of_ble_eq_true rfl) rfl d_Ref_sweeps_219 ?_
          refine Go.goto (tgt := 188) hx hb d_Ref_sweeps_222 rfl ?_
          refine Go.sub [1, 0] rfl ?_
          exact ih _ _ h
  have L123 : ∀ (K115 : Int32 → Int32 → SG → Option (Unit × SG)) (hK115 : ∀ (v1 : Int32) (v2 : Int32) (st : SG), K115 v1 v2 st = some (r, u) → Go (Rw ad ca) D vwCl A s.heap 4 p l e ({ frames := 1, cells := 0, slots := 0, locals := 22 } : Room) s m ([.ref (ad 0)] : List Value).toArray below meth c 0 0 (MQ below (va_Qv (fun u' => u' = u) (goPost (Rw ad ca) D vwCl (Rtys ca) A) A) ([.ref (ad 0)] : List Value).toArray s 0 0 A) 115 [(0, .ref (ad 0)), (1, .int v1), (2, .int v2)] [] st) (n : Nat) (v1 : Int32) (v2 : Int32) (v3 : Int32) (st : SG), fR_ValueMachineModel_sweeps_L123 N K115 n v1 v2 v3 st = some (r, u) → Go (Rw ad ca) D vwCl A s.heap 4 p l e ({ frames := 1, cells := 0, slots := 0, locals := 22 } : Room) s m ([.ref (ad 0)] : List Value).toArray below meth c 0 0 (MQ below (va_Qv (fun u' => u' = u) (goPost (Rw ad ca) D vwCl (Rtys ca) A) A) ([.ref (ad 0)] : List Value).toArray s 0 0 A) 123 [(0, .ref (ad 0)), (1, .int v1), (2, .int v2), (3, .int v3)] [] st := by
    intro K115 hK115 n
    induction n with
    | zero => intro v1 v2 v3 st h; cases h
    | succ n ih =>
      intro v1 v2 v3 st h
      unfold fR_ValueMachineModel_sweeps_L123 at h
      refine Go.iload_n hx hb 3 rfl d_Ref_sweeps_123 ?_
      refine Go.aload_n hx hb 0 rfl d_Ref_sweeps_124 ?_
      refine Go.get (v := .ref (ad 10)) hx hb hts in_Ref hown hK 0 (Rw_0 ad ca _) rfl 15 (by decide) (hts _ k_630) (fun _ h9 => h9) rfl d_Ref_sweeps_125 ?_
      refine Go.iload_n hx hb 2 rfl d_Ref_sweeps_128 ?_
      obtain ⟨c129, h⟩ := gg_some h
      refine Go.iald (v := gA st 9 v2.toNatClampNeg) hx hb hK 10 9 (Rw_10 ad ca _) rfl c129 rfl d_Ref_sweeps_129 ?_
      refine Go.icmp_ge (tgt := 174) hx hb d_Ref_sweeps_130 rfl (fun c130 => ?_) (fun c130 => ?_)
      · replace h := (if_pos c130).symm.trans h
        refine Go.iinc (v := v2 + 1) (lv' := [(2, .int (v2 + 1)), (0, .ref (ad 0)), (1, .int v1), (3, .int v3)]) hx hb 2 rfl rfl (Nat.le_of_ble_eq_true rfl) rfl d_Ref_sweeps_174 ?_
        refine Go.goto (tgt := 115) hx hb d_Ref_sweeps_177 rfl ?_
        refine Go.sub [1, 2, 0] rfl ?_
        exact hK115 _ _ _ h
      · replace h := (if_neg c130).symm.trans h
        refine Go.aload_n hx hb 0 rfl d_Ref_sweeps_133 ?_
        refine Go.get (v := .ref (ad 13)) hx hb hts in_Ref hown hK 0 (Rw_0 ad ca _) rfl 18 (by decide) (hts _ k_633) (fun _ h9 => h9) rfl d_Ref_sweeps_134 ?_
        refine Go.iload_n hx hb 2 rfl d_Ref_sweeps_137 ?_
        obtain ⟨c138, h⟩ := gg_some h
        refine Go.zald (v := gA st 12 v2.toNatClampNeg) hx hb hK 13 12 (Rw_13 ad ca _) rfl c138 rfl d_Ref_sweeps_138 ?_
        refine Go.if_eq (tgt := 174) hx hb d_Ref_sweeps_139 rfl (fun c139 => ?_) (fun c139 => ?_)
        · replace h := (if_pos c139).symm.trans h
          refine Go.iinc (v := v2 + 1) (lv' := [(2, .int (v2 + 1)), (0, .ref (ad 0)), (1, .int v1), (3, .int v3)]) hx hb 2 rfl rfl (Nat.le_of_ble_eq_true rfl) rfl d_Ref_sweeps_174 ?_
          refine Go.goto (tgt := 115) hx hb d_Ref_sweeps_177 rfl ?_
          refine Go.sub [1, 2, 0] rfl ?_
          exact hK115 _ _ _ h
        · replace h := (if_neg c139).symm.trans h
          refine Go.aload_n hx hb 0 rfl d_Ref_sweeps_142 ?_
          refine Go.aload_n hx hb 0 rfl d_Ref_sweeps_143 ?_
          refine Go.get (v := .ref (ad 11)) hx hb hts in_Ref hown hK 0 (Rw_0 ad ca _) rfl 16 (by decide) (hts _ k_631) (fun _ h9 => h9) rfl d_Ref_sweeps_144 ?_
          refine Go.bipush (v := 20) hx hb (by decide) d_Ref_sweeps_147 ?_
          refine Go.iload_n hx hb 2 rfl d_Ref_sweeps_149 ?_
          refine Go.imul hx hb d_Ref_sweeps_150 ?_
          refine Go.iload_n hx hb 3 rfl d_Ref_sweeps_151 ?_
          refine Go.iadd hx hb d_Ref_sweeps_152 ?_
          obtain ⟨c153, h⟩ := gg_some h
          refine Go.iald (v := gA st 10 ((20 * v2) + v3).toNatClampNeg) hx hb hK 11 10 (Rw_11 ad ca _) rfl c153 rfl d_Ref_sweeps_153 ?_
          refine Go.aload_n hx hb 0 rfl d_Ref_sweeps_154 ?_
          refine Go.get (v := .ref (ad 12)) hx hb hts in_Ref hown hK 0 (Rw_0 ad ca _) rfl 17 (by decide) (hts _ k_632) (fun _ h9 => h9) rfl d_Ref_sweeps_155 ?_
          refine Go.bipush (v := 20) hx hb (by decide) d_Ref_sweeps_158 ?_
          refine Go.iload_n hx hb 2 rfl d_Ref_sweeps_160 ?_
          refine Go.imul hx hb d_Ref_sweeps_161 ?_
          refine Go.iload_n hx hb 3 rfl d_Ref_sweeps_162 ?_
          refine Go.iadd hx hb d_Ref_sweeps_163 ?_
          obtain ⟨c164, h⟩ := gg_some h
          refine Go.iald (v := gA st 11 ((20 * v2) + v3).toNatClampNeg) hx hb hK 12 11 (Rw_12 ad ca _) rfl c164 rfl d_Ref_sweeps_164 ?_
          obtain ⟨_, s2, q2, h⟩ := gb_some h
          refine Go.callVv S hK hA 0 (Rw_0 ad ca _) rfl (fun sz9 => m_Ref_meets l D ad ca N _ sz9 _ _ _ s2 q2) (cwV 2 hts (gwV k_806 k_808 k_54 k_67 k_809) rfl rfl rfl (by decide +kernel) ⟨Nat.le_of_ble_eq_true rfl, Nat.le_of_ble_eq_true rfl⟩) rfl rfl (Nat.le_of_ble_eq_true rfl) ⟨Nat.zero_le _, Nat.zero_le _⟩ d_Ref_sweeps_165 ?_
          refine Go.iinc (v := v3 + 1) (lv' := [(3, .int (v3 + 1)), (0, .ref (ad 0)), (1, .int v1), (2, .int v2)]) hx hb 3 rfl rfl (Nat.le_of_ble_eq_true rfl) rfl d_Ref_sweeps_168 ?_
          refine Go.goto (tgt := 123) hx hb d_Ref_sweeps_171 rfl ?_
          refine Go.sub [1, 2, 3, 0] rfl ?_
          exact ih _ _ _ _ h
  have L115 : ∀ (K107 : Int32 → SG → Option (Unit × SG)) (hK107 : ∀ (v1 : Int32) (st : SG), K107 v1 st = some (r, u) → Go (Rw ad ca) D vwCl A s.heap 4 p l e ({ frames := 1, cells := 0, slots := 0, locals := 22 } : Room) s m ([.ref (ad 0)] : List Value).toArray below meth c 0 0 (MQ below (va_Qv (fun u' => u' = u) (goPost (Rw ad ca) D vwCl (Rtys ca) A) A) ([.ref (ad 0)] : List Value).toArray s 0 0 A) 107 [(0, .ref (ad 0)), (1, .int v1)] [] st) (n : Nat) (v1 : Int32) (v2 : Int32) (st : SG), fR_ValueMachineModel_sweeps_L115 N K107 n v1 v2 st = some (r, u) → Go (Rw ad ca) D vwCl A s.heap 4 p l e ({ frames := 1, cells := 0, slots := 0, locals := 22 } : Room) s m ([.ref (ad 0)] : List Value).toArray below meth c 0 0 (MQ below (va_Qv (fun u' => u' = u) (goPost (Rw ad ca) D vwCl (Rtys ca) A) A) ([.ref (ad 0)] : List Value).toArray s 0 0 A) 115 [(0, .ref (ad 0)), (1, .int v1), (2, .int v2)] [] st := by
    intro K107 hK107 n
    induction n with
    | zero => intro v1 v2 st h; cases h
    | succ n ih =>
      intro v1 v2 st h
      unfold fR_ValueMachineModel_sweeps_L115 at h
      refine Go.iload_n hx hb 2 rfl d_Ref_sweeps_115 ?_
      refine Go.bipush (v := 30) hx hb (by decide) d_Ref_sweeps_116 ?_
      refine Go.icmp_ge (tgt := 180) hx hb d_Ref_sweeps_118 rfl (fun c118 => ?_) (fun c118 => ?_)
      · replace h := (if_pos c118).symm.trans h
        refine Go.iinc (v := v1 + 1) (lv' := [(1, .int (v1 + 1)), (0, .ref (ad 0)), (2, .int v2)]) hx hb 1 rfl rfl (Nat.le_of_ble_eq_true rfl) rfl d_Ref_sweeps_180 ?_
        refine Go.goto (tgt := 107) hx hb d_Ref_sweeps_183 rfl ?_
        refine Go.sub [1, 0] rfl ?_
        exact hK107 _ _ h
      · replace h := (if_neg c118).symm.trans h
        refine Go.iconst (v := 0) hx hb (by decide) d_Ref_sweeps_121 ?_
        refine Go.istore_n (i := 3) (lv' := [(3, .int 0), (0, .ref (ad 0)), (1, .int v1), (2, .int v2)]) hx hb rfl (Nat.le_of_ble_eq_true rfl) rfl d_Ref_sweeps_122 ?_
        refine Go.sub [1, 2, 3, 0] rfl ?_
        exact L123 (fR_ValueMachineModel_sweeps_L115 N K107 n) ih N _ _ _ _ h
  have L107 : ∀ (n : Nat) (v1 : Int32) (st : SG), fR_ValueMachineModel_sweeps_L107 N n v1 st = some (r, u) → Go (Rw ad ca) D vwCl A s.heap 4 p l e ({ frames := 1, cells := 0, slots := 0, locals := 22 } : Room) s m ([.ref (ad 0)] : List Value).toArray below meth c 0 0 (MQ below (va_Qv (fun u' => u' = u) (goPost (Rw ad ca) D vwCl (Rtys ca) A) A) ([.ref (ad 0)] : List Value).toArray s 0 0 A) 107 [(0, .ref (ad 0)), (1, .int v1)] [] st := by
    intro n
    induction n with
    | zero => intro v1 st h; cases h
    | succ n ih =>
      intro v1 st h
      unfold fR_ValueMachineModel_sweeps_L107 at h
      refine Go.iload_n hx hb 1 rfl d_Ref_sweeps_107 ?_
      refine Go.bipush (v := 30) hx hb (by decide) d_Ref_sweeps_108 ?_
      refine Go.icmp_ge (tgt := 186) hx hb d_Ref_sweeps_110 rfl (fun c110 => ?_) (fun c110 => ?_)
      · replace h := (if_pos c110).symm.trans h
        refine Go.iconst (v := 0) hx hb (by decide) d_Ref_sweeps_186 ?_
        refine Go.istore_n (i := 1) (lv' := [(1, .int 0), (0, .ref (ad 0))]) hx hb rfl (Nat.le_of_ble_eq_true rfl) rfl d_Ref_sweeps_187 ?_
        refine Go.sub [1, 0] rfl ?_
        exact L188 N _ _ h
      · replace h := (if_neg c110).symm.trans h
        refine Go.iconst (v := 0) hx hb (by decide) d_Ref_sweeps_113 ?_
        refine Go.istore_n (i := 2) (lv' := [(2, .int 0), (0, .ref (ad 0)), (1, .int v1)]) hx hb rfl (Nat.le_of_ble_eq_true rfl) rfl d_Ref_sweeps_114 ?_
        refine Go.sub [1, 2, 0] rfl ?_
        exact L115 (fR_ValueMachineModel_sweeps_L107 N n) ih N _ _ _ h
  have L77 : ∀ (n : Nat) (v1 : Int32) (st : SG), fR_ValueMachineModel_sweeps_L77 N n v1 st = some (r, u) → Go (Rw ad ca) D vwCl A s.heap 4 p l e ({ frames := 1, cells := 0, slots := 0, locals := 22 } : Room) s m ([.ref (ad 0)] : List Value).toArray below meth c 0 0 (MQ below (va_Qv (fun u' => u' = u) (goPost (Rw ad ca) D vwCl (Rtys ca) A) A) ([.ref (ad 0)] : List Value).toArray s 0 0 A) 77 [(0, .ref (ad 0)), (1, .int v1)] [] st := by
    intro n
    induction n with
    | zero => intro v1 st h; cases h
    | succ n ih =>
      intro v1 st h
      unfold fR_ValueMachineModel_sweeps_L77 at h
      refine Go.iload_n hx hb 1 rfl d_Ref_sweeps_77 ?_
      refine Go.bipush (v := 8) hx hb (by decide) d_Ref_sweeps_78 ?_
      refine Go.icmp_ge (tgt := 105) hx hb d_Ref_sweeps_80 rfl (fun c80 => ?_) (fun c80 => ?_)
      · replace h := (if_pos c80).symm.trans h
        refine Go.iconst (v := 0) hx hb (by decide) d_Ref_sweeps_105 ?_
        refine Go.istore_n (i := 1) (lv' := [(1, .int 0), (0, .ref (ad 0))]) hx hb rfl (Nat.le_of_ble_eq_true rfl) rfl d_Ref_sweeps_106 ?_
        refine Go.sub [1, 0] rfl ?_
        exact L107 N _ _ h
      · replace h := (if_neg c80).symm.trans h
        refine Go.aload_n hx hb 0 rfl d_Ref_sweeps_83 ?_
        refine Go.aload_n hx hb 0 rfl d_Ref_sweeps_84 ?_
        refine Go.get (v := .ref (ad 5)) hx hb hts in_Ref hown hK 0 (Rw_0 ad ca _) rfl 9 (by decide) (hts _ k_624) (fun _ h9 => h9) rfl d_Ref_sweeps_85 ?_
        refine Go.iload_n hx hb 1 rfl d_Ref_sweeps_88 ?_
        obtain ⟨c89, h⟩ := gg_some h
        refine Go.iald (v := gA st 4 v1.toNatClampNeg) hx hb hK 5 4 (Rw_5 ad ca _) rfl c89 rfl d_Ref_sweeps_89 ?_
        refine Go.aload_n hx hb 0 rfl d_Ref_sweeps_90 ?_
        refine Go.get (v := .ref (ad 6)) hx hb hts in_Ref hown hK 0 (Rw_0 ad ca _) rfl 10 (by decide) (hts _ k_625) (fun _ h9 => h9) rfl d_Ref_sweeps_91 ?_
        refine Go.iload_n hx hb 1 rfl d_Ref_sweeps_94 ?_
        obtain ⟨c95, h⟩ := gg_some h
        refine Go.iald (v := gA st 5 v1.toNatClampNeg) hx hb hK 6 5 (Rw_6 ad ca _) rfl c95 rfl d_Ref_sweeps_95 ?_
        obtain ⟨_, s3, q3, h⟩ := gb_some h
        refine Go.callVv S hK hA 0 (Rw_0 ad ca _) rfl (fun sz9 => m_Ref_meets l D ad ca N _ sz9 _ _ _ s3 q3) (cwV 2 hts (gwV k_806 k_808 k_54 k_67 k_809) rfl rfl rfl (by decide +kernel) ⟨Nat.le_of_ble_eq_true rfl, Nat.le_of_ble_eq_true rfl⟩) rfl rfl (Nat.le_of_ble_eq_true rfl) ⟨Nat.zero_le _, Nat.zero_le _⟩ d_Ref_sweeps_96 ?_
        refine Go.iinc (v := v1 + 1) (lv' := [(1, .int (v1 + 1)), (0, .ref (ad 0))]) hx hb 1 rfl rfl (Nat.le_of_ble_eq_true rfl) rfl d_Ref_sweeps_99 ?_
        refine Go.goto (tgt := 77) hx hb d_Ref_sweeps_102 rfl ?_
        refine Go.sub [1, 0] rfl ?_
        exact ih _ _ h
  have L45 : ∀ (n : Nat) (v1 : Int32) (st : SG), fR_ValueMachineModel_sweeps_L45 N n v1 st = some (r, u) → Go (Rw ad ca) D vwCl A s.heap 4 p l e ({ frames := 1, cells := 0, slots := 0, locals := 22 } : Room) s m ([.ref (ad 0)] : List Value).toArray below meth c 0 0 (MQ below (va_Qv (fun u' => u' = u) (goPost (Rw ad ca) D vwCl (Rtys ca) A) A) ([.ref (ad 0)] : List Value).toArray s 0 0 A) 45 [(0, .ref (ad 0)), (1, .int v1)] [] st := by
    intro n
    induction n with
    | zero => intro v1 st h; cases h
    | succ n ih =>
      intro v1 st h
      unfold fR_ValueMachineModel_sweeps_L45 at h
      refine Go.iload_n hx hb 1 rfl d_Ref_sweeps_45 ?_
      refine Go.aload_n hx hb 0 rfl d_Ref_sweeps_46 ?_
      refine Go.get (v := .int (gI st 4)) hx hb hts in_Ref hown hK 0 (Rw_0 ad ca _) rfl 8 (by decide) (hts _ k_623) (fun _ h9 => h9) rfl d_Ref_sweeps_47 ?_
      refine Go.icmp_ge (tgt := 75) hx hb d_Ref_sweeps_50 rfl (fun c50 => ?_) (fun c50 => ?_)
      · replace h := (if_pos c50).symm.trans h
        refine Go.iconst (v := 0) hx hb (by decide) d_Ref_sweeps_75 ?_
        refine Go.istore_n (i := 1) (lv' := [(1, .int 0), (0, .ref (ad 0))]) hx hb rfl (Nat.le_of_ble_eq_true rfl) rfl d_Ref_sweeps_76 ?_
        refine Go.sub [1, 0] rfl ?_
        exact L77 N _ _ h
      · replace h := (if_neg c50).symm.trans h
        refine Go.aload_n hx hb 0 rfl d_Ref_sweeps_53 ?_
        refine Go.aload_n hx hb 0 rfl d_Ref_sweeps_54 ?_
        refine Go.get (v := .ref (ad 3)) hx hb hts in_Ref hown hK 0 (Rw_0 ad ca _) rfl 6 (by decide) (hts _ k_621) (fun _ h9 => h9) rfl d_Ref_sweeps_55 ?_
        refine Go.iload_n hx hb 1 rfl d_Ref_sweeps_58 ?_
        obtain ⟨c59, h⟩ := gg_some h
        refine Go.iald (v := gA st 2 v1.toNatClampNeg) hx hb hK 3 2 (Rw_3 ad ca _) rfl c59 rfl d_Ref_sweeps_59 ?_
        refine Go.aload_n hx hb 0 rfl d_Ref_sweeps_60 ?_
        refine Go.get (v := .ref (ad 4)) hx hb hts in_Ref hown hK 0 (Rw_0 ad ca _) rfl 7 (by decide) (hts _ k_622) (fun _ h9 => h9) rfl d_Ref_sweeps_61 ?_
        refine Go.iload_n hx hb 1 rfl d_Ref_sweeps_64 ?_
        obtain ⟨c65, h⟩ := gg_some h
        refine Go.iald (v := gA st 3 v1.toNatClampNeg) hx hb hK 4 3 (Rw_4 ad ca _) rfl c65 rfl d_Ref_sweeps_65 ?_
        obtain ⟨_, s4, q4, h⟩ := gb_some h
        refine Go.callVv S hK hA 0 (Rw_0 ad ca _) rfl (fun sz9 => m_Ref_meets l D ad ca N _ sz9 _ _ _ s4 q4) (cwV 2 hts (gwV k_806 k_808 k_54 k_67 k_809) rfl rfl rfl (by decide +kernel) ⟨Nat.le_of_ble_eq_true rfl, Nat.le_of_ble_eq_true rfl⟩) rfl rfl (Nat.le_of_ble_eq_true rfl) ⟨Nat.zero_le _, Nat.zero_le _⟩ d_Ref_sweeps_66 ?_
        refine Go.iinc (v := v1 + 1) (lv' := [(1, .int (v1 + 1)), (0, .ref (ad 0))]) hx hb 1 rfl rfl (Nat.le_of_ble_eq_true rfl) rfl d_Ref_sweeps_69 ?_
        refine Go.goto (tgt := 45) hx hb d_Ref_sweeps_72 rfl ?_
        refine Go.sub [1, 0] rfl ?_
        exact ih _ _ h
  have L12 : ∀ (n : Nat) (v1 : Int32) (st : SG), fR_ValueMachineModel_sweeps_L12 N n v1 st = some (r, u) → Go (Rw ad ca) D vwCl A s.heap 4 p l e ({ frames := 1, cells := 0, slots := 0, locals := 22 } : Room) s m ([.ref (ad 0)] : List Value).toArray below meth c 0 0 (MQ below (va_Qv (fun u' => u' = u) (goPost (Rw ad ca) D vwCl (Rtys ca) A) A) ([.ref (ad 0)] : List Value).toArray s 0 0 A) 12 [(0, .ref (ad 0)), (1, .int v1)] [] st := by
    intro n
    induction n with
    | zero => intro v1 st h; cases h
    | succ n ih =>
      intro v1 st h
      unfold fR_ValueMachineModel_sweeps_L12 at h
      refine Go.iload_n hx hb 1 rfl d_Ref_sweeps_12 ?_
      refine Go.bipush (v := 30) hx hb (by decide) d_Ref_sweeps_13 ?_
      refine Go.icmp_ge (tgt := 31) hx hb d_Ref_sweeps_15 rfl (fun c15 => ?_) (fun c15 => ?_)
      · replace h := (if_pos c15).symm.trans h
        refine Go.aload_n hx hb 0 rfl d_Ref_sweeps_31 ?_
        refine Go.aload_n hx hb 0 rfl d_Ref_sweeps_32 ?_
        refine Go.get (v := .int (gI st 2)) hx hb hts in_Ref hown hK 0 (Rw_0 ad ca _) rfl 4 (by decide) (hts _ k_619) (fun _ h9 => h9) rfl d_Ref_sweeps_33 ?_
        refine Go.aload_n hx hb 0 rfl d_Ref_sweeps_36 ?_
        refine Go.get (v := .int (gI st 3)) hx hb hts in_Ref hown hK 0 (Rw_0 ad ca _) rfl 5 (by decide) (hts _ k_620) (fun _ h9 => h9) rfl d_Ref_sweeps_37 ?_
        obtain ⟨_, s1, q1, h⟩ := gb_some h
        refine Go.callVv S hK hA 0 (Rw_0 ad ca _) rfl (fun sz9 => m_Ref_meets l D ad ca N _ sz9 _ _ _ s1 q1) (cwV 2 hts (gwV k_806 k_808 k_54 k_67 k_809) rfl rfl rfl (by decide +kernel) ⟨Nat.le_of_ble_eq_true rfl, Nat.le_of_ble_eq_true rfl⟩) rfl rfl (Nat.le_of_ble_eq_true rfl) ⟨Nat.zero_le _, Nat.zero_le _⟩ d_Ref_sweeps_40 ?_
        refine Go.iconst (v := 0) hx hb (by decide) d_Ref_sweeps_43 ?_
        refine Go.istore_n (i := 1) (lv' := [(1, .int 0), (0, .ref (ad 0))]) hx hb rfl (Nat.le_of_ble_eq_true rfl) rfl d_Ref_sweeps_44 ?_
        refine Go.sub [1, 0] rfl ?_
        exact L45 N _ _ h
      · replace h := (if_neg c15).symm.trans h
        refine Go.aload_n hx hb 0 rfl d_Ref_sweeps_18 ?_
        refine Go.get (v := .ref (ad 13)) hx hb hts in_Ref hown hK 0 (Rw_0 ad ca _) rfl 18 (by decide) (hts _ k_633) (fun _ h9 => h9) rfl d_Ref_sweeps_19 ?_
        refine Go.iload_n hx hb 1 rfl d_Ref_sweeps_22 ?_
        refine Go.iconst (v := 0) hx hb (by decide) d_Ref_sweeps_23 ?_
        obtain ⟨c24, h⟩ := gg_some h
        refine Go.zast hx hb hK 13 12 (Rw_13 ad ca _) rfl c24 (uA st 12 (upd (gA st 12) v1.toNatClampNeg (vp_nar .boolean 0))) (Rs_A12 ad ca _ _) d_Ref_sweeps_24 ?_
        refine Go.iinc (v := v1 + 1) (lv' := [(1, .int (v1 + 1)), (0, .ref (ad 0))]) hx hb 1 rfl rfl (Nat.le_of_ble_eq_true rfl) rfl d_Ref_sweeps_25 ?_
        refine Go.goto (tgt := 12) hx hb d_Ref_sweeps_28 rfl ?_
        refine Go.sub [1, 0] rfl ?_
        exact ih _ _ h
  refine Go.aload_n hx hb 0 rfl d_Ref_sweeps_0 ?_
  refine Go.dup hx hb rfl d_Ref_sweeps_1 ?_
  refine Go.get (v := .int (gI st 13)) hx hb hts in_Ref hown hK 0 (Rw_0 ad ca _) rfl 26 (by decide) (hts _ k_641) (fun _ h9 => h9) rfl d_Ref_sweeps_2 ?_
  refine Go.iconst (v := 1) hx hb (by decide) d_Ref_sweeps_5 ?_
  refine Go.iadd hx hb d_Ref_sweeps_6 ?_
  refine Go.put (ty := (.int)) hx hb hts in_Ref ty_Ref tyok_Ref nm_Ref hown hK 0 (Rw_0 ad ca _) rfl 26 (by decide) (hts _ k_641) (fun _ h9 => h9) rfl (by decide +kernel) rfl rfl (Nat.le_of_ble_eq_true rfl) (uI st 13 ((gI st 13) + 1)) (Rs_I13 ad ca _ _) d_Ref_sweeps_7 ?_
  refine Go.iconst (v := 0) hx hb (by decide) d_Ref_sweeps_10 ?_
  refine Go.istore_n (i := 1) (lv' := [(1, .int 0), (0, .ref (ad 0))]) hx hb rfl (Nat.le_of_ble_eq_true rfl) rfl d_Ref_sweeps_11 ?_
  refine Go.sub [1, 0] rfl ?_
  exact L12 N _ _ h
