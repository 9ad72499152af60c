set_option maxHeartbeats 4000000 in
set_option maxRecDepth 100000 in
theorem m_Code_append (l : Launch) (D : va_G) (ad : Nat → Nat) (ca : Nat → ClassId) (N : Nat) (st : SG) (sz : Nat) (a0 : Int32) (a1 : Int32) (r : Int32) (u : SG) (h : fX_Code_append N st a0 a1 = some (r, u)) : Met l y_Code_append (Cond.code y_Code_append c_Code_append 3 (some .boolean) :: tbl) ({ frames := 0, cells := 0, slots := 0, locals := 0 } : Room) (va_Pc [.ref (ad 1), .int a0, .int a1] (goPre (Xw ad ca) D vwCl (Xtys ca) sz st)) (va_Qi (fun r' u' => r' = r ∧ u' = u) (goPost (Xw ad ca) D vwCl (Xtys ca) (va_A (Xw ad ca st) sz)) (va_A (Xw ad ca st) sz)) 0 0 (va_A (Xw ad ca st) sz) := by
  refine go_met (Qc := fun A9 => va_Qi (fun r' u' => r' = r ∧ u' = u) (goPost (Xw ad ca) D vwCl (Xtys ca) A9) A9) (cc := c_Code_append) (maxL := 3) (ret := (some .boolean)) [(0, .ref (ad 1)), (1, .int a0), (2, .int a1)] (by decide) rfl (Nat.le_of_ble_eq_true rfl) rfl ?_
  intro p e s m below meth c A S hr hlk hK hA hsz
  obtain ⟨hx, hb, hml, hown, hts⟩ := id S
  unfold fX_Code_append at h
  refine Go.aload_n hx hb 0 rfl d_Code_append_0 ?_
  refine Go.get (v := .int (gI st 0)) hx hb hts in_Code hown hK 1 (Xw_1 ad ca _) rfl 2 (by decide) (hts _ k_90) (fun _ h9 => h9) rfl d_Code_append_1 ?_
  refine Go.sipush (v := 150) hx hb (by decide) d_Code_append_4 ?_
  refine Go.icmp_lt (tgt := 12) hx hb d_Code_append_7 rfl (fun c7 => ?_) (fun c7 => ?_)
  · replace h := (if_pos c7).symm.trans h
    refine Go.aload_n hx hb 0 rfl d_Code_append_12 ?_
    refine Go.get (v := .ref (ad 2)) hx hb hts in_Code hown hK 1 (Xw_1 ad ca _) rfl 0 (by decide) (hts _ k_88) (fun _ h9 => h9) rfl d_Code_append_13 ?_
    refine Go.aload_n hx hb 0 rfl d_Code_append_16 ?_
    refine Go.get (v := .int (gI st 0)) hx hb hts in_Code hown hK 1 (Xw_1 ad ca _) rfl 2 (by decide) (hts _ k_90) (fun _ h9 => h9) rfl d_Code_append_17 ?_
    refine Go.iload_n hx hb 1 rfl d_Code_append_20 ?_
    obtain ⟨c21, h⟩ := gg_some h
    refine Go.iast hx hb hK 2 0 (Xw_2 ad ca _) rfl c21 (uA st 0 (upd (gA st 0) (gI st 0).toNatClampNeg a0)) (Xs_A0 ad ca _ _) d_Code_append_21 ?_
    refine Go.aload_n hx hb 0 rfl d_Code_append_22 ?_
    refine Go.get (v := .ref (ad 3)) hx hb hts in_Code hown hK 1 (Xw_1 ad ca _) rfl 1 (by decide) (hts _ k_89) (fun _ h9 => h9) rfl d_Code_append_23 ?_
    refine Go.aload_n hx hb 0 rfl d_Code_append_26 ?_
    refine Go.get (v := .int (gI st 0)) hx hb hts in_Code hown hK 1 (Xw_1 ad ca _) rfl 2 (by decide) (hts _ k_90) (fun _ h9 => h9) rfl d_Code_append_27 ?_
    refine Go.iload_n hx hb 2 rfl d_Code_append_30 ?_
    obtain ⟨c31, h⟩ := gg_some h
    refine Go.iast hx hb hK 3 1 (Xw_3 ad ca _) rfl c31 (uA (uA st 0 (upd (gA st 0) (gI st 0).toNatClampNeg a0)) 1 (upd (gA st 1) (gI st 0).toNatClampNeg a1)) (Xs_A1 ad ca _ _) d_Code_append_31 ?_
    refine Go.aload_n hx hb 0 rfl d_Code_append_32 ?_
    refine Go.dup hx hb rfl d_Code_append_33 ?_
    refine Go.get (v := .int (gI st 0)) hx hb hts in_Code hown hK 1 (Xw_1 ad ca _) rfl 2 (by decide) (hts _ k_90) (fun _ h9 => h9) rfl d_Code_append_34 ?_
    refine Go.iconst (v := 1) hx hb (by decide) d_Code_append_37 ?_
    refine Go.iadd hx hb d_Code_append_38 ?_
    refine Go.put (ty := (.int)) hx hb hts in_Code ty_Code tyok_Code nm_Code hown hK 1 (Xw_1 ad ca _) rfl 2 (by decide) (hts _ k_90) (fun _ h9 => h9) rfl (by decide +kernel) rfl rfl (Nat.le_of_ble_eq_true rfl) (uI (uA (uA st 0 (upd (gA st 0) (gI st 0).toNatClampNeg a0)) 1 (upd (gA st 1) (gI st 0).toNatClampNeg a1)) 0 ((gI st 0) + 1)) (Xs_I0 ad ca _ _) d_Code_append_39 ?_
    refine Go.iconst (v := 1) hx hb (by decide) d_Code_append_42 ?_
    exact Go.zret hx hb hr hK hlk rfl h d_Code_append_43
  · replace h := (if_neg c7).symm.trans h
    refine Go.iconst (v := 0) hx hb (by decide) d_Code_append_10 ?_
    exact Go.zret hx hb hr hK hlk rfl h d_Code_append_11
set_option maxHeartbeats 4000000 in
set_option maxRecDepth 100000 in
theorem m_Store_empty (l : Launch) (D : va_G) (ad : Nat → Nat) (ca : Nat → ClassId) (N : Nat) (st : SG) (sz : Nat) (r : Unit) (u : SG) (h : fX_Store_empty N st = some (r, u)) : Met l y_Store_empty (Cond.code y_Store_empty c_Store_empty 2 none :: tbl) ({ frames := 0, cells := 0, slots := 0, locals := 0 } : Room) (va_Pc [.ref (ad 9)] (goPre (Xw ad ca) D vwCl (Xtys ca) sz st)) (va_Qv (fun u' => u' = u) (goPost (Xw ad ca) D vwCl (Xtys ca) (va_A (Xw ad ca st) sz)) (va_A (Xw ad ca st) sz)) 0 0 (va_A (Xw ad ca st) sz) := by
  refine go_met (Qc := fun A9 => va_Qv (fun u' => u' = u) (goPost (Xw ad ca) D vwCl (Xtys ca) A9) A9) (cc := c_Store_empty) (maxL := 2) (ret := none) [(0, .ref (ad 9))] (by decide) rfl (Nat.le_of_ble_eq_true rfl) rfl ?_
  intro p e s m below meth c A S hr hlk hK hA hsz
  obtain ⟨hx, hb, hml, hown, hts⟩ := id S
  unfold fX_Store_empty at h
  have L2 : ∀ (n : Nat) (v1 : Int32) (st : SG), fX_Store_empty_L2 N n v1 st = some (r, u) → Go (Xw ad ca) D vwCl A s.heap 2 p l e ({ frames := 0, cells := 0, slots := 0, locals := 0 } : Room) s m ([.ref (ad 9)] : List Value).toArray below meth c 0 0 (MQ below (va_Qv (fun u' => u' = u) (goPost (Xw ad ca) D vwCl (Xtys ca) A) A) ([.ref (ad 9)] : List Value).toArray s 0 0 A) 2 [(0, .ref (ad 9)), (1, .int v1)] [] st := by
    intro n
    induction n with
    | zero => intro v1 st h; cases h
    | succ n ih =>
      intro v1 st h
      unfold fX_Store_empty_L2 at h
      refine Go.iload_n hx hb 1 rfl d_Store_empty_2 ?_
      refine Go.bipush (v := 30) hx hb (by decide) d_Store_empty_3 ?_
      refine Go.icmp_ge (tgt := 21) hx hb d_Store_empty_5 rfl (fun c5 => ?_) (fun c5 => ?_)
      · replace h := (if_pos c5).symm.trans h
        refine Go.aload_n hx hb 0 rfl d_Store_empty_21 ?_
        refine Go.iconst (v := 0) hx hb (by decide) d_Store_empty_22 ?_
        refine Go.put (ty := (.int)) hx hb hts in_Store ty_Store tyok_Store nm_Store hown hK 9 (Xw_9 ad ca _) rfl 6 (by decide) (hts _ k_144) (fun _ h9 => h9) rfl (by decide +kernel) rfl rfl (Nat.le_of_ble_eq_true rfl) (uI st 4 0) (Xs_I4 ad ca _ _) d_Store_empty_23 ?_
        refine Go.aload_n hx hb 0 rfl d_Store_empty_26 ?_
        refine Go.iconst (v := 0) hx hb (by decide) d_Store_empty_27 ?_
        refine Go.put (ty := (.int)) hx hb hts in_Store ty_Store tyok_Store nm_Store hown hK 9 (Xw_9 ad ca _) rfl 7 (by decide) (hts _ k_146) (fun _ h9 => h9) rfl (by decide +kernel) rfl rfl (Nat.le_of_ble_eq_true rfl) (uI (uI st 4 0) 5 0) (Xs_I5 ad ca _ _) d_Store_empty_28 ?_
        refine Go.aload_n hx hb 0 rfl d_Store_empty_31 ?_
        refine Go.iconst (v := 0) hx hb (by decide) d_Store_empty_32 ?_
        refine Go.put (ty := (.int)) hx hb hts in_Store ty_Store tyok_Store nm_Store hown hK 9 (Xw_9 ad ca _) rfl 8 (by decide) (hts _ k_148) (fun _ h9 => h9) rfl (by decide +kernel) rfl rfl (Nat.le_of_ble_eq_true rfl) (uI (uI (uI st 4 0) 5 0) 6 0) (Xs_I6 ad ca _ _) d_Store_empty_33 ?_
        exact Go.vret hx hb hr hK hlk h d_Store_empty_36
      · replace h := (if_neg c5).symm.trans h
        refine Go.aload_n hx hb 0 rfl d_Store_empty_8 ?_
        refine Go.get (v := .ref (ad 12)) hx hb hts in_Store hown hK 9 (Xw_9 ad ca _) rfl 2 (by decide) (hts _ k_140) (fun _ h9 => h9) rfl d_Store_empty_9 ?_
        refine Go.iload_n hx hb 1 rfl d_Store_empty_12 ?_
        refine Go.iconst (v := 0) hx hb (by decide) d_Store_empty_13 ?_
        obtain ⟨c14, h⟩ := gg_some h
        refine Go.zast hx hb hK 12 7 (Xw_12 ad ca _) rfl c14 (uA st 5 (upd (gA st 5) v1.toNatClampNeg (vp_nar .boolean 0))) (Xs_A5 ad ca _ _) d_Store_empty_14 ?_
        refine Go.iinc (v := v1 + 1) (lv' := [(1, .int (v1 + 1)), (0, .ref (ad 9))]) hx hb 1 rfl rfl (Nat.le_of_ble_eq_true rfl) rfl d_Store_empty_15 ?_
        refine Go.goto (tgt := 2) hx hb d_Store_empty_18 rfl ?_
        refine Go.sub [1, 0] rfl ?_
        exact ih _ _ h
  refine Go.iconst (v := 0) hx hb (by decide) d_Store_empty_0 ?_
  refine Go.istore_n (i := 1) (lv' := [(1, .int 0), (0, .ref (ad 9))]) hx hb rfl (Nat.le_of_ble_eq_true rfl) rfl d_Store_empty_1 ?_
  refine Go.sub [1, 0] rfl ?_
  exact L2 N _ _ h
set_option maxHeartbeats 4000000 in
set_option maxRecDepth 100000 in
theorem m_VM_begin (l : Launch) (D : va_G) (ad : Nat → Nat) (ca : Nat → ClassId) (N : Nat) (st : SG) (sz : Nat) (r : Unit) (u : SG) (h : fX_ValueMachine_begin N st = some (r, u)) : Met l y_VM_begin (Cond.code y_VM_begin c_VM_begin 2 none :: tbl) ({ frames := 1, cells := 0, slots := 0, locals := 21 } : Room) (va_Pc [.ref (ad 0)] (goPre (Xw ad ca) D vwCl (Xtys ca) sz st)) (va_Qv (fun u' => u' = u) (goPost (Xw ad ca) D vwCl (Xtys ca) (va_A (Xw ad ca st) sz)) (va_A (Xw ad ca st) sz)) 0 0 (va_A (Xw ad ca st) sz) := by
  refine go_met (Qc := fun A9 => va_Qv (fun u' => u' = u) (goPost (Xw ad ca) D vwCl (Xtys ca) A9) A9) (cc := c_VM_begin) (maxL := 2) (ret := none) [(0, .ref (ad 0))] (by decide) rfl (Nat.le_of_ble_eq_true rfl) rfl ?_
  intro p e s m below meth c A S hr hlk hK hA hsz
  obtain ⟨hx, hb, hml, hown, hts⟩ := id S
  unfold fX_ValueMachine_begin at h
  have L25 : ∀ (n : Nat) (v1 : Int32) (st : SG), fX_ValueMachine_begin_L25 N n v1 st = some (r, u) → Go (Xw ad ca) D vwCl A s.heap 2 p l e ({ frames := 1, cells := 0, slots := 0, locals := 21 } : Room) s m ([.ref (ad 0)] : List Value).toArray below meth c 0 0 (MQ below (va_Qv (fun u' => u' = u) (goPost (Xw ad ca) D vwCl (Xtys ca) A) A) ([.ref (ad 0)] : List Value).toArray s 0 0 A) 25 [(0, .ref (ad 0)), (1, .int v1)] [] st := by
    intro n
    induction n with
    | zero => intro v1 st h; cases h
    | succ n ih =>
      intro v1 st h
      unfold fX_ValueMachine_begin_L25 at h
      refine Go.iload_n hx hb 1 rfl d_VM_begin_25 ?_
      refine Go.bipush (v := 8) hx hb (by decide) d_VM_begin_26 ?_
      refine Go.icmp_ge (tgt := 44) hx hb d_VM_begin_28 rfl (fun c28 => ?_) (fun c28 => ?_)
      · replace h := (if_pos c28).symm.trans h
        refine Go.aload_n hx hb 0 rfl d_VM_begin_44 ?_
        refine Go.lconst (v := 0) hx hb (by decide) d_VM_begin_45 ?_
        refine Go.put (ty := (.long)) hx hb hts in_VM ty_VM tyok_VM nm_VM hown hK 0 (Xw_0 ad ca _) rfl 5 (by decide) (hts _ k_175) (fun _ h9 => h9) rfl (by decide +kernel) rfl rfl (Nat.le_of_ble_eq_true rfl) (uL st 0 0) (Xs_L0 ad ca _ _) d_VM_begin_46 ?_
        refine Go.aload_n hx hb 0 rfl d_VM_begin_49 ?_
        refine Go.lconst (v := 0) hx hb (by decide) d_VM_begin_50 ?_
        refine Go.put (ty := (.long)) hx hb hts in_VM ty_VM tyok_VM nm_VM hown hK 0 (Xw_0 ad ca _) rfl 6 (by decide) (hts _ k_176) (fun _ h9 => h9) rfl (by decide +kernel) rfl rfl (Nat.le_of_ble_eq_true rfl) (uL (uL st 0 0) 1 0) (Xs_L1 ad ca _ _) d_VM_begin_51 ?_
        refine Go.aload_n hx hb 0 rfl d_VM_begin_54 ?_
        refine Go.lconst (v := 0) hx hb (by decide) d_VM_begin_55 ?_
        refine Go.put (ty := (.long)) hx hb hts in_VM ty_VM tyok_VM nm_VM hown hK 0 (Xw_0 ad ca _) rfl 7 (by decide) (hts _ k_177) (fun _ h9 => h9) rfl (by decide +kernel) rfl rfl (Nat.le_of_ble_eq_true rfl) (uL (uL (uL st 0 0) 1 0) 2 0) (Xs_L2 ad ca _ _) d_VM_begin_56 ?_
        refine Go.aload_n hx hb 0 rfl d_VM_begin_59 ?_
        refine Go.iconst (v := 0) hx hb (by decide) d_VM_begin_60 ?_
        refine Go.put (ty := (.boolean)) hx hb hts in_VM ty_VM tyok_VM nm_VM hown hK 0 (Xw_0 ad ca _) rfl 8 (by decide) (hts _ k_178) (fun _ h9 => h9) rfl (by decide +kernel) rfl rfl (Nat.le_of_ble_eq_true rfl) (uI (uL (uL (uL st 0 0) 1 0) 2 0) 7 0) (Xs_I7 ad ca _ _) d_VM_begin_61 ?_
        refine Go.aload_n hx hb 0 rfl d_VM_begin_64 ?_
        refine Go.iconst (v := 0) hx hb (by decide) d_VM_begin_65 ?_
        refine Go.put (ty := (.int)) hx hb hts in_VM ty_VM tyok_VM nm_VM hown hK 0 (Xw_0 ad ca _) rfl 9 (by decide) (hts _ k_179) (fun _ h9 => h9) rfl (by decide +kernel) rfl rfl (Nat.le_of_ble_eq_true rfl) (uI (uI (uL (uL (uL st 0 0) 1 0) 2 0) 7 0) 8 0) (Xs_I8 ad ca _ _) d_VM_begin_66 ?_
        refine Go.aload_n hx hb 0 rfl d_VM_begin_69 ?_
        refine Go.iconst (v := 0) hx hb (by decide) d_VM_begin_70 ?_
        refine Go.put (ty := (.int)) hx hb hts in_VM ty_VM tyok_VM nm_VM hown hK 0 (Xw_0 ad ca _) rfl 10 (by decide) (hts _ k_180) (fun _ h9 => h9) rfl (by decide +kernel) rfl rfl (Nat.le_of_ble_eq_true rfl) (uI (uI (uI (uL (uL (uL st 0 0) 1 0) 2 0) 7 0) 8 0) 9 0) (Xs_I9 ad ca _ _) d_VM_begin_71 ?_
        refine Go.aload_n hx hb 0 rfl d_VM_begin_74 ?_
        refine Go.iconst (v := 0) hx hb (by decide) d_VM_begin_75 ?_
        refine Go.put (ty := (.int)) hx hb hts in_VM ty_VM tyok_VM nm_VM hown hK 0 (Xw_0 ad ca _) rfl 11 (by decide) (hts _ k_181) (fun _ h9 => h9) rfl (by decide +kernel) rfl rfl (Nat.le_of_ble_eq_true rfl) (uI (uI (uI (uI (uL (uL (uL st 0 0) 1 0) 2 0) 7 0) 8 0) 9 0) 10 0) (Xs_I10 ad ca _ _) d_VM_begin_76 ?_
        exact Go.vret hx hb hr hK hlk h d_VM_begin_79
      · replace h := (if_neg c28).symm.trans h
        refine Go.aload_n hx hb 0 rfl d_VM_begin_31 ?_
        refine Go.get (v := .ref (ad 15)) hx hb hts in_VM hown hK 0 (Xw_0 ad ca _) rfl 4 (by decide) (hts _ k_174) (fun _ h9 => h9) rfl d_VM_begin_32 ?_
        refine Go.iload_n hx hb 1 rfl d_VM_begin_35 ?_
        refine Go.lconst (v := 0) hx hb (by decide) d_VM_begin_36 ?_
        obtain ⟨c37, h⟩ := gg_some h
        refine Go.last hx hb hK 15 10 (Xw_15 ad ca _) rfl c37 (uB st 2 (vp_updL (gB st 2) v1.toNatClampNeg 0)) (Xs_B2 ad ca _ _) d_VM_begin_37 ?_
        refine Go.iinc (v := v1 + 1) (lv' := [(1, .int (v1 + 1)), (0, .ref (ad 0))]) hx hb 1 rfl rfl (Nat.le_of_ble_eq_true rfl) rfl d_VM_begin_38 ?_
        refine Go.goto (tgt := 25) hx hb d_VM_begin_41 rfl ?_
        refine Go.sub [1, 0] rfl ?_
        exact ih _ _ h
  refine Go.aload_n hx hb 0 rfl d_VM_begin_0 ?_
  refine Go.get (v := .ref (ad 4)) hx hb hts in_VM hown hK 0 (Xw_0 ad ca _) rfl 1 (by decide) (hts _ k_171) (fun _ h9 => h9) rfl d_VM_begin_1 ?_
  refine Go.iconst (v := 0) hx hb (by decide) d_VM_begin_4 ?_
  refine Go.put (ty := (.int)) hx hb hts in_ValueStack ty_ValueStack tyok_ValueStack nm_ValueStack hown hK 4 (Xw_4 ad ca _) rfl 1 (by decide) (hts _ k_108) (fun _ h9 => h9) rfl (by decide +kernel) rfl rfl (Nat.le_of_ble_eq_true rfl) (uI st 1 0) (Xs_I1 ad ca _ _) d_VM_begin_5 ?_
  refine Go.aload_n hx hb 0 rfl d_VM_begin_8 ?_
  refine Go.get (v := .ref (ad 6)) hx hb hts in_VM hown hK 0 (Xw_0 ad ca _) rfl 2 (by decide) (hts _ k_172) (fun _ h9 => h9) rfl d_VM_begin_9 ?_
  refine Go.iconst (v := 0) hx hb (by decide) d_VM_begin_12 ?_
  refine Go.put (ty := (.int)) hx hb hts in_Notes ty_Notes tyok_Notes nm_Notes hown hK 6 (Xw_6 ad ca _) rfl 2 (by decide) (hts _ k_124) (fun _ h9 => h9) rfl (by decide +kernel) rfl rfl (Nat.le_of_ble_eq_true rfl) (uI (uI st 1 0) 2 0) (Xs_I2 ad ca _ _) d_VM_begin_13 ?_
  refine Go.aload_n hx hb 0 rfl d_VM_begin_16 ?_
  refine Go.get (v := .ref (ad 9)) hx hb hts in_VM hown hK 0 (Xw_0 ad ca _) rfl 3 (by decide) (hts _ k_173) (fun _ h9 => h9) rfl d_VM_begin_17 ?_
  obtain ⟨_, s1, q1, h⟩ := gb_some h
  refine Go.callVv S hK hA 9 (Xw_9 ad ca _) rfl (fun sz9 => m_Store_empty l D ad ca N _ sz9 _ s1 q1) (cwV 0 hts (gwV k_215 k_216 k_217 k_66 k_218) rfl rfl rfl (by decide +kernel) ⟨Nat.le_of_ble_eq_true rfl, Nat.le_of_ble_eq_true rfl⟩) rfl rfl (Nat.le_of_ble_eq_true rfl) ⟨Nat.zero_le _, Nat.zero_le _⟩ d_VM_begin_20 ?_
  refine Go.iconst (v := 0) hx hb (by decide) d_VM_begin_23 ?_
  refine Go.istore_n (i := 1) (lv' := [(1, .int 0), (0, .ref (ad 0))]) hx hb rfl (Nat.le_of_ble_eq_true rfl) rfl d_VM_begin_24 ?_
  refine Go.sub [1, 0] rfl ?_
  exact L25 N _ _ h
set_option maxHeartbeats 4000000 in
set_option maxRecDepth 100000 in
theorem m_VM_clear (l : Launch) (D : va_G) (ad : Nat → Nat) (ca : Nat → ClassId) (N : Nat) (st : SG) (sz : Nat) (r : Unit) (u : SG) (h : fX_ValueMachine_clear N st = some (r, u)) : Met l y_VM_clear (Cond.code y_VM_clear c_VM_clear 1 none :: tbl) ({ frames := 2, cells := 0, slots := 0, locals := 42 } : Room) (va_Pc [.ref (ad 0)] (goPre (Xw ad ca) D vwCl (Xtys ca) sz st)) (va_Qv (fun u' => u' = u) (goPost (Xw ad ca) D vwCl (Xtys ca) (va_A (Xw ad ca st) sz)) (va_A (Xw ad ca st) sz)) 0 0 (va_A (Xw ad ca st) sz) := by
  refine go_met (Qc := fun A9 => va_Qv (fun u' => u' = u) (goPost (Xw ad ca) D vwCl (Xtys ca) A9) A9) (cc := c_VM_clear) (maxL := 1) (ret := none) [(0, .ref (ad 0))] (by decide) rfl (Nat.le_of_ble_eq_true rfl) rfl ?_
  intro p e s m below meth c A S hr hlk hK hA hsz
  obtain ⟨hx, hb, hml, hown, hts⟩ := id S
  unfold fX_ValueMachine_clear at h
  refine Go.aload_n hx hb 0 rfl d_VM_clear_0 ?_
  refine Go.get (v := .ref (ad 1)) hx hb hts in_VM hown hK 0 (Xw_0 ad ca _) rfl 0 (by decide) (hts _ k_170) (fun _ h9 => h9) rfl d_VM_clear_1 ?_
  refine Go.iconst (v := 0) hx hb (by decide) d_VM_clear_4 ?_
  refine Go.put (ty := (.int)) hx hb hts in_Code ty_Code tyok_Code nm_Code hown hK 1 (Xw_1 ad ca _) rfl 2 (by decide) (hts _ k_91) (fun _ h9 => h9) rfl (by decide +kernel) rfl rfl (Nat.le_of_ble_eq_true rfl) (uI st 0 0) (Xs_I0 ad ca _ _) d_VM_clear_5 ?_
  refine Go.aload_n hx hb 0 rfl d_VM_clear_8 ?_
  obtain ⟨_, s1, q1, h⟩ := gb_some h
  refine Go.callVv S hK hA 0 (Xw_0 ad ca _) rfl (fun sz9 => m_VM_begin l D ad ca N _ sz9 _ s1 q1) (cwV 0 hts (gwV k_211 k_213 k_0 k_62 k_214) rfl rfl rfl (by decide +kernel) ⟨Nat.le_of_ble_eq_true rfl, Nat.le_of_ble_eq_true rfl⟩) rfl rfl (Nat.le_of_ble_eq_true rfl) ⟨Nat.zero_le _, Nat.zero_le _⟩ d_VM_clear_9 ?_
  exact Go.vret hx hb hr hK hlk h d_VM_clear_12
set_option maxHeartbeats 4000000 in
set_option maxRecDepth 100000 in
theorem m_VM_reset (l : Launch) (D : va_G) (ad : Nat → Nat) (ca : Nat → ClassId) (N : Nat) (st : SG) (sz : Nat) (r : Unit) (u : SG) (h : fX_ValueMachine_reset N st = some (r, u)) : Met l y_VM_reset (Cond.code y_VM_reset c_VM_reset 1 none :: tbl) ({ frames := 2, cells := 0, slots := 0, locals := 42 } : Room) (va_Pc [.ref (ad 0)] (goPre (Xw ad ca) D vwCl (Xtys ca) sz st)) (va_Qv (fun u' => u' = u) (goPost (Xw ad ca) D vwCl (Xtys ca) (va_A (Xw ad ca st) sz)) (va_A (Xw ad ca st) sz)) 0 0 (va_A (Xw ad ca st) sz) := by
  refine go_met (Qc := fun A9 => va_Qv (fun u' => u' = u) (goPost (Xw ad ca) D vwCl (Xtys ca) A9) A9) (cc := c_VM_reset) (maxL := 1) (ret := none) [(0, .ref (ad 0))] (by decide) rfl (Nat.le_of_ble_eq_true rfl) rfl ?_
  intro p e s m below meth c A S hr hlk hK hA hsz
  obtain ⟨hx, hb, hml, hown, hts⟩ := id S
  unfold fX_ValueMachine_reset at h
  refine Go.aload_n hx hb 0 rfl d_VM_reset_0 ?_
  obtain ⟨_, s1, q1, h⟩ := gb_some h
  refine Go.callVv S hK hA 0 (Xw_0 ad ca _) rfl (fun sz9 => m_VM_begin l D ad ca N _ sz9 _ s1 q1) (cwV 0 hts (gwV k_211 k_213 k_0 k_62 k_214) rfl rfl rfl (by decide +kernel) ⟨Nat.le_of_ble_eq_true rfl, Nat.le_of_ble_eq_true rfl⟩) rfl rfl (Nat.le_of_ble_eq_true rfl) ⟨Nat.zero_le _, Nat.zero_le _⟩ d_VM_reset_1 ?_
  exact Go.vret hx hb hr hK hlk h d_VM_reset_4
set_option maxHeartbeats 4000000 in
set_option maxRecDepth 100000 in
theorem m_VM_state (l : Launch) (D : va_G) (ad : Nat → Nat) (ca : Nat → ClassId) (N : Nat) (st : SG) (sz : Nat) (r : Int32) (u : SG) (h : fX_ValueMachine_state N st = some (r, u)) : Met l y_VM_state (Cond.code y_VM_state c_VM_state 1 (some .int) :: tbl) ({ frames := 0, cells := 0, slots := 0, locals := 0 } : Room) (va_Pc [.ref (ad 0)] (goPre (Xw ad ca) D vwCl (Xtys ca) sz st)) (va_Qi (fun r' u' => r' = r ∧ u' = u) (goPost (Xw ad ca) D vwCl (Xtys ca) (va_A (Xw ad ca st) sz)) (va_A (Xw ad ca st) sz)) 0 0 (va_A (Xw ad ca st) sz) := by
  refine go_met (Qc := fun A9 => va_Qi (fun r' u' => r' = r ∧ u' = u) (goPost (Xw ad ca) D vwCl (Xtys ca) A9) A9) (cc := c_VM_state) (maxL := 1) (ret := (some .int)) [(0, .ref (ad 0))] (by decide) rfl (Nat.le_of_ble_eq_true rfl) rfl ?_
  intro p e s m below meth c A S hr hlk hK hA hsz
  obtain ⟨hx, hb, hml, hown, hts⟩ := id S
  unfold fX_ValueMachine_state at h
  refine Go.aload_n hx hb 0 rfl d_VM_state_0 ?_
  refine Go.get (v := .int (gI st 7)) hx hb hts in_VM hown hK 0 (Xw_0 ad ca _) rfl 8 (by decide) (hts _ k_178) (fun _ h9 => h9) rfl d_VM_state_1 ?_
  refine Go.if_eq (tgt := 9) hx hb d_VM_state_4 rfl (fun c4 => ?_) (fun c4 => ?_)
  · replace h := (if_pos c4).symm.trans h
    refine Go.aload_n hx hb 0 rfl d_VM_state_9 ?_
    refine Go.get (v := .int (gI st 8)) hx hb hts in_VM hown hK 0 (Xw_0 ad ca _) rfl 9 (by decide) (hts _ k_179) (fun _ h9 => h9) rfl d_VM_state_10 ?_
    refine Go.aload_n hx hb 0 rfl d_VM_state_13 ?_
    refine Go.get (v := .ref (ad 1)) hx hb hts in_VM hown hK 0 (Xw_0 ad ca _) rfl 0 (by decide) (hts _ k_170) (fun _ h9 => h9) rfl d_VM_state_14 ?_
    refine Go.get (v := .int (gI st 0)) hx hb hts in_Code hown hK 1 (Xw_1 ad ca _) rfl 2 (by decide) (hts _ k_91) (fun _ h9 => h9) rfl d_VM_state_17 ?_
    refine Go.icmp_ge (tgt := 27) hx hb d_VM_state_20 rfl (fun c20 => ?_) (fun c20 => ?_)
    · replace h := (if_pos c20).symm.trans h
      refine Go.iconst (v := 1) hx hb (by decide) d_VM_state_27 ?_
      exact Go.iret hx hb hr hK hlk h d_VM_state_28
    · replace h := (if_neg c20).symm.trans h
      refine Go.iconst (v := 0) hx hb (by decide) d_VM_state_23 ?_
      refine Go.goto (tgt := 28) hx hb d_VM_state_24 rfl ?_
      exact Go.iret hx hb hr hK hlk h d_VM_state_28
  · replace h := (if_neg c4).symm.trans h
    refine Go.iconst (v := 2) hx hb (by decide) d_VM_state_7 ?_
    exact Go.iret hx hb hr hK hlk h d_VM_state_8
set_option maxHeartbeats 4000000 in
set_option maxRecDepth 100000 in
theorem m_Code_instructionAt (l : Launch) (D : va_G) (ad : Nat → Nat) (ca : Nat → ClassId) (N : Nat) (st : SG) (sz : Nat) (a0 : Int32) (r : Int32) (u : SG) (h : fX_Code_instructionAt N st a0 = some (r, u)) : Met l y_Code_instructionAt (Cond.code y_Code_instructionAt c_Code_instructionAt 2 (some .int) :: tbl) ({ frames := 0, cells := 0, slots := 0, locals := 0 } : Room) (va_Pc [.ref (ad 1), .int a0] (goPre (Xw ad ca) D vwCl (Xtys ca) sz st)) (va_Qi (fun r' u' => r' = r ∧ u' = u) (goPost (Xw ad ca) D vwCl (Xtys ca) (va_A (Xw ad ca st) sz)) (va_A (Xw ad ca st) sz)) 0 0 (va_A (Xw ad ca st) sz) := by
  refine go_met (Qc := fun A9 => va_Qi (fun r' u' => r' = r ∧ u' = u) (goPost (Xw ad ca) D vwCl (Xtys ca) A9) A9) (cc := c_Code_instructionAt) (maxL := 2) (ret := (some .int)) [(0, .ref (ad 1)), (1, .int a0)] (by decide) rfl (Nat.le_of_ble_eq_true rfl) rfl ?_
  intro p e s m below meth c A S hr hlk hK hA hsz
  obtain ⟨hx, hb, hml, hown, hts⟩ := id S
  unfold fX_Code_instructionAt at h
  refine Go.aload_n hx hb 0 rfl d_Code_instructionAt_0 ?_
  refine Go.get (v := .ref (ad 2)) hx hb hts in_Code hown hK 1 (Xw_1 ad ca _) rfl 0 (by decide) (hts _ k_88) (fun _ h9 => h9) rfl d_Code_instructionAt_1 ?_
  refine Go.iload_n hx hb 1 rfl d_Code_instructionAt_4 ?_
  obtain ⟨c5, h⟩ := gg_some h
  refine Go.iald (v := gA st 0 a0.toNatClampNeg) hx hb hK 2 0 (Xw_2 ad ca _) rfl c5 rfl d_Code_instructionAt_5 ?_
  exact Go.iret hx hb hr hK hlk h d_Code_instructionAt_6
set_option maxHeartbeats 4000000 in
set_option maxRecDepth 100000 in
theorem m_Code_numberAt (l : Launch) (D : va_G) (ad : Nat → Nat) (ca : Nat → ClassId) (N : Nat) (st : SG) (sz : Nat) (a0 : Int32) (r : Int32) (u : SG) (h : fX_Code_numberAt N st a0 = some (r, u)) : Met l y_Code_numberAt (Cond.code y_Code_numberAt c_Code_numberAt 2 (some .int) :: tbl) ({ frames := 0, cells := 0, slots := 0, locals := 0 } : Room) (va_Pc [.ref (ad 1), .int a0] (goPre (Xw ad ca) D vwCl (Xtys ca) sz st)) (va_Qi (fun r' u' => r' = r ∧ u' = u) (goPost (Xw ad ca) D vwCl (Xtys ca) (va_A (Xw ad ca st) sz)) (va_A (Xw ad ca st) sz)) 0 0 (va_A (Xw ad ca st) sz) := by
  refine go_met (Qc := fun A9 => va_Qi (fun r' u' => r' = r ∧ u' = u) (goPost (Xw ad ca) D vwCl (Xtys ca) A9) A9) (cc := c_Code_numberAt) (maxL := 2) (ret := (some .int)) [(0, .ref (ad 1)), (1, .int a0)] (by decide) rfl (Nat.le_of_ble_eq_true rfl) rfl ?_
  intro p e s m below meth c A S hr hlk hK hA hsz
  obtain ⟨hx, hb, hml, hown, hts⟩ := id S
  unfold fX_Code_numberAt at h
  refine Go.aload_n hx hb 0 rfl d_Code_numberAt_0 ?_
  refine Go.get (v := .ref (ad 3)) hx hb hts in_Code hown hK 1 (Xw_1 ad ca _) rfl 1 (by decide) (hts _ k_89) (fun _ h9 => h9) rfl d_Code_numberAt_1 ?_
  refine Go.iload_n hx hb 1 rfl d_Code_numberAt_4 ?_
  obtain ⟨c5, h⟩ := gg_some h
  refine Go.iald (v := gA st 1 a0.toNatClampNeg) hx hb hK 3 1 (Xw_3 ad ca _) rfl c5 rfl d_Code_numberAt_5 ?_
  exact Go.iret hx hb hr hK hlk h d_Code_numberAt_6
set_option maxHeartbeats 4000000 in
set_option maxRecDepth 100000 in
theorem m_VM_accept (l : Launch) (D : va_G) (ad : Nat → Nat) (ca : Nat → ClassId) (N : Nat) (st : SG) (sz : Nat) (a0 : Int64) (r : Int32) (u : SG) (h : fX_ValueMachine_accept N st a0 = some (r, u)) : Met l y_VM_accept (Cond.code y_VM_accept c_VM_accept 3 (some .int) :: tbl) ({ frames := 0, cells := 0, slots := 0, locals := 0 } : Room) (va_Pc [.ref (ad 0), .long a0] (goPre (Xw ad ca) D vwCl (Xtys ca) sz st)) (va_Qi (fun r' u' => r' = r ∧ u' = u) (goPost (Xw ad ca) D vwCl (Xtys ca) (va_A (Xw ad ca st) sz)) (va_A (Xw ad ca st) sz)) 0 0 (va_A (Xw ad ca st) sz) := by
  refine go_met (Qc := fun A9 => va_Qi (fun r' u' => r' = r ∧ u' = u) (goPost (Xw ad ca) D vwCl (Xtys ca) A9) A9) (cc := c_VM_accept) (maxL := 3) (ret := (some .int)) [(0, .ref (ad 0)), (1, .long a0)] (by decide) rfl (Nat.le_of_ble_eq_true rfl) rfl ?_
  intro p e s m below meth c A S hr hlk hK hA hsz
  obtain ⟨hx, hb, hml, hown, hts⟩ := id S
  unfold fX_ValueMachine_accept at h
  refine Go.aload_n hx hb 0 rfl d_VM_accept_0 ?_
  refine Go.lload_n hx hb 1 rfl d_VM_accept_1 ?_
  refine Go.put (ty := (.long)) hx hb hts in_VM ty_VM tyok_VM nm_VM hown hK 0 (Xw_0 ad ca _) rfl 5 (by decide) (hts _ k_175) (fun _ h9 => h9) rfl (by decide +kernel) rfl rfl (Nat.le_of_ble_eq_true rfl) (uL st 0 a0) (Xs_L0 ad ca _ _) d_VM_accept_2 ?_
  refine Go.iconst (v := 0) hx hb (by decide) d_VM_accept_5 ?_
  exact Go.iret hx hb hr hK hlk h d_VM_accept_6
set_option maxHeartbeats 4000000 in
set_option maxRecDepth 100000 in
theorem m_Value_of (l : Launch) (D : va_G) (ad : Nat → Nat) (ca : Nat → ClassId) (N : Nat) (st : SG) (sz : Nat) (a0 : Int32) (a1 : Int32) (r : Int64) (u : SG) (h : fX_Value_of N st a0 a1 = some (r, u)) : Met l y_Value_of (Cond.code y_Value_of c_Value_of 2 (some .long) :: tbl) ({ frames := 0, cells := 0, slots := 0, locals := 0 } : Room) (va_Pc [.int a0, .int a1] (goPre (Xw ad ca) D vwCl (Xtys ca) sz st)) (va_Ql (fun r' u' => r' = r ∧ u' = u) (goPost (Xw ad ca) D vwCl (Xtys ca) (va_A (Xw ad ca st) sz)) (va_A (Xw ad ca st) sz)) 0 0 (va_A (Xw ad ca st) sz) := by
  refine go_met (Qc := fun A9 => va_Ql (fun r' u' => r' = r ∧ u' = u) (goPost (Xw ad ca) D vwCl (Xtys ca) A9) A9) (cc := c_Value_of) (maxL := 2) (ret := (some .long)) [(0, .int a0), (1, .int a1)] (by decide) rfl (Nat.le_of_ble_eq_true rfl) rfl ?_
  intro p e s m below meth c A S hr hlk hK hA hsz
  obtain ⟨hx, hb, hml, hown, hts⟩ := id S
  unfold fX_Value_of at h
  refine Go.iload_n hx hb 0 rfl d_Value_of_0 ?_
  refine Go.i2l hx hb d_Value_of_1 ?_
  refine Go.bipush (v := 32) hx hb (by decide) d_Value_of_2 ?_
  refine Go.lshl hx hb d_Value_of_4 ?_
  refine Go.iload_n hx hb 1 rfl d_Value_of_5 ?_
  refine Go.i2l hx hb d_Value_of_6 ?_
  refine Go.ldc2 (v := 4294967295) hx hb hown (hts _ k_396) d_Value_of_7 ?_
  refine Go.land hx hb d_Value_of_10 ?_
  refine Go.lor hx hb d_Value_of_11 ?_
  exact Go.lret hx hb hr hK hlk h d_Value_of_12
set_option maxHeartbeats 4000000 in
set_option maxRecDepth 100000 in
theorem m_Value_integer (l : Launch) (D : va_G) (ad : Nat → Nat) (ca : Nat → ClassId) (N : Nat) (st : SG) (sz : Nat) (a0 : Int32) (r : Int64) (u : SG) (h : fX_Value_integer N st a0 = some (r, u)) : Met l y_Value_integer (Cond.code y_Value_integer c_Value_integer 1 (some .long) :: tbl) ({ frames := 1, cells := 0, slots := 0, locals := 21 } : Room) (va_Pc [.int a0] (goPre (Xw ad ca) D vwCl (Xtys ca) sz st)) (va_Ql (fun r' u' => r' = r ∧ u' = u) (goPost (Xw ad ca) D vwCl (Xtys ca) (va_A (Xw ad ca st) sz)) (va_A (Xw ad ca st) sz)) 0 0 (va_A (Xw ad ca st) sz) := by
  refine go_met (Qc := fun A9 => va_Ql (fun r' u' => r' = r ∧ u' = u) (goPost (Xw ad ca) D vwCl (Xtys ca) A9) A9) (cc := c_Value_integer) (maxL := 1) (ret := (some .long)) [(0, .int a0)] (by decide) rfl (Nat.le_of_ble_eq_true rfl) rfl ?_
  intro p e s m below meth c A S hr hlk hK hA hsz
  obtain ⟨hx, hb, hml, hown, hts⟩ := id S
  unfold fX_Value_integer at h
  refine Go.iconst (v := 3) hx hb (by decide) d_Value_integer_0 ?_
  refine Go.iload_n hx hb 0 rfl d_Value_integer_1 ?_
  obtain ⟨r1, s1, q1, h⟩ := gb_some h
  refine Go.callSl S hK hA (fun sz9 => m_Value_of l D ad ca N _ sz9 _ _ r1 s1 q1) (va_cwS 2 hts (gwS k_393 k_394 k_72 k_395) rfl rfl rfl (by decide +kernel) ⟨Nat.le_of_ble_eq_true rfl, Nat.le_of_ble_eq_true rfl⟩) rfl rfl (Nat.le_of_ble_eq_true rfl) ⟨Nat.zero_le _, Nat.zero_le _⟩ d_Value_integer_2 ?_
  exact Go.lret hx hb hr hK hlk h d_Value_integer_5
set_option maxHeartbeats 4000000 in
set_option maxRecDepth 100000 in
theorem m_ValueStack_reaches (l : Launch) (D : va_G) (ad : Nat → Nat) (ca : Nat → ClassId) (N : Nat) (st : SG) (sz : Nat) (a0 : Int32) (r : Int32) (u : SG) (h : fX_ValueStack_reaches N st a0 = some (r, u)) : Met l y_ValueStack_reaches (Cond.code y_ValueStack_reaches c_ValueStack_reaches 2 (some .boolean) :: tbl) ({ frames := 0, cells := 0, slots := 0, locals := 0 } : Room) (va_Pc [.ref (ad 4), .int a0] (goPre (Xw ad ca) D vwCl (Xtys ca) sz st)) (va_Qi (fun r' u' => r' = r ∧ u' = u) (goPost (Xw ad ca) D vwCl (Xtys ca) (va_A (Xw ad ca st) sz)) (va_A (Xw ad ca st) sz)) 0 0 (va_A (Xw ad ca st) sz) := by
  refine go_met (Qc := fun A9 => va_Qi (fun r' u' => r' = r ∧ u' = u) (goPost (Xw ad ca) D vwCl (Xtys ca) A9) A9) (cc := c_ValueStack_reaches) (maxL := 2) (ret := (some .boolean)) [(0, .ref (ad 4)), (1, .int a0)] (by decide) rfl (Nat.le_of_ble_eq_true rfl) rfl ?_
  intro p e s m below meth c A S hr hlk hK hA hsz
  obtain ⟨hx, hb, hml, hown, hts⟩ := id S
  unfold fX_ValueStack_reaches at h
  refine Go.iload_n hx hb 1 rfl d_ValueStack_reaches_0 ?_
  refine Go.if_lt (tgt := 16) hx hb d_ValueStack_reaches_1 rfl (fun c1 => ?_) (fun c1 => ?_)
  · replace h := (if_pos c1).symm.trans h
    refine Go.iconst (v := 0) hx hb (by decide) d_ValueStack_reaches_16 ?_
    exact Go.zret hx hb hr hK hlk rfl h d_ValueStack_reaches_17
  · replace h := (if_neg c1).symm.trans h
    refine Go.iload_n hx hb 1 rfl d_ValueStack_reaches_4 ?_
    refine Go.aload_n hx hb 0 rfl d_ValueStack_reaches_5 ?_
    refine Go.get (v := .int (gI st 1)) hx hb hts in_ValueStack hown hK 4 (Xw_4 ad ca _) rfl 1 (by decide) (hts _ k_107) (fun _ h9 => h9) rfl d_ValueStack_reaches_6 ?_
    refine Go.icmp_ge (tgt := 16) hx hb d_ValueStack_reaches_9 rfl (fun c9 => ?_) (fun c9 => ?_)
    · replace h := (if_pos c9).symm.trans h
      refine Go.iconst (v := 0) hx hb (by decide) d_ValueStack_reaches_16 ?_
      exact Go.zret hx hb hr hK hlk rfl h d_ValueStack_reaches_17
    · replace h := (if_neg c9).symm.trans h
      refine Go.iconst (v := 1) hx hb (by decide) d_ValueStack_reaches_12 ?_
      refine Go.goto (tgt := 17) hx hb d_ValueStack_reaches_13 rfl ?_
      exact Go.zret hx hb hr hK hlk rfl h d_ValueStack_reaches_17
set_option maxHeartbeats 4000000 in
set_option maxRecDepth 100000 in
theorem m_ValueStack_at (l : Launch) (D : va_G) (ad : Nat → Nat) (ca : Nat → ClassId) (N : Nat) (st : SG) (sz : Nat) (a0 : Int32) (r : Int64) (u : SG) (h : fX_ValueStack_at N st a0 = some (r, u)) : Met l y_ValueStack_at (Cond.code y_ValueStack_at c_ValueStack_at 2 (some .long) :: tbl) ({ frames := 0, cells := 0, slots := 0, locals := 0 } : Room) (va_Pc [.ref (ad 4), .int a0] (goPre (Xw ad ca) D vwCl (Xtys ca) sz st)) (va_Ql (fun r' u' => r' = r ∧ u' = u) (goPost (Xw ad ca) D vwCl (Xtys ca) (va_A (Xw ad ca st) sz)) (va_A (Xw ad ca st) sz)) 0 0 (va_A (Xw ad ca st) sz) := by
  refine go_met (Qc := fun A9 => va_Ql (fun r' u' => r' = r ∧ u' = u) (goPost (Xw ad ca) D vwCl (Xtys ca) A9) A9) (cc := c_ValueStack_at) (maxL := 2) (ret := (some .long)) [(0, .ref (ad 4)), (1, .int a0)] (by decide) rfl (Nat.le_of_ble_eq_true rfl) rfl ?_
  intro p e s m below meth c A S hr hlk hK hA hsz
  obtain ⟨hx, hb, hml, hown, hts⟩ := id S
  unfold fX_ValueStack_at at h
  refine Go.aload_n hx hb 0 rfl d_ValueStack_at_0 ?_
  refine Go.get (v := .ref (ad 5)) hx hb hts in_ValueStack hown hK 4 (Xw_4 ad ca _) rfl 0 (by decide) (hts _ k_106) (fun _ h9 => h9) rfl d_ValueStack_at_1 ?_
  refine Go.aload_n hx hb 0 rfl d_ValueStack_at_4 ?_
  refine Go.get (v := .int (gI st 1)) hx hb hts in_ValueStack hown hK 4 (Xw_4 ad ca _) rfl 1 (by decide) (hts _ k_107) (fun _ h9 => h9) rfl d_ValueStack_at_5 ?_
  refine Go.iconst (v := 1) hx hb (by decide) d_ValueStack_at_8 ?_
  refine Go.isub hx hb d_ValueStack_at_9 ?_
  refine Go.iload_n hx hb 1 rfl d_ValueStack_at_10 ?_
  refine Go.isub hx hb d_ValueStack_at_11 ?_
  obtain ⟨c12, h⟩ := gg_some h
  refine Go.lald (v := gB st 0 (((gI st 1) - 1) - a0).toNatClampNeg) hx hb hK 5 2 (Xw_5 ad ca _) rfl c12 rfl d_ValueStack_at_12 ?_
  exact Go.lret hx hb hr hK hlk h d_ValueStack_at_13
set_option maxHeartbeats 4000000 in
set_option maxRecDepth 100000 in
theorem m_VM_takeStack (l : Launch) (D : va_G) (ad : Nat → Nat) (ca : Nat → ClassId) (N : Nat) (st : SG) (sz : Nat) (a0 : Int32) (r : Int32) (u : SG) (h : fX_ValueMachine_takeStack N st a0 = some (r, u)) : Met l y_VM_takeStack (Cond.code y_VM_takeStack c_VM_takeStack 2 (some .int) :: tbl) ({ frames := 1, cells := 0, slots := 0, locals := 22 } : Room) (va_Pc [.ref (ad 0), .int a0] (goPre (Xw ad ca) D vwCl (Xtys ca) sz st)) (va_Qi (fun r' u' => r' = r ∧ u' = u) (goPost (Xw ad ca) D vwCl (Xtys ca) (va_A (Xw ad ca st) sz)) (va_A (Xw ad ca st) sz)) 0 0 (va_A (Xw ad ca st) sz) := by
  refine go_met (Qc := fun A9 => va_Qi (fun r' u' => r' = r ∧ u' = u) (goPost (Xw ad ca) D vwCl (Xtys ca) A9) A9) (cc := c_VM_takeStack) (maxL := 2) (ret := (some .int)) [(0, .ref (ad 0)), (1, .int a0)] (by decide) rfl (Nat.le_of_ble_eq_true rfl) rfl ?_
  intro p e s m below meth c A S hr hlk hK hA hsz
  obtain ⟨hx, hb, hml, hown, hts⟩ := id S
  unfold fX_ValueMachine_takeStack at h
  refine Go.aload_n hx hb 0 rfl d_VM_takeStack_0 ?_
  refine Go.get (v := .ref (ad 4)) hx hb hts in_VM hown hK 0 (Xw_0 ad ca _) rfl 1 (by decide) (hts _ k_171) (fun _ h9 => h9) rfl d_VM_takeStack_1 ?_
  refine Go.iload_n hx hb 1 rfl d_VM_takeStack_4 ?_
  obtain ⟨r1, s1, q1, h⟩ := gb_some h
  refine Go.callVi S hK hA 4 (Xw_4 ad ca _) rfl (fun sz9 => m_ValueStack_reaches l D ad ca N _ sz9 _ r1 s1 q1) (cwV 1 hts (gwV k_238 k_239 k_240 k_64 k_241) rfl rfl rfl (by decide +kernel) ⟨Nat.le_of_ble_eq_true rfl, Nat.le_of_ble_eq_true rfl⟩) rfl rfl (Nat.le_of_ble_eq_true rfl) ⟨Nat.zero_le _, Nat.zero_le _⟩ d_VM_takeStack_5 ?_
  refine Go.if_eq (tgt := 26) hx hb d_VM_takeStack_8 rfl (fun c8 => ?_) (fun c8 => ?_)
  · replace h := (if_pos c8).symm.trans h
    refine Go.iconst (v := 3) hx hb (by decide) d_VM_takeStack_26 ?_
    exact Go.iret hx hb hr hK hlk h d_VM_takeStack_27
  · replace h := (if_neg c8).symm.trans h
    refine Go.aload_n hx hb 0 rfl d_VM_takeStack_11 ?_
    refine Go.aload_n hx hb 0 rfl d_VM_takeStack_12 ?_
    refine Go.get (v := .ref (ad 4)) hx hb hts in_VM hown hK 0 (Xw_0 ad ca _) rfl 1 (by decide) (hts _ k_171) (fun _ h9 => h9) rfl d_VM_takeStack_13 ?_
    refine Go.iload_n hx hb 1 rfl d_VM_takeStack_16 ?_
    obtain ⟨r2, s2, q2, h⟩ := gb_some h
    refine Go.callVl S hK hA 4 (Xw_4 ad ca _) rfl (fun sz9 => m_ValueStack_at l D ad ca N _ sz9 _ r2 s2 q2) (cwV 1 hts (gwV k_242 k_243 k_244 k_64 k_245) rfl rfl rfl (by decide +kernel) ⟨Nat.le_of_ble_eq_true rfl, Nat.le_of_ble_eq_true rfl⟩) rfl rfl (Nat.le_of_ble_eq_true rfl) ⟨Nat.zero_le _, Nat.zero_le _⟩ d_VM_takeStack_17 ?_
    obtain ⟨r3, s3, q3, h⟩ := gb_some h
    refine Go.callVi S hK hA 0 (Xw_0 ad ca _) rfl (fun sz9 => m_VM_accept l D ad ca N _ sz9 _ r3 s3 q3) (cwV 1 hts (gwV k_384 k_386 k_4 k_62 k_387) rfl rfl rfl (by decide +kernel) ⟨Nat.le_of_ble_eq_true rfl, Nat.le_of_ble_eq_true rfl⟩) rfl rfl (Nat.le_of_ble_eq_true rfl) ⟨Nat.zero_le _, Nat.zero_le _⟩ d_VM_takeStack_20 ?_
    refine Go.goto (tgt := 27) hx hb d_VM_takeStack_23 rfl ?_
    exact Go.iret hx hb hr hK hlk h d_VM_takeStack_27
set_option maxHeartbeats 4000000 in
set_option maxRecDepth 100000 in
theorem m_VM_isGlobal (l : Launch) (D : va_G) (ad : Nat → Nat) (ca : Nat → ClassId) (N : Nat) (st : SG) (sz : Nat) (a0 : Int32) (r : Int32) (u : SG) (h : fX_ValueMachine_isGlobal N st a0 = some (r, u)) : Met l y_VM_isGlobal (Cond.code y_VM_isGlobal c_VM_isGlobal 1 (some .boolean) :: tbl) ({ frames := 0, cells := 0, slots := 0, locals := 0 } : Room) (va_Pc [.int a0] (goPre (Xw ad ca) D vwCl (Xtys ca) sz st)) (va_Qi (fun r' u' => r' = r ∧ u' = u) (goPost (Xw ad ca) D vwCl (Xtys ca) (va_A (Xw ad ca st) sz)) (va_A (Xw ad ca st) sz)) 0 0 (va_A (Xw ad ca st) sz) := by
  refine go_met (Qc := fun A9 => va_Qi (fun r' u' => r' = r ∧ u' = u) (goPost (Xw ad ca) D vwCl (Xtys ca) A9) A9) (cc := c_VM_isGlobal) (maxL := 1) (ret := (some .boolean)) [(0, .int a0)] (by decide) rfl (Nat.le_of_ble_eq_true rfl) rfl ?_
  intro p e s m below meth c A S hr hlk hK hA hsz
  obtain ⟨hx, hb, hml, hown, hts⟩ := id S
  unfold fX_ValueMachine_isGlobal at h
  refine Go.iload_n hx hb 0 rfl d_VM_isGlobal_0 ?_
  refine Go.if_lt (tgt := 14) hx hb d_VM_isGlobal_1 rfl (fun c1 => ?_) (fun c1 => ?_)
  · replace h := (if_pos c1).symm.trans h
    refine Go.iconst (v := 0) hx hb (by decide) d_VM_isGlobal_14 ?_
    exact Go.zret hx hb hr hK hlk rfl h d_VM_isGlobal_15
  · replace h := (if_neg c1).symm.trans h
    refine Go.iload_n hx hb 0 rfl d_VM_isGlobal_4 ?_
    refine Go.bipush (v := 8) hx hb (by decide) d_VM_isGlobal_5 ?_
    refine Go.icmp_ge (tgt := 14) hx hb d_VM_isGlobal_7 rfl (fun c7 => ?_) (fun c7 => ?_)
    · replace h := (if_pos c7).symm.trans h
      refine Go.iconst (v := 0) hx hb (by decide) d_VM_isGlobal_14 ?_
      exact Go.zret hx hb hr hK hlk rfl h d_VM_isGlobal_15
    · replace h := (if_neg c7).symm.trans h
      refine Go.iconst (v := 1) hx hb (by decide) d_VM_isGlobal_10 ?_
      refine Go.goto (tgt := 15) hx hb d_VM_isGlobal_11 rfl ?_
      exact Go.zret hx hb hr hK hlk rfl h d_VM_isGlobal_15
set_option maxHeartbeats 4000000 in
set_option maxRecDepth 100000 in
theorem m_VM_takeGlobal (l : Launch) (D : va_G) (ad : Nat → Nat) (ca : Nat → ClassId) (N : Nat) (st : SG) (sz : Nat) (a0 : Int32) (r : Int32) (u : SG) (h : fX_ValueMachine_takeGlobal N st a0 = some (r, u)) : Met l y_VM_takeGlobal (Cond.code y_VM_takeGlobal c_VM_takeGlobal 2 (some .int) :: tbl) ({ frames := 1, cells := 0, slots := 0, locals := 22 } : Room) (va_Pc [.ref (ad 0), .int a0] (goPre (Xw ad ca) D vwCl (Xtys ca) sz st)) (va_Qi (fun r' u' => r' = r ∧ u' = u) (goPost (Xw ad ca) D vwCl (Xtys ca) (va_A (Xw ad ca st) sz)) (va_A (Xw ad ca st) sz)) 0 0 (va_A (Xw ad ca st) sz) := by
  refine go_met (Qc := fun A9 => va_Qi (fun r' u' => r' = r ∧ u' = u) (goPost (Xw ad ca) D vwCl (Xtys ca) A9) A9) (cc := c_VM_takeGlobal) (maxL := 2) (ret := (some .int)) [(0, .ref (ad 0)), (1, .int a0)] (by decide) rfl (Nat.le_of_ble_eq_true rfl) rfl ?_
  intro p e s m below meth c A S hr hlk hK hA hsz
  obtain ⟨hx, hb, hml, hown, hts⟩ := id S
  unfold fX_ValueMachine_takeGlobal at h
  refine Go.iload_n hx hb 1 rfl d_VM_takeGlobal_0 ?_
  obtain ⟨r1, s1, q1, h⟩ := gb_some h
  refine Go.callSi S hK hA (fun sz9 => m_VM_isGlobal l D ad ca N _ sz9 _ r1 s1 q1) (va_cwS 1 hts (gwS k_246 k_247 k_62 k_248) rfl rfl rfl (by decide +kernel) ⟨Nat.le_of_ble_eq_true rfl, Nat.le_of_ble_eq_true rfl⟩) rfl rfl (Nat.le_of_ble_eq_true rfl) ⟨Nat.zero_le _, Nat.zero_le _⟩ d_VM_takeGlobal_1 ?_
  refine Go.if_eq (tgt := 20) hx hb d_VM_takeGlobal_4 rfl (fun c4 => ?_) (fun c4 => ?_)
  · replace h := (if_pos c4).symm.trans h
    refine Go.bipush (v := 8) hx hb (by decide) d_VM_takeGlobal_20 ?_
    exact Go.iret hx hb hr hK hlk h d_VM_takeGlobal_22
  · replace h := (if_neg c4).symm.trans h
    refine Go.aload_n hx hb 0 rfl d_VM_takeGlobal_7 ?_
    refine Go.aload_n hx hb 0 rfl d_VM_takeGlobal_8 ?_
    refine Go.get (v := .ref (ad 15)) hx hb hts in_VM hown hK 0 (Xw_0 ad ca _) rfl 4 (by decide) (hts _ k_174) (fun _ h9 => h9) rfl d_VM_takeGlobal_9 ?_
    refine Go.iload_n hx hb 1 rfl d_VM_takeGlobal_12 ?_
    obtain ⟨c13, h⟩ := gg_some h
    refine Go.lald (v := gB s1 2 a0.toNatClampNeg) hx hb hK 15 10 (Xw_15 ad ca _) rfl c13 rfl d_VM_takeGlobal_13 ?_
    obtain ⟨r2, s2, q2, h⟩ := gb_some h
    refine Go.callVi S hK hA 0 (Xw_0 ad ca _) rfl (fun sz9 => m_VM_accept l D ad ca N _ sz9 _ r2 s2 q2) (cwV 1 hts (gwV k_384 k_386 k_4 k_62 k_387) rfl rfl rfl (by decide +kernel) ⟨Nat.le_of_ble_eq_true rfl, Nat.le_of_ble_eq_true rfl⟩) rfl rfl (Nat.le_of_ble_eq_true rfl) ⟨Nat.zero_le _, Nat.zero_le _⟩ d_VM_takeGlobal_14 ?_
    refine Go.goto (tgt := 22) hx hb d_VM_takeGlobal_17 rfl ?_
    exact Go.iret hx hb hr hK hlk h d_VM_takeGlobal_22
set_option maxHeartbeats 4000000 in
set_option maxRecDepth 100000 in
theorem m_Value_sortOf (l : Launch) (D : va_G) (ad : Nat → Nat) (ca : Nat → ClassId) (N : Nat) (st : SG) (sz : Nat) (a0 : Int64) (r : Int32) (u : SG) (h : fX_Value_sortOf N st a0 = some (r, u)) : Met l y_Value_sortOf (Cond.code y_Value_sortOf c_Value_sortOf 2 (some .int) :: tbl) ({ frames := 0, cells := 0, slots := 0, locals := 0 } : Room) (va_Pc [.long a0] (goPre (Xw ad ca) D vwCl (Xtys ca) sz st)) (va_Qi (fun r' u' => r' = r ∧ u' = u) (goPost (Xw ad ca) D vwCl (Xtys ca) (va_A (Xw ad ca st) sz)) (va_A (Xw ad ca st) sz)) 0 0 (va_A (Xw ad ca st) sz) := by
  refine go_met (Qc := fun A9 => va_Qi (fun r' u' => r' = r ∧ u' = u) (goPost (Xw ad ca) D vwCl (Xtys ca) A9) A9) (cc := c_Value_sortOf) (maxL := 2) (ret := (some .int)) [(0, .long a0)] (by decide) rfl (Nat.le_of_ble_eq_true rfl) rfl ?_
  intro p e s m below meth c A S hr hlk hK hA hsz
  obtain ⟨hx, hb, hml, hown, hts⟩ := id S
  unfold fX_Value_sortOf at h
  refine Go.lload_n hx hb 0 rfl d_Value_sortOf_0 ?_
  refine Go.bipush (v := 32) hx hb (by decide) d_Value_sortOf_1 ?_
  refine Go.lshr hx hb d_Value_sortOf_3 ?_
  refine Go.l2i hx hb d_Value_sortOf_4 ?_
  exact Go.iret hx hb hr hK hlk h d_Value_sortOf_5
set_option maxHeartbeats 4000000 in
set_option maxRecDepth 100000 in
theorem m_Value_numberOf (l : Launch) (D : va_G) (ad : Nat → Nat) (ca : Nat → ClassId) (N : Nat) (st : SG) (sz : Nat) (a0 : Int64) (r : Int32) (u : SG) (h : fX_Value_numberOf N st a0 = some (r, u)) : Met l y_Value_numberOf (Cond.code y_Value_numberOf c_Value_numberOf 2 (some .int) :: tbl) ({ frames := 0, cells := 0, slots := 0, locals := 0 } : Room) (va_Pc [.long a0] (goPre (Xw ad ca) D vwCl (Xtys ca) sz st)) (va_Qi (fun r' u' => r' = r ∧ u' = u) (goPost (Xw ad ca) D vwCl (Xtys ca) (va_A (Xw ad ca st) sz)) (va_A (Xw ad ca st) sz)) 0 0 (va_A (Xw ad ca st) sz) := by
  refine go_met (Qc := fun A9 => va_Qi (fun r' u' => r' = r ∧ u' = u) (goPost (Xw ad ca) D vwCl (Xtys ca) A9) A9) (cc := c_Value_numberOf) (maxL := 2) (ret := (some .int)) [(0, .long a0)] (by decide) rfl (Nat.le_of_ble_eq_true rfl) rfl ?_
  intro p e s m below meth c A S hr hlk hK hA hsz
  obtain ⟨hx, hb, hml, hown, hts⟩ := id S
  unfold fX_Value_numberOf at h
  refine Go.lload_n hx hb 0 rfl d_Value_numberOf_0 ?_
  refine Go.l2i hx hb d_Value_numberOf_1 ?_
  exact Go.iret hx hb hr hK hlk h d_Value_numberOf_2
set_option maxHeartbeats 4000000 in
set_option maxRecDepth 100000 in
theorem m_Store_sizeOf (l : Launch) (D : va_G) (ad : Nat → Nat) (ca : Nat → ClassId) (N : Nat) (st : SG) (sz : Nat) (a0 : Int64) (r : Int32) (u : SG) (h : fX_Store_sizeOf N st a0 = some (r, u)) : Met l y_Store_sizeOf (Cond.code y_Store_sizeOf c_Store_sizeOf 3 (some .int) :: tbl) ({ frames := 1, cells := 0, slots := 0, locals := 21 } : Room) (va_Pc [.ref (ad 9), .long a0] (goPre (Xw ad ca) D vwCl (Xtys ca) sz st)) (va_Qi (fun r' u' => r' = r ∧ u' = u) (goPost (Xw ad ca) D vwCl (Xtys ca) (va_A (Xw ad ca st) sz)) (va_A (Xw ad ca st) sz)) 0 0 (va_A (Xw ad ca st) sz) := by
  refine go_met (Qc := fun A9 => va_Qi (fun r' u' => r' = r ∧ u' = u) (goPost (Xw ad ca) D vwCl (Xtys ca) A9) A9) (cc := c_Store_sizeOf) (maxL := 3) (ret := (some .int)) [(0, .ref (ad 9)), (1, .long a0)] (by decide) rfl (Nat.le_of_ble_eq_true rfl) rfl ?_
  intro p e s m below meth c A S hr hlk hK hA hsz
  obtain ⟨hx, hb, hml, hown, hts⟩ := id S
  unfold fX_Store_sizeOf at h
  refine Go.aload_n hx hb 0 rfl d_Store_sizeOf_0 ?_
  refine Go.get (v := .ref (ad 11)) hx hb hts in_Store hown hK 9 (Xw_9 ad ca _) rfl 1 (by decide) (hts _ k_139) (fun _ h9 => h9) rfl d_Store_sizeOf_1 ?_
  refine Go.lload_n hx hb 1 rfl d_Store_sizeOf_4 ?_
  obtain ⟨r1, s1, q1, h⟩ := gb_some h
  refine Go.callSi S hK hA (fun sz9 => m_Value_numberOf l D ad ca N _ sz9 _ r1 s1 q1) (va_cwS 1 hts (gwS k_264 k_265 k_72 k_266) rfl rfl rfl (by decide +kernel) ⟨Nat.le_of_ble_eq_true rfl, Nat.le_of_ble_eq_true rfl⟩) rfl rfl (Nat.le_of_ble_eq_true rfl) ⟨Nat.zero_le _, Nat.zero_le _⟩ d_Store_sizeOf_5 ?_
  obtain ⟨c8, h⟩ := gg_some h
  refine Go.iald (v := gA s1 4 r1.toNatClampNeg) hx hb hK 11 6 (Xw_11 ad ca _) rfl c8 rfl d_Store_sizeOf_8 ?_
  exact Go.iret hx hb hr hK hlk h d_Store_sizeOf_9
set_option maxHeartbeats 4000000 in
set_option maxRecDepth 100000 in
theorem m_Store_hasPart (l : Launch) (D : va_G) (ad : Nat → Nat) (ca : Nat → ClassId) (N : Nat) (st : SG) (sz : Nat) (a0 : Int64) (a1 : Int32) (r : Int32) (u : SG) (h : fX_Store_hasPart N st a0 a1 = some (r, u)) : Met l y_Store_hasPart (Cond.code y_Store_hasPart c_Store_hasPart 4 (some .boolean) :: tbl) ({ frames := 2, cells := 0, slots := 0, locals := 43 } : Room) (va_Pc [.ref (ad 9), .long a0, .int a1] (goPre (Xw ad ca) D vwCl (Xtys ca) sz st)) (va_Qi (fun r' u' => r' = r ∧ u' = u) (goPost (Xw ad ca) D vwCl (Xtys ca) (va_A (Xw ad ca st) sz)) (va_A (Xw ad ca st) sz)) 0 0 (va_A (Xw ad ca st) sz) := by
  refine go_met (Qc := fun A9 => va_Qi (fun r' u' => r' = r ∧ u' = u) (goPost (Xw ad ca) D vwCl (Xtys ca) A9) A9) (cc := c_Store_hasPart) (maxL := 4) (ret := (some .boolean)) [(0, .ref (ad 9)), (1, .long a0), (3, .int a1)] (by decide) rfl (Nat.le_of_ble_eq_true rfl) rfl ?_
  intro p e s m below meth c A S hr hlk hK hA hsz
  obtain ⟨hx, hb, hml, hown, hts⟩ := id S
  unfold fX_Store_hasPart at h
  refine Go.iload_n hx hb 2 rfl d_Store_hasPart_0 ?_
  refine Go.if_lt (tgt := 17) hx hb d_Store_hasPart_1 rfl (fun c1 => ?_) (fun c1 => ?_)
  · replace h := (if_pos c1).symm.trans h
    refine Go.iconst (v := 0) hx hb (by decide) d_Store_hasPart_17 ?_
    exact Go.zret hx hb hr hK hlk rfl h d_Store_hasPart_18
  · replace h := (if_neg c1).symm.trans h
    refine Go.iload_n hx hb 2 rfl d_Store_hasPart_4 ?_
    refine Go.aload_n hx hb 0 rfl d_Store_hasPart_5 ?_
    refine Go.lload_n hx hb 1 rfl d_Store_hasPart_6 ?_
    obtain ⟨r1, s1, q1, h⟩ := gb_some h
    refine Go.callVi S hK hA 9 (Xw_9 ad ca _) rfl (fun sz9 => m_Store_sizeOf l D ad ca N _ sz9 _ r1 s1 q1) (cwV 1 hts (gwV k_260 k_261 k_262 k_66 k_263) rfl rfl rfl (by decide +kernel) ⟨Nat.le_of_ble_eq_true rfl, Nat.le_of_ble_eq_true rfl⟩) rfl rfl (Nat.le_of_ble_eq_true rfl) ⟨Nat.zero_le _, Nat.zero_le _⟩ d_Store_hasPart_7 ?_
    refine Go.icmp_ge (tgt := 17) hx hb d_Store_hasPart_10 rfl (fun c10 => ?_) (fun c10 => ?_)
    · replace h := (if_pos c10).symm.trans h
      refine Go.iconst (v := 0) hx hb (by decide) d_Store_hasPart_17 ?_
      exact Go.zret hx hb hr hK hlk rfl h d_Store_hasPart_18
    · replace h := (if_neg c10).symm.trans h
      refine Go.iconst (v := 1) hx hb (by decide) d_Store_hasPart_13 ?_
      refine Go.goto (tgt := 18) hx hb d_Store_hasPart_14 rfl ?_
      exact Go.zret hx hb hr hK hlk rfl h d_Store_hasPart_18
set_option maxHeartbeats 4000000 in
set_option maxRecDepth 100000 in
theorem m_Store_part (l : Launch) (D : va_G) (ad : Nat → Nat) (ca : Nat → ClassId) (N : Nat) (st : SG) (sz : Nat) (a0 : Int64) (a1 : Int32) (r : Int64) (u : SG) (h : fX_Store_part N st a0 a1 = some (r, u)) : Met l y_Store_part (Cond.code y_Store_part c_Store_part 4 (some .long) :: tbl) ({ frames := 1, cells := 0, slots := 0, locals := 21 } : Room) (va_Pc [.ref (ad 9), .long a0, .int a1] (goPre (Xw ad ca) D vwCl (Xtys ca) sz st)) (va_Ql (fun r' u' => r' = r ∧ u' = u) (goPost (Xw ad ca) D vwCl (Xtys ca) (va_A (Xw ad ca st) sz)) (va_A (Xw ad ca st) sz)) 0 0 (va_A (Xw ad ca st) sz) := by
  refine go_met (Qc := fun A9 => va_Ql (fun r' u' => r' = r ∧ u' = u) (goPost (Xw ad ca) D vwCl (Xtys ca) A9) A9) (cc := c_Store_part) (maxL := 4) (ret := (some .long)) [(0, .ref (ad 9)), (1, .long a0), (3, .int a1)] (by decide) rfl (Nat.le_of_ble_eq_true rfl) rfl ?_
  intro p e s m below meth c A S hr hlk hK hA hsz
  obtain ⟨hx, hb, hml, hown, hts⟩ := id S
  unfold fX_Store_part at h
  refine Go.aload_n hx hb 0 rfl d_Store_part_0 ?_
  refine Go.get (v := .ref (ad 10)) hx hb hts in_Store hown hK 9 (Xw_9 ad ca _) rfl 0 (by decide) (hts _ k_138) (fun _ h9 => h9) rfl d_Store_part_1 ?_
  refine Go.lload_n hx hb 1 rfl d_Store_part_4 ?_
  obtain ⟨r1, s1, q1, h⟩ := gb_some h
  refine Go.callSi S hK hA (fun sz9 => m_Value_numberOf l D ad ca N _ sz9 _ r1 s1 q1) (va_cwS 1 hts (gwS k_264 k_265 k_72 k_266) rfl rfl rfl (by decide +kernel) ⟨Nat.le_of_ble_eq_true rfl, Nat.le_of_ble_eq_true rfl⟩) rfl rfl (Nat.le_of_ble_eq_true rfl) ⟨Nat.zero_le _, Nat.zero_le _⟩ d_Store_part_5 ?_
  refine Go.bipush (v := 20) hx hb (by decide) d_Store_part_8 ?_
  refine Go.imul hx hb d_Store_part_10 ?_
  refine Go.iload_n hx hb 2 rfl d_Store_part_11 ?_
  refine Go.iadd hx hb d_Store_part_12 ?_
  obtain ⟨c13, h⟩ := gg_some h
  refine Go.lald (v := gB s1 1 ((r1 * 20) + a1).toNatClampNeg) hx hb hK 10 5 (Xw_10 ad ca _) rfl c13 rfl d_Store_part_13 ?_
  exact Go.lret hx hb hr hK hlk h d_Store_part_14
set_option maxHeartbeats 4000000 in
set_option maxRecDepth 100000 in
theorem m_VM_takeField (l : Launch) (D : va_G) (ad : Nat → Nat) (ca : Nat → ClassId) (N : Nat) (st : SG) (sz : Nat) (a0 : Int32) (r : Int32) (u : SG) (h : fX_ValueMachine_takeField N st a0 = some (r, u)) : Met l y_VM_takeField (Cond.code y_VM_takeField c_VM_takeField 2 (some .int) :: tbl) ({ frames := 3, cells := 0, slots := 0, locals := 66 } : Room) (va_Pc [.ref (ad 0), .int a0] (goPre (Xw ad ca) D vwCl (Xtys ca) sz st)) (va_Qi (fun r' u' => r' = r ∧ u' = u) (goPost (Xw ad ca) D vwCl (Xtys ca) (va_A (Xw ad ca st) sz)) (va_A (Xw ad ca st) sz)) 0 0 (va_A (Xw ad ca st) sz) := by
  refine go_met (Qc := fun A9 => va_Qi (fun r' u' => r' = r ∧ u' = u) (goPost (Xw ad ca) D vwCl (Xtys ca) A9) A9) (cc := c_VM_takeField) (maxL := 2) (ret := (some .int)) [(0, .ref (ad 0)), (1, .int a0)] (by decide) rfl (Nat.le_of_ble_eq_true rfl) rfl ?_
  intro p e s m below meth c A S hr hlk hK hA hsz
  obtain ⟨hx, hb, hml, hown, hts⟩ := id S
  unfold fX_ValueMachine_takeField at h
  refine Go.aload_n hx hb 0 rfl d_VM_takeField_0 ?_
  refine Go.get (v := .long (gL st 0)) hx hb hts in_VM hown hK 0 (Xw_0 ad ca _) rfl 5 (by decide) (hts _ k_175) (fun _ h9 => h9) rfl d_VM_takeField_1 ?_
  obtain ⟨r1, s1, q1, h⟩ := gb_some h
  refine Go.callSi S hK hA (fun sz9 => m_Value_sortOf l D ad ca N _ sz9 _ r1 s1 q1) (va_cwS 1 hts (gwS k_235 k_236 k_72 k_237) rfl rfl rfl (by decide +kernel) ⟨Nat.le_of_ble_eq_true rfl, Nat.le_of_ble_eq_true rfl⟩) rfl rfl (Nat.le_of_ble_eq_true rfl) ⟨Nat.zero_le _, Nat.zero_le _⟩ d_VM_takeField_4 ?_
  refine Go.iconst (v := 4) hx hb (by decide) d_VM_takeField_7 ?_
  refine Go.icmp_eq (tgt := 13) hx hb d_VM_takeField_8 rfl (fun c8 => ?_) (fun c8 => ?_)
  · replace h := (if_pos c8).symm.trans h
    refine Go.aload_n hx hb 0 rfl d_VM_takeField_13 ?_
    refine Go.get (v := .ref (ad 9)) hx hb hts in_VM hown hK 0 (Xw_0 ad ca _) rfl 3 (by decide) (hts _ k_173) (fun _ h9 => h9) rfl d_VM_takeField_14 ?_
    refine Go.aload_n hx hb 0 rfl d_VM_takeField_17 ?_
    refine Go.get (v := .long (gL s1 0)) hx hb hts in_VM hown hK 0 (Xw_0 ad ca _) rfl 5 (by decide) (hts _ k_175) (fun _ h9 => h9) rfl d_VM_takeField_18 ?_
    refine Go.iload_n hx hb 1 rfl d_VM_takeField_21 ?_
    obtain ⟨r2, s2, q2, h⟩ := gb_some h
    refine Go.callVi S hK hA 9 (Xw_9 ad ca _) rfl (fun sz9 => m_Store_hasPart l D ad ca N _ sz9 _ _ r2 s2 q2) (cwV 2 hts (gwV k_256 k_257 k_258 k_66 k_259) rfl rfl rfl (by decide +kernel) ⟨Nat.le_of_ble_eq_true rfl, Nat.le_of_ble_eq_true rfl⟩) rfl rfl (Nat.le_of_ble_eq_true rfl) ⟨Nat.zero_le _, Nat.zero_le _⟩ d_VM_takeField_22 ?_
    refine Go.if_eq (tgt := 47) hx hb d_VM_takeField_25 rfl (fun c25 => ?_) (fun c25 => ?_)
    · replace h := (if_pos c25).symm.trans h
      refine Go.bipush (v := 8) hx hb (by decide) d_VM_takeField_47 ?_
      exact Go.iret hx hb hr hK hlk h d_VM_takeField_49
    · replace h := (if_neg c25).symm.trans h
      refine Go.aload_n hx hb 0 rfl d_VM_takeField_28 ?_
      refine Go.aload_n hx hb 0 rfl d_VM_takeField_29 ?_
      refine Go.get (v := .ref (ad 9)) hx hb hts in_VM hown hK 0 (Xw_0 ad ca _) rfl 3 (by decide) (hts _ k_173) (fun _ h9 => h9) rfl d_VM_takeField_30 ?_
      refine Go.aload_n hx hb 0 rfl d_VM_takeField_33 ?_
      refine Go.get (v := .long (gL s2 0)) hx hb hts in_VM hown hK 0 (Xw_0 ad ca _) rfl 5 (by decide) (hts _ k_175) (fun _ h9 => h9) rfl d_VM_takeField_34 ?_
      refine Go.iload_n hx hb 1 rfl d_VM_takeField_37 ?_
      obtain ⟨r3, s3, q3, h⟩ := gb_some h
      refine Go.callVl S hK hA 9 (Xw_9 ad ca _) rfl (fun sz9 => m_Store_part l D ad ca N _ sz9 _ _ r3 s3 q3) (cwV 2 hts (gwV k_267 k_268 k_269 k_66 k_270) rfl rfl rfl (by decide +kernel) ⟨Nat.le_of_ble_eq_true rfl, Nat.le_of_ble_eq_true rfl⟩) rfl rfl (Nat.le_of_ble_eq_true rfl) ⟨Nat.zero_le _, Nat.zero_le _⟩ d_VM_takeField_38 ?_
      obtain ⟨r4, s4, q4, h⟩ := gb_some h
      refine Go.callVi S hK hA 0 (Xw_0 ad ca _) rfl (fun sz9 => m_VM_accept l D ad ca N _ sz9 _ r4 s4 q4) (cwV 1 hts (gwV k_384 k_386 k_4 k_62 k_387) rfl rfl rfl (by decide +kernel) ⟨Nat.le_of_ble_eq_true rfl, Nat.le_of_ble_eq_true rfl⟩) rfl rfl (Nat.le_of_ble_eq_true rfl) ⟨Nat.zero_le _, Nat.zero_le _⟩ d_VM_takeField_41 ?_
      refine Go.goto (tgt := 49) hx hb d_VM_takeField_44 rfl ?_
      exact Go.iret hx hb hr hK hlk h d_VM_takeField_49
  · replace h := (if_neg c8).symm.trans h
    refine Go.iconst (v := 1) hx hb (by decide) d_VM_takeField_11 ?_
    exact Go.iret hx hb hr hK hlk h d_VM_takeField_12
set_option maxHeartbeats 4000000 in
set_option maxRecDepth 100000 in
theorem m_ValueStack_holds (l : Launch) (D : va_G) (ad : Nat → Nat) (ca : Nat → ClassId) (N : Nat) (st : SG) (sz : Nat) (a0 : Int32) (r : Int32) (u : SG) (h : fX_ValueStack_holds N st a0 = some (r, u)) : Met l y_ValueStack_holds (Cond.code y_ValueStack_holds c_ValueStack_holds 2 (some .boolean) :: tbl) ({ frames := 0, cells := 0, slots := 0, locals := 0 } : Room) (va_Pc [.ref (ad 4), .int a0] (goPre (Xw ad ca) D vwCl (Xtys ca) sz st)) (va_Qi (fun r' u' => r' = r ∧ u' = u) (goPost (Xw ad ca) D vwCl (Xtys ca) (va_A (Xw ad ca st) sz)) (va_A (Xw ad ca st) sz)) 0 0 (va_A (Xw ad ca st) sz) := by
  refine go_met (Qc := fun A9 => va_Qi (fun r' u' => r' = r ∧ u' = u) (goPost (Xw ad ca) D vwCl (Xtys ca) A9) A9) (cc := c_ValueStack_holds) (maxL := 2) (ret := (some .boolean)) [(0, .ref (ad 4)), (1, .int a0)] (by decide) rfl (Nat.le_of_ble_eq_true rfl) rfl ?_
  intro p e s m below meth c A S hr hlk hK hA hsz
  obtain ⟨hx, hb, hml, hown, hts⟩ := id S
  unfold fX_ValueStack_holds at h
  refine Go.iload_n hx hb 1 rfl d_ValueStack_holds_0 ?_
  refine Go.if_lt (tgt := 16) hx hb d_ValueStack_holds_1 rfl (fun c1 => ?_) (fun c1 => ?_)
  · replace h := (if_pos c1).symm.trans h
    refine Go.iconst (v := 0) hx hb (by decide) d_ValueStack_holds_16 ?_
    exact Go.zret hx hb hr hK hlk rfl h d_ValueStack_holds_17
  · replace h := (if_neg c1).symm.trans h
    refine Go.iload_n hx hb 1 rfl d_ValueStack_holds_4 ?_
    refine Go.aload_n hx hb 0 rfl d_ValueStack_holds_5 ?_
    refine Go.get (v := .int (gI st 1)) hx hb hts in_ValueStack hown hK 4 (Xw_4 ad ca _) rfl 1 (by decide) (hts _ k_107) (fun _ h9 => h9) rfl d_ValueStack_holds_6 ?_
    refine Go.icmp_gt (tgt := 16) hx hb d_ValueStack_holds_9 rfl (fun c9 => ?_) (fun c9 => ?_)
    · replace h := (if_pos c9).symm.trans h
      refine Go.iconst (v := 0) hx hb (by decide) d_ValueStack_holds_16 ?_
      exact Go.zret hx hb hr hK hlk rfl h d_ValueStack_holds_17
    · replace h := (if_neg c9).symm.trans h
      refine Go.iconst (v := 1) hx hb (by decide) d_ValueStack_holds_12 ?_
      refine Go.goto (tgt := 17) hx hb d_ValueStack_holds_13 rfl ?_
      exact Go.zret hx hb hr hK hlk rfl h d_ValueStack_holds_17
set_option maxHeartbeats 4000000 in
set_option maxRecDepth 100000 in
theorem m_VM_elementFault (l : Launch) (D : va_G) (ad : Nat → Nat) (ca : Nat → ClassId) (N : Nat) (st : SG) (sz : Nat) (a0 : Int64) (a1 : Int64) (r : Int32) (u : SG) (h : fX_ValueMachine_elementFault N st a0 a1 = some (r, u)) : Met l y_VM_elementFault (Cond.code y_VM_elementFault c_VM_elementFault 5 (some .int) :: tbl) ({ frames := 3, cells := 0, slots := 0, locals := 66 } : Room) (va_Pc [.ref (ad 0), .long a0, .long a1] (goPre (Xw ad ca) D vwCl (Xtys ca) sz st)) (va_Qi (fun r' u' => r' = r ∧ u' = u) (goPost (Xw ad ca) D vwCl (Xtys ca) (va_A (Xw ad ca st) sz)) (va_A (Xw ad ca st) sz)) 0 0 (va_A (Xw ad ca st) sz) := by
  refine go_met (Qc := fun A9 => va_Qi (fun r' u' => r' = r ∧ u' = u) (goPost (Xw ad ca) D vwCl (Xtys ca) A9) A9) (cc := c_VM_elementFault) (maxL := 5) (ret := (some .int)) [(0, .ref (ad 0)), (1, .long a0), (3, .long a1)] (by decide) rfl (Nat.le_of_ble_eq_true rfl) rfl ?_
  intro p e s m below meth c A S hr hlk hK hA hsz
  obtain ⟨hx, hb, hml, hown, hts⟩ := id S
  unfold fX_ValueMachine_elementFault at h
  refine Go.lload_n hx hb 1 rfl d_VM_elementFault_0 ?_
  obtain ⟨r1, s1, q1, h⟩ := gb_some h
  refine Go.callSi S hK hA (fun sz9 => m_Value_sortOf l D ad ca N _ sz9 _ r1 s1 q1) (va_cwS 1 hts (gwS k_235 k_236 k_72 k_237) rfl rfl rfl (by decide +kernel) ⟨Nat.le_of_ble_eq_true rfl, Nat.le_of_ble_eq_true rfl⟩) rfl rfl (Nat.le_of_ble_eq_true rfl) ⟨Nat.zero_le _, Nat.zero_le _⟩ d_VM_elementFault_1 ?_
  refine Go.iconst (v := 5) hx hb (by decide) d_VM_elementFault_4 ?_
  refine Go.icmp_ne (tgt := 16) hx hb d_VM_elementFault_5 rfl (fun c5 => ?_) (fun c5 => ?_)
  · replace h := (if_neg c5).symm.trans h
    refine Go.iconst (v := 1) hx hb (by decide) d_VM_elementFault_16 ?_
    exact Go.iret hx hb hr hK hlk h d_VM_elementFault_17
  · replace h := (if_pos c5).symm.trans h
    refine Go.lload_n hx hb 2 rfl d_VM_elementFault_8 ?_
    obtain ⟨r2, s2, q2, h⟩ := gb_some h
    refine Go.callSi S hK hA (fun sz9 => m_Value_sortOf l D ad ca N _ sz9 _ r2 s2 q2) (va_cwS 1 hts (gwS k_235 k_236 k_72 k_237) rfl rfl rfl (by decide +kernel) ⟨Nat.le_of_ble_eq_true rfl, Nat.le_of_ble_eq_true rfl⟩) rfl rfl (Nat.le_of_ble_eq_true rfl) ⟨Nat.zero_le _, Nat.zero_le _⟩ d_VM_elementFault_9 ?_
    refine Go.iconst (v := 3) hx hb (by decide) d_VM_elementFault_12 ?_
    refine Go.icmp_eq (tgt := 18) hx hb d_VM_elementFault_13 rfl (fun c13 => ?_) (fun c13 => ?_)
    · replace h := (if_pos c13).symm.trans h
      refine Go.aload_n hx hb 0 rfl d_VM_elementFault_18 ?_
      refine Go.get (v := .ref (ad 9)) hx hb hts in_VM hown hK 0 (Xw_0 ad ca _) rfl 3 (by decide) (hts _ k_173) (fun _ h9 => h9) rfl d_VM_elementFault_19 ?_
      refine Go.lload_n hx hb 1 rfl d_VM_elementFault_22 ?_
      refine Go.lload_n hx hb 2 rfl d_VM_elementFault_23 ?_
      obtain ⟨r3, s3, q3, h⟩ := gb_some h
      refine Go.callSi S hK hA (fun sz9 => m_Value_numberOf l D ad ca N _ sz9 _ r3 s3 q3) (va_cwS 1 hts (gwS k_275 k_265 k_72 k_266) rfl rfl rfl (by decide +kernel) ⟨Nat.le_of_ble_eq_true rfl, Nat.le_of_ble_eq_true rfl⟩) rfl rfl (Nat.le_of_ble_eq_true rfl) ⟨Nat.zero_le _, Nat.zero_le _⟩ d_VM_elementFault_24 ?_
      obtain ⟨r4, s4, q4, h⟩ := gb_some h
      refine Go.callVi S hK hA 9 (Xw_9 ad ca _) rfl (fun sz9 => m_Store_hasPart l D ad ca N _ sz9 _ _ r4 s4 q4) (cwV 2 hts (gwV k_256 k_257 k_258 k_66 k_259) rfl rfl rfl (by decide +kernel) ⟨Nat.le_of_ble_eq_true rfl, Nat.le_of_ble_eq_true rfl⟩) rfl rfl (Nat.le_of_ble_eq_true rfl) ⟨Nat.zero_le _, Nat.zero_le _⟩ d_VM_elementFault_27 ?_
      refine Go.if_eq (tgt := 37) hx hb d_VM_elementFault_30 rfl (fun c30 => ?_) (fun c30 => ?_)
      · replace h := (if_pos c30).symm.trans h
        refine Go.iconst (v := 2) hx hb (by decide) d_VM_elementFault_37 ?_
        exact Go.iret hx hb hr hK hlk h d_VM_elementFault_38
      · replace h := (if_neg c30).symm.trans h
        refine Go.iconst (v := 0) hx hb (by decide) d_VM_elementFault_33 ?_
        refine Go.goto (tgt := 38) hx hb d_VM_elementFault_34 rfl ?_
        exact Go.iret hx hb hr hK hlk h d_VM_elementFault_38
    · replace h := (if_neg c13).symm.trans h
      refine Go.iconst (v := 1) hx hb (by decide) d_VM_elementFault_16 ?_
      exact Go.iret hx hb hr hK hlk h d_VM_elementFault_17
set_option maxHeartbeats 4000000 in
set_option maxRecDepth 100000 in
theorem m_ValueStack_drop (l : Launch) (D : va_G) (ad : Nat → Nat) (ca : Nat → ClassId) (N : Nat) (st : SG) (sz : Nat) (a0 : Int32) (r : Unit) (u : SG) (h : fX_ValueStack_drop N st a0 = some (r, u)) : Met l y_ValueStack_drop (Cond.code y_ValueStack_drop c_ValueStack_drop 2 none :: tbl) ({ frames := 0, cells := 0, slots := 0, locals := 0 } : Room) (va_Pc [.ref (ad 4), .int a0] (goPre (Xw ad ca) D vwCl (Xtys ca) sz st)) (va_Qv (fun u' => u' = u) (goPost (Xw ad ca) D vwCl (Xtys ca) (va_A (Xw ad ca st) sz)) (va_A (Xw ad ca st) sz)) 0 0 (va_A (Xw ad ca st) sz) := by
  refine go_met (Qc := fun A9 => va_Qv (fun u' => u' = u) (goPost (Xw ad ca) D vwCl (Xtys ca) A9) A9) (cc := c_ValueStack_drop) (maxL := 2) (ret := none) [(0, .ref (ad 4)), (1, .int a0)] (by decide) rfl (Nat.le_of_ble_eq_true rfl) rfl ?_
  intro p e s m below meth c A S hr hlk hK hA hsz
  obtain ⟨hx, hb, hml, hown, hts⟩ := id S
  unfold fX_ValueStack_drop at h
  refine Go.aload_n hx hb 0 rfl d_ValueStack_drop_0 ?_
  refine Go.dup hx hb rfl d_ValueStack_drop_1 ?_
  refine Go.get (v := .int (gI st 1)) hx hb hts in_ValueStack hown hK 4 (Xw_4 ad ca _) rfl 1 (by decide) (hts _ k_107) (fun _ h9 => h9) rfl d_ValueStack_drop_2 ?_
  refine Go.iload_n hx hb 1 rfl d_ValueStack_drop_5 ?_
  refine Go.isub hx hb d_ValueStack_drop_6 ?_
  refine Go.put (ty := (.int)) hx hb hts in_ValueStack ty_ValueStack tyok_ValueStack nm_ValueStack hown hK 4 (Xw_4 ad ca _) rfl 1 (by decide) (hts _ k_107) (fun _ h9 => h9) rfl (by decide +kernel) rfl rfl (Nat.le_of_ble_eq_true rfl) (uI st 1 ((gI st 1) - a0)) (Xs_I1 ad ca _ _) d_ValueStack_drop_7 ?_
  exact Go.vret hx hb hr hK hlk h d_ValueStack_drop_10
set_option maxHeartbeats 4000000 in
set_option maxRecDepth 100000 in
theorem m_VM_acceptForTop (l : Launch) (D : va_G) (ad : Nat → Nat) (ca : Nat → ClassId) (N : Nat) (st : SG) (sz : Nat) (a0 : Int64) (r : Int32) (u : SG) (h : fX_ValueMachine_acceptForTop N st a0 = some (r, u)) : Met l y_VM_acceptForTop (Cond.code y_VM_acceptForTop c_VM_acceptForTop 3 (some .int) :: tbl) ({ frames := 1, cells := 0, slots := 0, locals := 22 } : Room) (va_Pc [.ref (ad 0), .long a0] (goPre (Xw ad ca) D vwCl (Xtys ca) sz st)) (va_Qi (fun r' u' => r' = r ∧ u' = u) (goPost (Xw ad ca) D vwCl (Xtys ca) (va_A (Xw ad ca st) sz)) (va_A (Xw ad ca st) sz)) 0 0 (va_A (Xw ad ca st) sz) := by
  refine go_met (Qc := fun A9 => va_Qi (fun r' u' => r' = r ∧ u' = u) (goPost (Xw ad ca) D vwCl (Xtys ca) A9) A9) (cc := c_VM_acceptForTop) (maxL := 3) (ret := (some .int)) [(0, .ref (ad 0)), (1, .long a0)] (by decide) rfl (Nat.le_of_ble_eq_true rfl) rfl ?_
  intro p e s m below meth c A S hr hlk hK hA hsz
  obtain ⟨hx, hb, hml, hown, hts⟩ := id S
  unfold fX_ValueMachine_acceptForTop at h
  refine Go.aload_n hx hb 0 rfl d_VM_acceptForTop_0 ?_
  refine Go.get (v := .ref (ad 4)) hx hb hts in_VM hown hK 0 (Xw_0 ad ca _) rfl 1 (by decide) (hts _ k_171) (fun _ h9 => h9) rfl d_VM_acceptForTop_1 ?_
  refine Go.iconst (v := 1) hx hb (by decide) d_VM_acceptForTop_4 ?_
  obtain ⟨_, s1, q1, h⟩ := gb_some h
  refine Go.callVv S hK hA 4 (Xw_4 ad ca _) rfl (fun sz9 => m_ValueStack_drop l D ad ca N _ sz9 _ _ s1 q1) (cwV 1 hts (gwV k_425 k_426 k_427 k_64 k_428) rfl rfl rfl (by decide +kernel) ⟨Nat.le_of_ble_eq_true rfl, Nat.le_of_ble_eq_true rfl⟩) rfl rfl (Nat.le_of_ble_eq_true rfl) ⟨Nat.zero_le _, Nat.zero_le _⟩ d_VM_acceptForTop_5 ?_
  refine Go.aload_n hx hb 0 rfl d_VM_acceptForTop_8 ?_
  refine Go.lload_n hx hb 1 rfl d_VM_acceptForTop_9 ?_
  obtain ⟨r2, s2, q2, h⟩ := gb_some h
  refine Go.callVi S hK hA 0 (Xw_0 ad ca _) rfl (fun sz9 => m_VM_accept l D ad ca N _ sz9 _ r2 s2 q2) (cwV 1 hts (gwV k_384 k_386 k_4 k_62 k_387) rfl rfl rfl (by decide +kernel) ⟨Nat.le_of_ble_eq_true rfl, Nat.le_of_ble_eq_true rfl⟩) rfl rfl (Nat.le_of_ble_eq_true rfl) ⟨Nat.zero_le _, Nat.zero_le _⟩ d_VM_acceptForTop_10 ?_
  exact Go.iret hx hb hr hK hlk h d_VM_acceptForTop_13
set_option maxHeartbeats 4000000 in
set_option maxRecDepth 100000 in
theorem m_VM_takeElement (l : Launch) (D : va_G) (ad : Nat → Nat) (ca : Nat → ClassId) (N : Nat) (st : SG) (sz : Nat) (r : Int32) (u : SG) (h : fX_ValueMachine_takeElement N st = some (r, u)) : Met l y_VM_takeElement (Cond.code y_VM_takeElement c_VM_takeElement 4 (some .int) :: tbl) ({ frames := 4, cells := 0, slots := 0, locals := 90 } : Room) (va_Pc [.ref (ad 0)] (goPre (Xw ad ca) D vwCl (Xtys ca) sz st)) (va_Qi (fun r' u' => r' = r ∧ u' = u) (goPost (Xw ad ca) D vwCl (Xtys ca) (va_A (Xw ad ca st) sz)) (va_A (Xw ad ca st) sz)) 0 0 (va_A (Xw ad ca st) sz) := by
  refine go_met (Qc := fun A9 => va_Qi (fun r' u' => r' = r ∧ u' = u) (goPost (Xw ad ca) D vwCl (Xtys ca) A9) A9) (cc := c_VM_takeElement) (maxL := 4) (ret := (some .int)) [(0, .ref (ad 0))] (by decide) rfl (Nat.le_of_ble_eq_true rfl) rfl ?_
  intro p e s m below meth c A S hr hlk hK hA hsz
  obtain ⟨hx, hb, hml, hown, hts⟩ := id S
  unfold fX_ValueMachine_takeElement at h
  refine Go.aload_n hx hb 0 rfl d_VM_takeElement_0 ?_
  refine Go.get (v := .ref (ad 4)) hx hb hts in_VM hown hK 0 (Xw_0 ad ca _) rfl 1 (by decide) (hts _ k_171) (fun _ h9 => h9) rfl d_VM_takeElement_1 ?_
  refine Go.iconst (v := 1) hx hb (by decide) d_VM_takeElement_4 ?_
  obtain ⟨r1, s1, q1, h⟩ := gb_some h
  refine Go.callVi S hK hA 4 (Xw_4 ad ca _) rfl (fun sz9 => m_ValueStack_holds l D ad ca N _ sz9 _ r1 s1 q1) (cwV 1 hts (gwV k_413 k_414 k_415 k_64 k_416) rfl rfl rfl (by decide +kernel) ⟨Nat.le_of_ble_eq_true rfl, Nat.le_of_ble_eq_true rfl⟩) rfl rfl (Nat.le_of_ble_eq_true rfl) ⟨Nat.zero_le _, Nat.zero_le _⟩ d_VM_takeElement_5 ?_
  refine Go.if_ne (tgt := 13) hx hb d_VM_takeElement_8 rfl (fun c8 => ?_) (fun c8 => ?_)
  · replace h := (if_neg c8).symm.trans h
    refine Go.aload_n hx hb 0 rfl d_VM_takeElement_13 ?_
    refine Go.get (v := .ref (ad 4)) hx hb hts in_VM hown hK 0 (Xw_0 ad ca _) rfl 1 (by decide) (hts _ k_171) (fun _ h9 => h9) rfl d_VM_takeElement_14 ?_
    refine Go.iconst (v := 0) hx hb (by decide) d_VM_takeElement_17 ?_
    obtain ⟨r2, s2, q2, h⟩ := gb_some h
    refine Go.callVl S hK hA 4 (Xw_4 ad ca _) rfl (fun sz9 => m_ValueStack_at l D ad ca N _ sz9 _ r2 s2 q2) (cwV 1 hts (gwV k_242 k_243 k_244 k_64 k_245) rfl rfl rfl (by decide +kernel) ⟨Nat.le_of_ble_eq_true rfl, Nat.le_of_ble_eq_true rfl⟩) rfl rfl (Nat.le_of_ble_eq_true rfl) ⟨Nat.zero_le _, Nat.zero_le _⟩ d_VM_takeElement_18 ?_
    refine Go.lstore_n (i := 1) (lv' := [(1, .long r2), (0, .ref (ad 0))]) hx hb rfl (Nat.le_of_ble_eq_true rfl) rfl d_VM_takeElement_21 ?_
    refine Go.aload_n hx hb 1 rfl d_VM_takeElement_22 ?_
    refine Go.lload_n hx hb 0 rfl d_VM_takeElement_23 ?_
    refine Go.aload_n hx hb 1 rfl d_VM_takeElement_24 ?_
    refine Go.get (v := .long (gL s2 0)) hx hb hts in_VM hown hK 0 (Xw_0 ad ca _) rfl 5 (by decide) (hts _ k_175) (fun _ h9 => h9) rfl d_VM_takeElement_25 ?_
    obtain ⟨r3, s3, q3, h⟩ := gb_some h
    refine Go.callVi S hK hA 0 (Xw_0 ad ca _) rfl (fun sz9 => m_VM_elementFault l D ad ca N _ sz9 _ _ r3 s3 q3) (cwV 2 hts (gwV k_417 k_419 k_9 k_62 k_420) rfl rfl rfl (by decide +kernel) ⟨Nat.le_of_ble_eq_true rfl, Nat.le_of_ble_eq_true rfl⟩) rfl rfl (Nat.le_of_ble_eq_true rfl) ⟨Nat.zero_le _, Nat.zero_le _⟩ d_VM_takeElement_28 ?_
    refine Go.istore_n (i := 3) (lv' := [(3, .int r3), (1, .long r2), (0, .ref (ad 0))]) hx hb rfl (Nat.le_of_ble_eq_true rfl) rfl d_VM_takeElement_31 ?_
    refine Go.iload_n hx hb 0 rfl d_VM_takeElement_32 ?_
    refine Go.if_eq (tgt := 38) hx hb d_VM_takeElement_33 rfl (fun c33 => ?_) (fun c33 => ?_)
    · replace h := (if_pos c33).symm.trans h
      refine Go.aload_n hx hb 2 rfl d_VM_takeElement_38 ?_
      refine Go.aload_n hx hb 2 rfl d_VM_takeElement_39 ?_
      refine Go.get (v := .ref (ad 9)) hx hb hts in_VM hown hK 0 (Xw_0 ad ca _) rfl 3 (by decide) (hts _ k_173) (fun _ h9 => h9) rfl d_VM_takeElement_40 ?_
      refine Go.lload_n hx hb 1 rfl d_VM_takeElement_43 ?_
      refine Go.aload_n hx hb 2 rfl d_VM_takeElement_44 ?_
      refine Go.get (v := .long (gL s3 0)) hx hb hts in_VM hown hK 0 (Xw_0 ad ca _) rfl 5 (by decide) (hts _ k_175) (fun _ h9 => h9) rfl d_VM_takeElement_45 ?_
      obtain ⟨r4, s4, q4, h⟩ := gb_some h
      refine Go.callSi S hK hA (fun sz9 => m_Value_numberOf l D ad ca N _ sz9 _ r4 s4 q4) (va_cwS 1 hts (gwS k_275 k_265 k_72 k_266) rfl rfl rfl (by decide +kernel) ⟨Nat.le_of_ble_eq_true rfl, Nat.le_of_ble_eq_true rfl⟩) rfl rfl (Nat.le_of_ble_eq_true rfl) ⟨Nat.zero_le _, Nat.zero_le _⟩ d_VM_takeElement_48 ?_
      obtain ⟨r5, s5, q5, h⟩ := gb_some h
      refine Go.callVl S hK hA 9 (Xw_9 ad ca _) rfl (fun sz9 => m_Store_part l D ad ca N _ sz9 _ _ r5 s5 q5) (cwV 2 hts (gwV k_267 k_268 k_269 k_66 k_270) rfl rfl rfl (by decide +kernel) ⟨Nat.le_of_ble_eq_true rfl, Nat.le_of_ble_eq_true rfl⟩) rfl rfl (Nat.le_of_ble_eq_true rfl) ⟨Nat.zero_le _, Nat.zero_le _⟩ d_VM_takeElement_51 ?_
      obtain ⟨r6, s6, q6, h⟩ := gb_some h
      refine Go.callVi S hK hA 0 (Xw_0 ad ca _) rfl (fun sz9 => m_VM_acceptForTop l D ad ca N _ sz9 _ r6 s6 q6) (cwV 1 hts (gwV k_421 k_423 k_10 k_62 k_424) rfl rfl rfl (by decide +kernel) ⟨Nat.le_of_ble_eq_true rfl, Nat.le_of_ble_eq_true rfl⟩) rfl rfl (Nat.le_of_ble_eq_true rfl) ⟨Nat.zero_le _, Nat.zero_le _⟩ d_VM_takeElement_54 ?_
      exact Go.iret hx hb hr hK hlk h d_VM_takeElement_57
    · replace h := (if_neg c33).symm.trans h
      refine Go.iload_n hx hb 0 rfl d_VM_takeElement_36 ?_
      exact Go.iret hx hb hr hK hlk h d_VM_takeElement_37
  · replace h := (if_pos c8).symm.trans h
    refine Go.iconst (v := 3) hx hb (by decide) d_VM_takeElement_11 ?_
    exact Go.iret hx hb hr hK hlk h d_VM_takeElement_12
set_option maxHeartbeats 4000000 in
set_option maxRecDepth 100000 in
theorem m_VM_takeSize (l : Launch) (D : va_G) (ad : Nat → Nat) (ca : Nat → ClassId) (N : Nat) (st : SG) (sz : Nat) (r : Int32) (u : SG) (h : fX_ValueMachine_takeSize N st = some (r, u)) : Met l y_VM_takeSize (Cond.code y_VM_takeSize c_VM_takeSize 1 (some .int) :: tbl) ({ frames := 2, cells := 0, slots := 0, locals := 43 } : Room) (va_Pc [.ref (ad 0)] (goPre (Xw ad ca) D vwCl (Xtys ca) sz st)) (va_Qi (fun r' u' => r' = r ∧ u' = u) (goPost (Xw ad ca) D vwCl (Xtys ca) (va_A (Xw ad ca st) sz)) (va_A (Xw ad ca st) sz)) 0 0 (va_A (Xw ad ca st) sz) := by
  refine go_met (Qc := fun A9 => va_Qi (fun r' u' => r' = r ∧ u' = u) (goPost (Xw ad ca) D vwCl (Xtys ca) A9) A9) (cc := c_VM_takeSize) (maxL := 1) (ret := (some .int)) [(0, .ref (ad 0))] (by decide) rfl (Nat.le_of_ble_eq_true rfl) rfl ?_
  intro p e s m below meth c A S hr hlk hK hA hsz
  obtain ⟨hx, hb, hml, hown, hts⟩ := id S
  unfold fX_ValueMachine_takeSize at h
  refine Go.aload_n hx hb 0 rfl d_VM_takeSize_0 ?_
  refine Go.get (v := .long (gL st 0)) hx hb hts in_VM hown hK 0 (Xw_0 ad ca _) rfl 5 (by decide) (hts _ k_175) (fun _ h9 => h9) rfl d_VM_takeSize_1 ?_
  obtain ⟨r1, s1, q1, h⟩ := gb_some h
  refine Go.callSi S hK hA (fun sz9 => m_Value_sortOf l D ad ca N _ sz9 _ r1 s1 q1) (va_cwS 1 hts (gwS k_235 k_236 k_72 k_237) rfl rfl rfl (by decide +kernel) ⟨Nat.le_of_ble_eq_true rfl, Nat.le_of_ble_eq_true rfl⟩) rfl rfl (Nat.le_of_ble_eq_true rfl) ⟨Nat.zero_le _, Nat.zero_le _⟩ d_VM_takeSize_4 ?_
  refine Go.iconst (v := 5) hx hb (by decide) d_VM_takeSize_7 ?_
  refine Go.icmp_eq (tgt := 13) hx hb d_VM_takeSize_8 rfl (fun c8 => ?_) (fun c8 => ?_)
  · replace h := (if_pos c8).symm.trans h
    refine Go.aload_n hx hb 0 rfl d_VM_takeSize_13 ?_
    refine Go.aload_n hx hb 0 rfl d_VM_takeSize_14 ?_
    refine Go.get (v := .ref (ad 9)) hx hb hts in_VM hown hK 0 (Xw_0 ad ca _) rfl 3 (by decide) (hts _ k_173) (fun _ h9 => h9) rfl d_VM_takeSize_15 ?_
    refine Go.aload_n hx hb 0 rfl d_VM_takeSize_18 ?_
    refine Go.get (v := .long (gL s1 0)) hx hb hts in_VM hown hK 0 (Xw_0 ad ca _) rfl 5 (by decide) (hts _ k_175) (fun _ h9 => h9) rfl d_VM_takeSize_19 ?_
    obtain ⟨r2, s2, q2, h⟩ := gb_some h
    refine Go.callVi S hK hA 9 (Xw_9 ad ca _) rfl (fun sz9 => m_Store_sizeOf l D ad ca N _ sz9 _ r2 s2 q2) (cwV 1 hts (gwV k_276 k_261 k_262 k_66 k_263) rfl rfl rfl (by decide +kernel) ⟨Nat.le_of_ble_eq_true rfl, Nat.le_of_ble_eq_true rfl⟩) rfl rfl (Nat.le_of_ble_eq_true rfl) ⟨Nat.zero_le _, Nat.zero_le _⟩ d_VM_takeSize_22 ?_
    obtain ⟨r3, s3, q3, h⟩ := gb_some h
    refine Go.callSl S hK hA (fun sz9 => m_Value_integer l D ad ca N _ sz9 _ r3 s3 q3) (va_cwS 1 hts (gwS k_390 k_391 k_72 k_392) rfl rfl rfl (by decide +kernel) ⟨Nat.le_of_ble_eq_true rfl, Nat.le_of_ble_eq_true rfl⟩) rfl rfl (Nat.le_of_ble_eq_true rfl) ⟨Nat.zero_le _, Nat.zero_le _⟩ d_VM_takeSize_25 ?_
    obtain ⟨r4, s4, q4, h⟩ := gb_some h
    refine Go.callVi S hK hA 0 (Xw_0 ad ca _) rfl (fun sz9 => m_VM_accept l D ad ca N _ sz9 _ r4 s4 q4) (cwV 1 hts (gwV k_384 k_386 k_4 k_62 k_387) rfl rfl rfl (by decide +kernel) ⟨Nat.le_of_ble_eq_true rfl, Nat.le_of_ble_eq_true rfl⟩) rfl rfl (Nat.le_of_ble_eq_true rfl) ⟨Nat.zero_le _, Nat.zero_le _⟩ d_VM_takeSize_28 ?_
    exact Go.iret hx hb hr hK hlk h d_VM_takeSize_31
  · replace h := (if_neg c8).symm.trans h
    refine Go.iconst (v := 1) hx hb (by decide) d_VM_takeSize_11 ?_
    exact Go.iret hx hb hr hK hlk h d_VM_takeSize_12
set_option maxHeartbeats 4000000 in
set_option maxRecDepth 100000 in
theorem m_ValueStack_set (l : Launch) (D : va_G) (ad : Nat → Nat) (ca : Nat → ClassId) (N : Nat) (st : SG) (sz : Nat) (a0 : Int32) (a1 : Int64) (r : Unit) (u : SG) (h : fX_ValueStack_set N st a0 a1 = some (r, u)) : Met l y_ValueStack_set (Cond.code y_ValueStack_set c_ValueStack_set 4 none :: tbl) ({ frames := 0, cells := 0, slots := 0, locals := 0 } : Room) (va_Pc [.ref (ad 4), .int a0, .long a1] (goPre (Xw ad ca) D vwCl (Xtys ca) sz st)) (va_Qv (fun u' => u' = u) (goPost (Xw ad ca) D vwCl (Xtys ca) (va_A (Xw ad ca st) sz)) (va_A (Xw ad ca st) sz)) 0 0 (va_A (Xw ad ca st) sz) := by
  refine go_met (Qc := fun A9 => va_Qv (fun u' => u' = u) (goPost (Xw ad ca) D vwCl (Xtys ca) A9) A9) (cc := c_ValueStack_set) (maxL := 4) (ret := none) [(0, .ref (ad 4)), (1, .int a0), (2, .long a1)] (by decide) rfl (Nat.le_of_ble_eq_true rfl) rfl ?_
  intro p e s m below meth c A S hr hlk hK hA hsz
  obtain ⟨hx, hb, hml, hown, hts⟩ := id S
  unfold fX_ValueStack_set at h
  refine Go.aload_n hx hb 0 rfl d_ValueStack_set_0 ?_
  refine Go.get (v := .ref (ad 5)) hx hb hts in_ValueStack hown hK 4 (Xw_4 ad ca _) rfl 0 (by decide) (hts _ k_106) (fun _ h9 => h9) rfl d_ValueStack_set_1 ?_
  refine Go.aload_n hx hb 0 rfl d_ValueStack_set_4 ?_
  refine Go.get (v := .int (gI st 1)) hx hb hts in_ValueStack hown hK 4 (Xw_4 ad ca _) rfl 1 (by decide) (hts _ k_107) (fun _ h9 => h9) rfl d_ValueStack_set_5 ?_
  refine Go.iconst (v := 1) hx hb (by decide) d_ValueStack_set_8 ?_
  refine Go.isub hx hb d_ValueStack_set_9 ?_
  refine Go.iload_n hx hb 1 rfl d_ValueStack_set_10 ?_
  refine Go.isub hx hb d_ValueStack_set_11 ?_
  refine Go.lload_n hx hb 2 rfl d_ValueStack_set_12 ?_
  obtain ⟨c13, h⟩ := gg_some h
  refine Go.last hx hb hK 5 2 (Xw_5 ad ca _) rfl c13 (uB st 0 (vp_updL (gB st 0) (((gI st 1) - 1) - a0).toNatClampNeg a1)) (Xs_B0 ad ca _ _) d_ValueStack_set_13 ?_
  exact Go.vret hx hb hr hK hlk h d_ValueStack_set_14
set_option maxHeartbeats 4000000 in
set_option maxRecDepth 100000 in
theorem m_VM_setStack (l : Launch) (D : va_G) (ad : Nat → Nat) (ca : Nat → ClassId) (N : Nat) (st : SG) (sz : Nat) (a0 : Int32) (r : Int32) (u : SG) (h : fX_ValueMachine_setStack N st a0 = some (r, u)) : Met l y_VM_setStack (Cond.code y_VM_setStack c_VM_setStack 2 (some .int) :: tbl) ({ frames := 1, cells := 0, slots := 0, locals := 23 } : Room) (va_Pc [.ref (ad 0), .int a0] (goPre (Xw ad ca) D vwCl (Xtys ca) sz st)) (va_Qi (fun r' u' => r' = r ∧ u' = u) (goPost (Xw ad ca) D vwCl (Xtys ca) (va_A (Xw ad ca st) sz)) (va_A (Xw ad ca st) sz)) 0 0 (va_A (Xw ad ca st) sz) := by
  refine go_met (Qc := fun A9 => va_Qi (fun r' u' => r' = r ∧ u' = u) (goPost (Xw ad ca) D vwCl (Xtys ca) A9) A9) (cc := c_VM_setStack) (maxL := 2) (ret := (some .int)) [(0, .ref (ad 0)), (1, .int a0)] (by decide) rfl (Nat.le_of_ble_eq_true rfl) rfl ?_
  intro p e s m below meth c A S hr hlk hK hA hsz
  obtain ⟨hx, hb, hml, hown, hts⟩ := id S
  unfold fX_ValueMachine_setStack at h
  refine Go.aload_n hx hb 0 rfl d_VM_setStack_0 ?_
  refine Go.get (v := .ref (ad 4)) hx hb hts in_VM hown hK 0 (Xw_0 ad ca _) rfl 1 (by decide) (hts _ k_171) (fun _ h9 => h9) rfl d_VM_setStack_1 ?_
  refine Go.iload_n hx hb 1 rfl d_VM_setStack_4 ?_
  obtain ⟨r1, s1, q1, h⟩ := gb_some h
  refine Go.callVi S hK hA 4 (Xw_4 ad ca _) rfl (fun sz9 => m_ValueStack_reaches l D ad ca N _ sz9 _ r1 s1 q1) (cwV 1 hts (gwV k_238 k_239 k_240 k_64 k_241) rfl rfl rfl (by decide +kernel) ⟨Nat.le_of_ble_eq_true rfl, Nat.le_of_ble_eq_true rfl⟩) rfl rfl (Nat.le_of_ble_eq_true rfl) ⟨Nat.zero_le _, Nat.zero_le _⟩ d_VM_setStack_5 ?_
  refine Go.if_ne (tgt := 13) hx hb d_VM_setStack_8 rfl (fun c8 => ?_) (fun c8 => ?_)
  · replace h := (if_neg c8).symm.trans h
    refine Go.aload_n hx hb 0 rfl d_VM_setStack_13 ?_
    refine Go.get (v := .ref (ad 4)) hx hb hts in_VM hown hK 0 (Xw_0 ad ca _) rfl 1 (by decide) (hts _ k_171) (fun _ h9 => h9) rfl d_VM_setStack_14 ?_
    refine Go.iload_n hx hb 1 rfl d_VM_setStack_17 ?_
    refine Go.aload_n hx hb 0 rfl d_VM_setStack_18 ?_
    refine Go.get (v := .long (gL s1 0)) hx hb hts in_VM hown hK 0 (Xw_0 ad ca _) rfl 5 (by decide) (hts _ k_175) (fun _ h9 => h9) rfl d_VM_setStack_19 ?_
    obtain ⟨_, s2, q2, h⟩ := gb_some h
    refine Go.callVv S hK hA 4 (Xw_4 ad ca _) rfl (fun sz9 => m_ValueStack_set l D ad ca N _ sz9 _ _ _ s2 q2) (cwV 2 hts (gwV k_437 k_438 k_439 k_64 k_440) rfl rfl rfl (by decide +kernel) ⟨Nat.le_of_ble_eq_true rfl, Nat.le_of_ble_eq_true rfl⟩) rfl rfl (Nat.le_of_ble_eq_true rfl) ⟨Nat.zero_le _, Nat.zero_le _⟩ d_VM_setStack_22 ?_
    refine Go.iconst (v := 0) hx hb (by decide) d_VM_setStack_25 ?_
    exact Go.iret hx hb hr hK hlk h d_VM_setStack_26
  · replace h := (if_pos c8).symm.trans h
    refine Go.iconst (v := 3) hx hb (by decide) d_VM_setStack_11 ?_
    exact Go.iret hx hb hr hK hlk h d_VM_setStack_12
set_option maxHeartbeats 4000000 in
set_option maxRecDepth 100000 in
theorem m_VM_setGlobal (l : Launch) (D : va_G) (ad : Nat → Nat) (ca : Nat → ClassId) (N : Nat) (st : SG) (sz : Nat) (a0 : Int32) (r : Int32) (u : SG) (h : fX_ValueMachine_setGlobal N st a0 = some (r, u)) : Met l y_VM_setGlobal (Cond.code y_VM_setGlobal c_VM_setGlobal 2 (some .int) :: tbl) ({ frames := 1, cells := 0, slots := 0, locals := 20 } : Room) (va_Pc [.ref (ad 0), .int a0] (goPre (Xw ad ca) D vwCl (Xtys ca) sz st)) (va_Qi (fun r' u' => r' = r ∧ u' = u) (goPost (Xw ad ca) D vwCl (Xtys ca) (va_A (Xw ad ca st) sz)) (va_A (Xw ad ca st) sz)) 0 0 (va_A (Xw ad ca st) sz) := by
  refine go_met (Qc := fun A9 => va_Qi (fun r' u' => r' = r ∧ u' = u) (goPost (Xw ad ca) D vwCl (Xtys ca) A9) A9) (cc := c_VM_setGlobal) (maxL := 2) (ret := (some .int)) [(0, .ref (ad 0)), (1, .int a0)] (by decide) rfl (Nat.le_of_ble_eq_true rfl) rfl ?_
  intro p e s m below meth c A S hr hlk hK hA hsz
  obtain ⟨hx, hb, hml, hown, hts⟩ := id S
  unfold fX_ValueMachine_setGlobal at h
  refine Go.iload_n hx hb 1 rfl d_VM_setGlobal_0 ?_
  obtain ⟨r1, s1, q1, h⟩ := gb_some h
  refine Go.callSi S hK hA (fun sz9 => m_VM_isGlobal l D ad ca N _ sz9 _ r1 s1 q1) (va_cwS 1 hts (gwS k_246 k_247 k_62 k_248) rfl rfl rfl (by decide +kernel) ⟨Nat.le_of_ble_eq_true rfl, Nat.le_of_ble_eq_true rfl⟩) rfl rfl (Nat.le_of_ble_eq_true rfl) ⟨Nat.zero_le _, Nat.zero_le _⟩ d_VM_setGlobal_1 ?_
  refine Go.if_ne (tgt := 10) hx hb d_VM_setGlobal_4 rfl (fun c4 => ?_) (fun c4 => ?_)
  · replace h := (if_neg c4).symm.trans h
    refine Go.aload_n hx hb 0 rfl d_VM_setGlobal_10 ?_
    refine Go.get (v := .ref (ad 15)) hx hb hts in_VM hown hK 0 (Xw_0 ad ca _) rfl 4 (by decide) (hts _ k_174) (fun _ h9 => h9) rfl d_VM_setGlobal_11 ?_
    refine Go.iload_n hx hb 1 rfl d_VM_setGlobal_14 ?_
    refine Go.aload_n hx hb 0 rfl d_VM_setGlobal_15 ?_
    refine Go.get (v := .long (gL s1 0)) hx hb hts in_VM hown hK 0 (Xw_0 ad ca _) rfl 5 (by decide) (hts _ k_175) (fun _ h9 => h9) rfl d_VM_setGlobal_16 ?_
    obtain ⟨c19, h⟩ := gg_some h
    refine Go.last hx hb hK 15 10 (Xw_15 ad ca _) rfl c19 (uB s1 2 (vp_updL (gB s1 2) a0.toNatClampNeg (gL s1 0))) (Xs_B2 ad ca _ _) d_VM_setGlobal_19 ?_
    refine Go.iconst (v := 0) hx hb (by decide) d_VM_setGlobal_20 ?_
    exact Go.iret hx hb hr hK hlk h d_VM_setGlobal_21
  · replace h := (if_pos c4).symm.trans h
    refine Go.bipush (v := 8) hx hb (by decide) d_VM_setGlobal_7 ?_
    exact Go.iret hx hb hr hK hlk h d_VM_setGlobal_9
