set_option maxHeartbeats 4000000 in
set_option maxRecDepth 100000 in
theorem m_VM_sweepIfFull (l : Launch) (D : va_G) (ad : Nat → Nat) (ca : Nat → ClassId) (N : Nat) (st : SG) (sz : Nat) (r : Unit) (u : SG) (h : fX_ValueMachine_sweepIfFull N st = some (r, u)) : Met l y_VM_sweepIfFull (Cond.code y_VM_sweepIfFull c_VM_sweepIfFull 2 none :: tbl) ({ frames := 3, cells := 0, slots := 0, locals := 69 } : Room) (va_Pc [.ref (ad 0)] (goPre (Xw ad ca) D vwCl (Xtys ca) sz st)) (va_Qv (fun u' => u' = u) (goPost (Xw ad ca) D vwCl (Xtys ca) (va_A (Xw ad ca st) sz)) (va_A (Xw ad ca st) sz)) 0 0 (va_A (Xw ad ca st) sz) := by
  refine go_met (Qc := fun A9 => va_Qv (fun u' => u' = u) (goPost (Xw ad ca) D vwCl (Xtys ca) A9) A9) (cc := c_VM_sweepIfFull) (maxL := 2) (ret := none) [(0, .ref (ad 0))] (by decide) rfl (Nat.le_of_ble_eq_true rfl) rfl ?_
  intro p e s m below meth c A S hr hlk hK hA hsz
  obtain ⟨hx, hb, hml, hown, hts⟩ := id S
  unfold fX_ValueMachine_sweepIfFull at h
  have L65 : ∀ (n : Nat) (v1 : Int32) (st : SG), fX_ValueMachine_sweepIfFull_L65 N n v1 st = some (r, u) → Go (Xw ad ca) D vwCl A s.heap 2 p l e ({ frames := 3, cells := 0, slots := 0, locals := 69 } : Room) s m ([.ref (ad 0)] : List Value).toArray below meth c 0 0 (MQ below (va_Qv (fun u' => u' = u) (goPost (Xw ad ca) D vwCl (Xtys ca) A) A) ([.ref (ad 0)] : List Value).toArray s 0 0 A) 65 [(0, .ref (ad 0)), (1, .int v1)] [] st := by
    intro n
    induction n with
    | zero => intro v1 st h; cases h
    | succ n ih =>
      intro v1 st h
      unfold fX_ValueMachine_sweepIfFull_L65 at h
      refine Go.iload_n hx hb 1 rfl d_VM_sweepIfFull_65 ?_
      refine Go.bipush (v := 8) hx hb (by decide) d_VM_sweepIfFull_66 ?_
      refine Go.icmp_ge (tgt := 90) hx hb d_VM_sweepIfFull_68 rfl (fun c68 => ?_) (fun c68 => ?_)
      · replace h := (if_pos c68).symm.trans h
        refine Go.aload_n hx hb 0 rfl d_VM_sweepIfFull_90 ?_
        refine Go.get (v := .ref (ad 9)) hx hb hts in_VM hown hK 0 (Xw_0 ad ca _) rfl 3 (by decide) (hts _ k_173) (fun _ h9 => h9) rfl d_VM_sweepIfFull_91 ?_
        obtain ⟨_, s4, q4, h⟩ := gb_some h
        refine Go.callVv S hK hA 9 (Xw_9 ad ca _) rfl (fun sz9 => m_Store_endSweep l D ad ca N _ sz9 _ s4 q4) (cwV 0 hts (gwV k_527 k_528 k_529 k_66 k_530) rfl rfl rfl (by decide +kernel) ⟨Nat.le_of_ble_eq_true rfl, Nat.le_of_ble_eq_true rfl⟩) rfl rfl (Nat.le_of_ble_eq_true rfl) ⟨Nat.zero_le _, Nat.zero_le _⟩ d_VM_sweepIfFull_94 ?_
        exact Go.vret hx hb hr hK hlk h d_VM_sweepIfFull_97
      · replace h := (if_neg c68).symm.trans h
        refine Go.aload_n hx hb 0 rfl d_VM_sweepIfFull_71 ?_
        refine Go.get (v := .ref (ad 9)) hx hb hts in_VM hown hK 0 (Xw_0 ad ca _) rfl 3 (by decide) (hts _ k_173) (fun _ h9 => h9) rfl d_VM_sweepIfFull_72 ?_
        refine Go.aload_n hx hb 0 rfl d_VM_sweepIfFull_75 ?_
        refine Go.get (v := .ref (ad 15)) hx hb hts in_VM hown hK 0 (Xw_0 ad ca _) rfl 4 (by decide) (hts _ k_174) (fun _ h9 => h9) rfl d_VM_sweepIfFull_76 ?_
        refine Go.iload_n hx hb 1 rfl d_VM_sweepIfFull_79 ?_
        obtain ⟨c80, h⟩ := gg_some h
        refine Go.lald (v := gB st 2 v1.toNatClampNeg) hx hb hK 15 10 (Xw_15 ad ca _) rfl c80 rfl d_VM_sweepIfFull_80 ?_
        obtain ⟨_, s5, q5, h⟩ := gb_some h
        refine Go.callVv S hK hA 9 (Xw_9 ad ca _) rfl (fun sz9 => m_Store_reach l D ad ca N _ sz9 _ _ s5 q5) (cwV 1 hts (gwV k_522 k_523 k_524 k_66 k_525) rfl rfl rfl (by decide +kernel) ⟨Nat.le_of_ble_eq_true rfl, Nat.le_of_ble_eq_true rfl⟩) rfl rfl (Nat.le_of_ble_eq_true rfl) ⟨Nat.zero_le _, Nat.zero_le _⟩ d_VM_sweepIfFull_81 ?_
        refine Go.iinc (v := v1 + 1) (lv' := [(1, .int (v1 + 1)), (0, .ref (ad 0))]) hx hb 1 rfl rfl (Nat.le_of_ble_eq_true rfl) rfl d_VM_sweepIfFull_84 ?_
        refine Go.goto (tgt := 65) hx hb d_VM_sweepIfFull_87 rfl ?_
        refine Go.sub [1, 0] rfl ?_
        exact ih _ _ h
  have L31 : ∀ (n : Nat) (v1 : Int32) (st : SG), fX_ValueMachine_sweepIfFull_L31 N n v1 st = some (r, u) → Go (Xw ad ca) D vwCl A s.heap 2 p l e ({ frames := 3, cells := 0, slots := 0, locals := 69 } : Room) s m ([.ref (ad 0)] : List Value).toArray below meth c 0 0 (MQ below (va_Qv (fun u' => u' = u) (goPost (Xw ad ca) D vwCl (Xtys ca) A) A) ([.ref (ad 0)] : List Value).toArray s 0 0 A) 31 [(0, .ref (ad 0)), (1, .int v1)] [] st := by
    intro n
    induction n with
    | zero => intro v1 st h; cases h
    | succ n ih =>
      intro v1 st h
      unfold fX_ValueMachine_sweepIfFull_L31 at h
      refine Go.iload_n hx hb 1 rfl d_VM_sweepIfFull_31 ?_
      refine Go.aload_n hx hb 0 rfl d_VM_sweepIfFull_32 ?_
      refine Go.get (v := .ref (ad 4)) hx hb hts in_VM hown hK 0 (Xw_0 ad ca _) rfl 1 (by decide) (hts _ k_171) (fun _ h9 => h9) rfl d_VM_sweepIfFull_33 ?_
      refine Go.get (v := .int (gI st 1)) hx hb hts in_ValueStack hown hK 4 (Xw_4 ad ca _) rfl 1 (by decide) (hts _ k_108) (fun _ h9 => h9) rfl d_VM_sweepIfFull_36 ?_
      refine Go.icmp_ge (tgt := 63) hx hb d_VM_sweepIfFull_39 rfl (fun c39 => ?_) (fun c39 => ?_)
      · replace h := (if_pos c39).symm.trans h
        refine Go.iconst (v := 0) hx hb (by decide) d_VM_sweepIfFull_63 ?_
        refine Go.istore_n (i := 1) (lv' := [(1, .int 0), (0, .ref (ad 0))]) hx hb rfl (Nat.le_of_ble_eq_true rfl) rfl d_VM_sweepIfFull_64 ?_
        refine Go.sub [1, 0] rfl ?_
        exact L65 N _ _ h
      · replace h := (if_neg c39).symm.trans h
        refine Go.aload_n hx hb 0 rfl d_VM_sweepIfFull_42 ?_
        refine Go.get (v := .ref (ad 9)) hx hb hts in_VM hown hK 0 (Xw_0 ad ca _) rfl 3 (by decide) (hts _ k_173) (fun _ h9 => h9) rfl d_VM_sweepIfFull_43 ?_
        refine Go.aload_n hx hb 0 rfl d_VM_sweepIfFull_46 ?_
        refine Go.get (v := .ref (ad 4)) hx hb hts in_VM hown hK 0 (Xw_0 ad ca _) rfl 1 (by decide) (hts _ k_171) (fun _ h9 => h9) rfl d_VM_sweepIfFull_47 ?_
        refine Go.iload_n hx hb 1 rfl d_VM_sweepIfFull_50 ?_
        obtain ⟨r6, s6, q6, h⟩ := gb_some h
        refine Go.callVl S hK hA 4 (Xw_4 ad ca _) rfl (fun sz9 => m_ValueStack_at l D ad ca N _ sz9 _ r6 s6 q6) (cwV 1 hts (gwV k_242 k_243 k_244 k_64 k_245) rfl rfl rfl (by decide +kernel) ⟨Nat.le_of_ble_eq_true rfl, Nat.le_of_ble_eq_true rfl⟩) rfl rfl (Nat.le_of_ble_eq_true rfl) ⟨Nat.zero_le _, Nat.zero_le _⟩ d_VM_sweepIfFull_51 ?_
        obtain ⟨_, s7, q7, h⟩ := gb_some h
        refine Go.callVv S hK hA 9 (Xw_9 ad ca _) rfl (fun sz9 => m_Store_reach l D ad ca N _ sz9 _ _ s7 q7) (cwV 1 hts (gwV k_522 k_523 k_524 k_66 k_525) rfl rfl rfl (by decide +kernel) ⟨Nat.le_of_ble_eq_true rfl, Nat.le_of_ble_eq_true rfl⟩) rfl rfl (Nat.le_of_ble_eq_true rfl) ⟨Nat.zero_le _, Nat.zero_le _⟩ d_VM_sweepIfFull_54 ?_
        refine Go.iinc (v := v1 + 1) (lv' := [(1, .int (v1 + 1)), (0, .ref (ad 0))]) hx hb 1 rfl rfl (Nat.le_of_ble_eq_true rfl) rfl d_VM_sweepIfFull_57 ?_
        refine Go.goto (tgt := 31) hx hb d_VM_sweepIfFull_60 rfl ?_
        refine Go.sub [1, 0] rfl ?_
        exact ih _ _ h
  refine Go.aload_n hx hb 0 rfl d_VM_sweepIfFull_0 ?_
  refine Go.get (v := .ref (ad 9)) hx hb hts in_VM hown hK 0 (Xw_0 ad ca _) rfl 3 (by decide) (hts _ k_173) (fun _ h9 => h9) rfl d_VM_sweepIfFull_1 ?_
  obtain ⟨r1, s1, q1, h⟩ := gb_some h
  refine Go.callVi S hK hA 9 (Xw_9 ad ca _) rfl (fun sz9 => m_Store_isFull l D ad ca N _ sz9 r1 s1 q1) (cwV 0 hts (gwV k_514 k_515 k_516 k_66 k_517) rfl rfl rfl (by decide +kernel) ⟨Nat.le_of_ble_eq_true rfl, Nat.le_of_ble_eq_true rfl⟩) rfl rfl (Nat.le_of_ble_eq_true rfl) ⟨Nat.zero_le _, Nat.zero_le _⟩ d_VM_sweepIfFull_4 ?_
  refine Go.if_ne (tgt := 11) hx hb d_VM_sweepIfFull_7 rfl (fun c7 => ?_) (fun c7 => ?_)
  · replace h := (if_neg c7).symm.trans h
    refine Go.aload_n hx hb 0 rfl d_VM_sweepIfFull_11 ?_
    refine Go.get (v := .ref (ad 9)) hx hb hts in_VM hown hK 0 (Xw_0 ad ca _) rfl 3 (by decide) (hts _ k_173) (fun _ h9 => h9) rfl d_VM_sweepIfFull_12 ?_
    obtain ⟨_, s2, q2, h⟩ := gb_some h
    refine Go.callVv S hK hA 9 (Xw_9 ad ca _) rfl (fun sz9 => m_Store_beginSweep l D ad ca N _ sz9 _ s2 q2) (cwV 0 hts (gwV k_518 k_519 k_520 k_66 k_521) rfl rfl rfl (by decide +kernel) ⟨Nat.le_of_ble_eq_true rfl, Nat.le_of_ble_eq_true rfl⟩) rfl rfl (Nat.le_of_ble_eq_true rfl) ⟨Nat.zero_le _, Nat.zero_le _⟩ d_VM_sweepIfFull_15 ?_
    refine Go.aload_n hx hb 0 rfl d_VM_sweepIfFull_18 ?_
    refine Go.get (v := .ref (ad 9)) hx hb hts in_VM hown hK 0 (Xw_0 ad ca _) rfl 3 (by decide) (hts _ k_173) (fun _ h9 => h9) rfl d_VM_sweepIfFull_19 ?_
    refine Go.aload_n hx hb 0 rfl d_VM_sweepIfFull_22 ?_
    refine Go.get (v := .long (gL s2 0)) hx hb hts in_VM hown hK 0 (Xw_0 ad ca _) rfl 5 (by decide) (hts _ k_175) (fun _ h9 => h9) rfl d_VM_sweepIfFull_23 ?_
    obtain ⟨_, s3, q3, h⟩ := gb_some h
    refine Go.callVv S hK hA 9 (Xw_9 ad ca _) rfl (fun sz9 => m_Store_reach l D ad ca N _ sz9 _ _ s3 q3) (cwV 1 hts (gwV k_522 k_523 k_524 k_66 k_525) rfl rfl rfl (by decide +kernel) ⟨Nat.le_of_ble_eq_true rfl, Nat.le_of_ble_eq_true rfl⟩) rfl rfl (Nat.le_of_ble_eq_true rfl) ⟨Nat.zero_le _, Nat.zero_le _⟩ d_VM_sweepIfFull_26 ?_
    refine Go.iconst (v := 0) hx hb (by decide) d_VM_sweepIfFull_29 ?_
    refine Go.istore_n (i := 1) (lv' := [(1, .int 0), (0, .ref (ad 0))]) hx hb rfl (Nat.le_of_ble_eq_true rfl) rfl d_VM_sweepIfFull_30 ?_
    refine Go.sub [1, 0] rfl ?_
    exact L31 N _ _ h
  · replace h := (if_pos c7).symm.trans h
    exact Go.vret hx hb hr hK hlk h d_VM_sweepIfFull_10
set_option maxHeartbeats 4000000 in
set_option maxRecDepth 100000 in
theorem m_Store_freeRow (l : Launch) (D : va_G) (ad : Nat → Nat) (ca : Nat → ClassId) (N : Nat) (st : SG) (sz : Nat) (r : Int32) (u : SG) (h : fX_Store_freeRow N st = some (r, u)) : Met l y_Store_freeRow (Cond.code y_Store_freeRow c_Store_freeRow 2 (some .int) :: tbl) ({ frames := 0, cells := 0, slots := 0, locals := 0 } : Room) (va_Pc [.ref (ad 9)] (goPre (Xw ad ca) D vwCl (Xtys ca) sz st)) (va_Qi (fun r' u' => r' = r ∧ u' = u) (goPost (Xw ad ca) D vwCl (Xtys ca) (va_A (Xw ad ca st) sz)) (va_A (Xw ad ca st) sz)) 0 0 (va_A (Xw ad ca st) sz) := by
  refine go_met (Qc := fun A9 => va_Qi (fun r' u' => r' = r ∧ u' = u) (goPost (Xw ad ca) D vwCl (Xtys ca) A9) A9) (cc := c_Store_freeRow) (maxL := 2) (ret := (some .int)) [(0, .ref (ad 9))] (by decide) rfl (Nat.le_of_ble_eq_true rfl) rfl ?_
  intro p e s m below meth c A S hr hlk hK hA hsz
  obtain ⟨hx, hb, hml, hown, hts⟩ := id S
  unfold fX_Store_freeRow at h
  have L2 : ∀ (n : Nat) (v1 : Int32) (st : SG), fX_Store_freeRow_L2 N n v1 st = some (r, u) → Go (Xw ad ca) D vwCl A s.heap 2 p l e ({ frames := 0, cells := 0, slots := 0, locals := 0 } : Room) s m ([.ref (ad 9)] : List Value).toArray below meth c 0 0 (MQ below (va_Qi (fun r' u' => r' = r ∧ u' = u) (goPost (Xw ad ca) D vwCl (Xtys ca) A) A) ([.ref (ad 9)] : List Value).toArray s 0 0 A) 2 [(0, .ref (ad 9)), (1, .int v1)] [] st := by
    intro n
    induction n with
    | zero => intro v1 st h; cases h
    | succ n ih =>
      intro v1 st h
      unfold fX_Store_freeRow_L2 at h
      refine Go.iload_n hx hb 1 rfl d_Store_freeRow_2 ?_
      refine Go.bipush (v := 29) hx hb (by decide) d_Store_freeRow_3 ?_
      refine Go.icmp_ge (tgt := 23) hx hb d_Store_freeRow_5 rfl (fun c5 => ?_) (fun c5 => ?_)
      · replace h := (if_pos c5).symm.trans h
        refine Go.iload_n hx hb 1 rfl d_Store_freeRow_23 ?_
        exact Go.iret hx hb hr hK hlk h d_Store_freeRow_24
      · replace h := (if_neg c5).symm.trans h
        refine Go.aload_n hx hb 0 rfl d_Store_freeRow_8 ?_
        refine Go.get (v := .ref (ad 12)) hx hb hts in_Store hown hK 9 (Xw_9 ad ca _) rfl 2 (by decide) (hts _ k_140) (fun _ h9 => h9) rfl d_Store_freeRow_9 ?_
        refine Go.iload_n hx hb 1 rfl d_Store_freeRow_12 ?_
        obtain ⟨c13, h⟩ := gg_some h
        refine Go.zald (v := gA st 5 v1.toNatClampNeg) hx hb hK 12 7 (Xw_12 ad ca _) rfl c13 rfl d_Store_freeRow_13 ?_
        refine Go.if_eq (tgt := 23) hx hb d_Store_freeRow_14 rfl (fun c14 => ?_) (fun c14 => ?_)
        · replace h := (if_pos c14).symm.trans h
          refine Go.iload_n hx hb 1 rfl d_Store_freeRow_23 ?_
          exact Go.iret hx hb hr hK hlk h d_Store_freeRow_24
        · replace h := (if_neg c14).symm.trans h
          refine Go.iinc (v := v1 + 1) (lv' := [(1, .int (v1 + 1)), (0, .ref (ad 9))]) hx hb 1 rfl rfl (Nat.le_of_ble_eq_true rfl) rfl d_Store_freeRow_17 ?_
          refine Go.goto (tgt := 2) hx hb d_Store_freeRow_20 rfl ?_
          refine Go.sub [1, 0] rfl ?_
          exact ih _ _ h
  refine Go.iconst (v := 0) hx hb (by decide) d_Store_freeRow_0 ?_
  refine Go.istore_n (i := 1) (lv' := [(1, .int 0), (0, .ref (ad 9))]) hx hb rfl (Nat.le_of_ble_eq_true rfl) rfl d_Store_freeRow_1 ?_
  refine Go.sub [1, 0] rfl ?_
  exact L2 N _ _ h
set_option maxHeartbeats 4000000 in
set_option maxRecDepth 100000 in
theorem m_Store_make (l : Launch) (D : va_G) (ad : Nat → Nat) (ca : Nat → ClassId) (N : Nat) (st : SG) (sz : Nat) (a0 : Int32) (a1 : Int32) (r : Int64) (u : SG) (h : fX_Store_make N st a0 a1 = some (r, u)) : Met l y_Store_make (Cond.code y_Store_make c_Store_make 6 (some .long) :: tbl) ({ frames := 1, cells := 0, slots := 0, locals := 21 } : Room) (va_Pc [.ref (ad 9), .int a0, .int a1] (goPre (Xw ad ca) D vwCl (Xtys ca) sz st)) (va_Ql (fun r' u' => r' = r ∧ u' = u) (goPost (Xw ad ca) D vwCl (Xtys ca) (va_A (Xw ad ca st) sz)) (va_A (Xw ad ca st) sz)) 0 0 (va_A (Xw ad ca st) sz) := by
  refine go_met (Qc := fun A9 => va_Ql (fun r' u' => r' = r ∧ u' = u) (goPost (Xw ad ca) D vwCl (Xtys ca) A9) A9) (cc := c_Store_make) (maxL := 6) (ret := (some .long)) [(0, .ref (ad 9)), (1, .int a0), (2, .int a1)] (by decide) rfl (Nat.le_of_ble_eq_true rfl) rfl ?_
  intro p e s m below meth c A S hr hlk hK hA hsz
  obtain ⟨hx, hb, hml, hown, hts⟩ := id S
  unfold fX_Store_make at h
  have L15 : ∀ (n : Nat) (v1 : Int32) (v2 : Int32) (v3 : Int32) (v4 : Int32) (v5 : Int32) (st : SG), fX_Store_make_L15 N n v1 v2 v3 v4 v5 st = some (r, u) → Go (Xw ad ca) D vwCl A s.heap 6 p l e ({ frames := 1, cells := 0, slots := 0, locals := 21 } : Room) s m ([.ref (ad 9), .int a0, .int a1] : List Value).toArray below meth c 0 0 (MQ below (va_Ql (fun r' u' => r' = r ∧ u' = u) (goPost (Xw ad ca) D vwCl (Xtys ca) A) A) ([.ref (ad 9), .int a0, .int a1] : List Value).toArray s 0 0 A) 15 [(0, .ref (ad 9)), (1, .int v1), (2, .int v2), (3, .int v3), (4, .int v4), (5, .int v5)] [] st := by
    intro n
    induction n with
    | zero => intro v1 v2 v3 v4 v5 st h; cases h
    | succ n ih =>
      intro v1 v2 v3 v4 v5 st h
      unfold fX_Store_make_L15 at h
      refine Go.iload hx hb 5 rfl d_Store_make_15 ?_
      refine Go.iload hx hb 4 rfl d_Store_make_17 ?_
      refine Go.iload_n hx hb 2 rfl d_Store_make_19 ?_
      refine Go.iadd hx hb d_Store_make_20 ?_
      refine Go.icmp_ge (tgt := 38) hx hb d_Store_make_21 rfl (fun c21 => ?_) (fun c21 => ?_)
      · replace h := (if_pos c21).symm.trans h
        refine Go.aload_n hx hb 0 rfl d_Store_make_38 ?_
        refine Go.get (v := .ref (ad 11)) hx hb hts in_Store hown hK 9 (Xw_9 ad ca _) rfl 1 (by decide) (hts _ k_139) (fun _ h9 => h9) rfl d_Store_make_39 ?_
        refine Go.iload_n hx hb 3 rfl d_Store_make_42 ?_
        refine Go.iload_n hx hb 2 rfl d_Store_make_43 ?_
        obtain ⟨c44, h⟩ := gg_some h
        refine Go.iast hx hb hK 11 6 (Xw_11 ad ca _) rfl c44 (uA st 4 (upd (gA st 4) v3.toNatClampNeg v2)) (Xs_A4 ad ca _ _) d_Store_make_44 ?_
        refine Go.aload_n hx hb 0 rfl d_Store_make_45 ?_
        refine Go.get (v := .ref (ad 12)) hx hb hts in_Store hown hK 9 (Xw_9 ad ca _) rfl 2 (by decide) (hts _ k_140) (fun _ h9 => h9) rfl d_Store_make_46 ?_
        refine Go.iload_n hx hb 3 rfl d_Store_make_49 ?_
        refine Go.iconst (v := 1) hx hb (by decide) d_Store_make_50 ?_
        obtain ⟨c51, h⟩ := gg_some h
        refine Go.zast hx hb hK 12 7 (Xw_12 ad ca _) rfl c51 (uA (uA st 4 (upd (gA st 4) v3.toNatClampNeg v2)) 5 (upd (gA st 5) v3.toNatClampNeg (vp_nar .boolean 1))) (Xs_A5 ad ca _ _) d_Store_make_51 ?_
        refine Go.aload_n hx hb 0 rfl d_Store_make_52 ?_
        refine Go.dup hx hb rfl d_Store_make_53 ?_
        refine Go.get (v := .int (gI st 4)) hx hb hts in_Store hown hK 9 (Xw_9 ad ca _) rfl 6 (by decide) (hts _ k_144) (fun _ h9 => h9) rfl d_Store_make_54 ?_
        refine Go.iconst (v := 1) hx hb (by decide) d_Store_make_57 ?_
        refine Go.iadd hx hb d_Store_make_58 ?_
        refine Go.put (ty := (.int)) hx hb hts in_Store ty_Store tyok_Store nm_Store hown hK 9 (Xw_9 ad ca _) rfl 6 (by decide) (hts _ k_144) (fun _ h9 => h9) rfl (by decide +kernel) rfl rfl (Nat.le_of_ble_eq_true rfl) (uI (uA (uA st 4 (upd (gA st 4) v3.toNatClampNeg v2)) 5 (upd (gA st 5) v3.toNatClampNeg (vp_nar .boolean 1))) 4 ((gI st 4) + 1)) (Xs_I4 ad ca _ _) d_Store_make_59 ?_
        refine Go.aload_n hx hb 0 rfl d_Store_make_62 ?_
        refine Go.dup hx hb rfl d_Store_make_63 ?_
        refine Go.get (v := .int (gI st 5)) hx hb hts in_Store hown hK 9 (Xw_9 ad ca _) rfl 7 (by decide) (hts _ k_146) (fun _ h9 => h9) rfl d_Store_make_64 ?_
        refine Go.iconst (v := 1) hx hb (by decide) d_Store_make_67 ?_
        refine Go.iadd hx hb d_Store_make_68 ?_
        refine Go.put (ty := (.int)) hx hb hts in_Store ty_Store tyok_Store nm_Store hown hK 9 (Xw_9 ad ca _) rfl 7 (by decide) (hts _ k_146) (fun _ h9 => h9) rfl (by decide +kernel) rfl rfl (Nat.le_of_ble_eq_true rfl) (uI (uI (uA (uA st 4 (upd (gA st 4) v3.toNatClampNeg v2)) 5 (upd (gA st 5) v3.toNatClampNeg (vp_nar .boolean 1))) 4 ((gI st 4) + 1)) 5 ((gI st 5) + 1)) (Xs_I5 ad ca _ _) d_Store_make_69 ?_
        refine Go.iload_n hx hb 1 rfl d_Store_make_72 ?_
        refine Go.iload_n hx hb 3 rfl d_Store_make_73 ?_
        obtain ⟨r2, s2, q2, h⟩ := gb_some h
        refine Go.callSl S hK hA (fun sz9 => m_Value_of l D ad ca N _ sz9 _ _ r2 s2 q2) (va_cwS 2 hts (gwS k_540 k_394 k_72 k_395) rfl rfl rfl (by decide +kernel) ⟨Nat.le_of_ble_eq_true rfl, Nat.le_of_ble_eq_true rfl⟩) rfl rfl (Nat.le_of_ble_eq_true rfl) ⟨Nat.zero_le _, Nat.zero_le _⟩ d_Store_make_74 ?_
        exact Go.lret hx hb hr hK hlk h d_Store_make_77
      · replace h := (if_neg c21).symm.trans h
        refine Go.aload_n hx hb 0 rfl d_Store_make_24 ?_
        refine Go.get (v := .ref (ad 10)) hx hb hts in_Store hown hK 9 (Xw_9 ad ca _) rfl 0 (by decide) (hts _ k_138) (fun _ h9 => h9) rfl d_Store_make_25 ?_
        refine Go.iload hx hb 5 rfl d_Store_make_28 ?_
        refine Go.lconst (v := 0) hx hb (by decide) d_Store_make_30 ?_
        obtain ⟨c31, h⟩ := gg_some h
        refine Go.last hx hb hK 10 5 (Xw_10 ad ca _) rfl c31 (uB st 1 (vp_updL (gB st 1) v5.toNatClampNeg 0)) (Xs_B1 ad ca _ _) d_Store_make_31 ?_
        refine Go.iinc (v := v5 + 1) (lv' := [(5, .int (v5 + 1)), (0, .ref (ad 9)), (1, .int v1), (2, .int v2), (3, .int v3), (4, .int v4)]) hx hb 5 rfl rfl (Nat.le_of_ble_eq_true rfl) rfl d_Store_make_32 ?_
        refine Go.goto (tgt := 15) hx hb d_Store_make_35 rfl ?_
        refine Go.sub [1, 2, 3, 4, 5, 0] rfl ?_
        exact ih _ _ _ _ _ _ h
  refine Go.aload_n hx hb 0 rfl d_Store_make_0 ?_
  obtain ⟨r1, s1, q1, h⟩ := gb_some h
  refine Go.callVi S hK hA 9 (Xw_9 ad ca _) rfl (fun sz9 => m_Store_freeRow l D ad ca N _ sz9 r1 s1 q1) (cwV 0 hts (gwV k_536 k_538 k_26 k_66 k_539) rfl rfl rfl (by decide +kernel) ⟨Nat.le_of_ble_eq_true rfl, Nat.le_of_ble_eq_true rfl⟩) rfl rfl (Nat.le_of_ble_eq_true rfl) ⟨Nat.zero_le _, Nat.zero_le _⟩ d_Store_make_1 ?_
  refine Go.istore_n (i := 3) (lv' := [(3, .int r1), (0, .ref (ad 9)), (1, .int a0), (2, .int a1)]) hx hb rfl (Nat.le_of_ble_eq_true rfl) rfl d_Store_make_4 ?_
  refine Go.iload_n hx hb 0 rfl d_Store_make_5 ?_
  refine Go.bipush (v := 20) hx hb (by decide) d_Store_make_6 ?_
  refine Go.imul hx hb d_Store_make_8 ?_
  refine Go.istore (i := 4) (lv' := [(4, .int (r1 * 20)), (3, .int r1), (0, .ref (ad 9)), (1, .int a0), (2, .int a1)]) hx hb (Nat.le_of_ble_eq_true rfl) rfl d_Store_make_9 ?_
  refine Go.iload hx hb 0 rfl d_Store_make_11 ?_
  refine Go.istore (i := 5) (lv' := [(5, .int (r1 * 20)), (4, .int (r1 * 20)), (3, .int r1), (0, .ref (ad 9)), (1, .int a0), (2, .int a1)]) hx hb (Nat.le_of_ble_eq_true rfl) rfl d_Store_make_13 ?_
  refine Go.sub [3, 4, 5, 2, 1, 0] rfl ?_
  exact L15 N _ _ _ _ _ _ h
set_option maxHeartbeats 4000000 in
set_option maxRecDepth 100000 in
theorem m_VM_makeObject (l : Launch) (D : va_G) (ad : Nat → Nat) (ca : Nat → ClassId) (N : Nat) (st : SG) (sz : Nat) (r : Int32) (u : SG) (h : fX_ValueMachine_makeObject N st = some (r, u)) : Met l y_VM_makeObject (Cond.code y_VM_makeObject c_VM_makeObject 1 (some .int) :: tbl) ({ frames := 4, cells := 0, slots := 0, locals := 90 } : Room) (va_Pc [.ref (ad 0)] (goPre (Xw ad ca) D vwCl (Xtys ca) sz st)) (va_Qi (fun r' u' => r' = r ∧ u' = u) (goPost (Xw ad ca) D vwCl (Xtys ca) (va_A (Xw ad ca st) sz)) (va_A (Xw ad ca st) sz)) 0 0 (va_A (Xw ad ca st) sz) := by
  refine go_met (Qc := fun A9 => va_Qi (fun r' u' => r' = r ∧ u' = u) (goPost (Xw ad ca) D vwCl (Xtys ca) A9) A9) (cc := c_VM_makeObject) (maxL := 1) (ret := (some .int)) [(0, .ref (ad 0))] (by decide) rfl (Nat.le_of_ble_eq_true rfl) rfl ?_
  intro p e s m below meth c A S hr hlk hK hA hsz
  obtain ⟨hx, hb, hml, hown, hts⟩ := id S
  unfold fX_ValueMachine_makeObject at h
  refine Go.aload_n hx hb 0 rfl d_VM_makeObject_0 ?_
  obtain ⟨_, s1, q1, h⟩ := gb_some h
  refine Go.callVv S hK hA 0 (Xw_0 ad ca _) rfl (fun sz9 => m_VM_sweepIfFull l D ad ca N _ sz9 _ s1 q1) (cwV 0 hts (gwV k_510 k_512 k_25 k_62 k_513) rfl rfl rfl (by decide +kernel) ⟨Nat.le_of_ble_eq_true rfl, Nat.le_of_ble_eq_true rfl⟩) rfl rfl (Nat.le_of_ble_eq_true rfl) ⟨Nat.zero_le _, Nat.zero_le _⟩ d_VM_makeObject_1 ?_
  refine Go.aload_n hx hb 0 rfl d_VM_makeObject_4 ?_
  refine Go.get (v := .ref (ad 9)) hx hb hts in_VM hown hK 0 (Xw_0 ad ca _) rfl 3 (by decide) (hts _ k_173) (fun _ h9 => h9) rfl d_VM_makeObject_5 ?_
  obtain ⟨r2, s2, q2, h⟩ := gb_some h
  refine Go.callVi S hK hA 9 (Xw_9 ad ca _) rfl (fun sz9 => m_Store_isFull l D ad ca N _ sz9 r2 s2 q2) (cwV 0 hts (gwV k_514 k_515 k_516 k_66 k_517) rfl rfl rfl (by decide +kernel) ⟨Nat.le_of_ble_eq_true rfl, Nat.le_of_ble_eq_true rfl⟩) rfl rfl (Nat.le_of_ble_eq_true rfl) ⟨Nat.zero_le _, Nat.zero_le _⟩ d_VM_makeObject_8 ?_
  refine Go.if_eq (tgt := 17) hx hb d_VM_makeObject_11 rfl (fun c11 => ?_) (fun c11 => ?_)
  · replace h := (if_pos c11).symm.trans h
    refine Go.aload_n hx hb 0 rfl d_VM_makeObject_17 ?_
    refine Go.aload_n hx hb 0 rfl d_VM_makeObject_18 ?_
    refine Go.get (v := .ref (ad 9)) hx hb hts in_VM hown hK 0 (Xw_0 ad ca _) rfl 3 (by decide) (hts _ k_173) (fun _ h9 => h9) rfl d_VM_makeObject_19 ?_
    refine Go.iconst (v := 4) hx hb (by decide) d_VM_makeObject_22 ?_
    refine Go.bipush (v := 16) hx hb (by decide) d_VM_makeObject_23 ?_
    obtain ⟨r3, s3, q3, h⟩ := gb_some h
    refine Go.callVl S hK hA 9 (Xw_9 ad ca _) rfl (fun sz9 => m_Store_make l D ad ca N _ sz9 _ _ r3 s3 q3) (cwV 2 hts (gwV k_532 k_533 k_534 k_66 k_535) rfl rfl rfl (by decide +kernel) ⟨Nat.le_of_ble_eq_true rfl, Nat.le_of_ble_eq_true rfl⟩) rfl rfl (Nat.le_of_ble_eq_true rfl) ⟨Nat.zero_le _, Nat.zero_le _⟩ d_VM_makeObject_25 ?_
    obtain ⟨r4, s4, q4, h⟩ := gb_some h
    refine Go.callVi S hK hA 0 (Xw_0 ad ca _) rfl (fun sz9 => m_VM_accept l D ad ca N _ sz9 _ r4 s4 q4) (cwV 1 hts (gwV k_384 k_386 k_4 k_62 k_387) rfl rfl rfl (by decide +kernel) ⟨Nat.le_of_ble_eq_true rfl, Nat.le_of_ble_eq_true rfl⟩) rfl rfl (Nat.le_of_ble_eq_true rfl) ⟨Nat.zero_le _, Nat.zero_le _⟩ d_VM_makeObject_28 ?_
    exact Go.iret hx hb hr hK hlk h d_VM_makeObject_31
  · replace h := (if_neg c11).symm.trans h
    refine Go.bipush (v := 6) hx hb (by decide) d_VM_makeObject_14 ?_
    exact Go.iret hx hb hr hK hlk h d_VM_makeObject_16
set_option maxHeartbeats 4000000 in
set_option maxRecDepth 100000 in
theorem m_VM_makeArray (l : Launch) (D : va_G) (ad : Nat → Nat) (ca : Nat → ClassId) (N : Nat) (st : SG) (sz : Nat) (a0 : Int32) (r : Int32) (u : SG) (h : fX_ValueMachine_makeArray N st a0 = some (r, u)) : Met l y_VM_makeArray (Cond.code y_VM_makeArray c_VM_makeArray 5 (some .int) :: tbl) ({ frames := 4, cells := 0, slots := 0, locals := 90 } : Room) (va_Pc [.ref (ad 0), .int a0] (goPre (Xw ad ca) D vwCl (Xtys ca) sz st)) (va_Qi (fun r' u' => r' = r ∧ u' = u) (goPost (Xw ad ca) D vwCl (Xtys ca) (va_A (Xw ad ca st) sz)) (va_A (Xw ad ca st) sz)) 0 0 (va_A (Xw ad ca st) sz) := by
  refine go_met (Qc := fun A9 => va_Qi (fun r' u' => r' = r ∧ u' = u) (goPost (Xw ad ca) D vwCl (Xtys ca) A9) A9) (cc := c_VM_makeArray) (maxL := 5) (ret := (some .int)) [(0, .ref (ad 0)), (1, .int a0)] (by decide) rfl (Nat.le_of_ble_eq_true rfl) rfl ?_
  intro p e s m below meth c A S hr hlk hK hA hsz
  obtain ⟨hx, hb, hml, hown, hts⟩ := id S
  unfold fX_ValueMachine_makeArray at h
  have L51 : ∀ (n : Nat) (v1 : Int32) (v2 : Int64) (v4 : Int32) (st : SG), fX_ValueMachine_makeArray_L51 N n v1 v2 v4 st = some (r, u) → Go (Xw ad ca) D vwCl A s.heap 5 p l e ({ frames := 4, cells := 0, slots := 0, locals := 90 } : Room) s m ([.ref (ad 0), .int a0] : List Value).toArray below meth c 0 0 (MQ below (va_Qi (fun r' u' => r' = r ∧ u' = u) (goPost (Xw ad ca) D vwCl (Xtys ca) A) A) ([.ref (ad 0), .int a0] : List Value).toArray s 0 0 A) 51 [(0, .ref (ad 0)), (1, .int v1), (2, .long v2), (4, .int v4)] [] st := by
    intro n
    induction n with
    | zero => intro v1 v2 v4 st h; cases h
    | succ n ih =>
      intro v1 v2 v4 st h
      unfold fX_ValueMachine_makeArray_L51 at h
      refine Go.iload hx hb 3 rfl d_VM_makeArray_51 ?_
      refine Go.iload_n hx hb 1 rfl d_VM_makeArray_53 ?_
      refine Go.icmp_ge (tgt := 86) hx hb d_VM_makeArray_54 rfl (fun c54 => ?_) (fun c54 => ?_)
      · replace h := (if_pos c54).symm.trans h
        refine Go.aload_n hx hb 0 rfl d_VM_makeArray_86 ?_
        refine Go.get (v := .ref (ad 4)) hx hb hts in_VM hown hK 0 (Xw_0 ad ca _) rfl 1 (by decide) (hts _ k_171) (fun _ h9 => h9) rfl d_VM_makeArray_87 ?_
        refine Go.iload_n hx hb 1 rfl d_VM_makeArray_90 ?_
        obtain ⟨_, s5, q5, h⟩ := gb_some h
        refine Go.callVv S hK hA 4 (Xw_4 ad ca _) rfl (fun sz9 => m_ValueStack_drop l D ad ca N _ sz9 _ _ s5 q5) (cwV 1 hts (gwV k_425 k_426 k_427 k_64 k_428) rfl rfl rfl (by decide +kernel) ⟨Nat.le_of_ble_eq_true rfl, Nat.le_of_ble_eq_true rfl⟩) rfl rfl (Nat.le_of_ble_eq_true rfl) ⟨Nat.zero_le _, Nat.zero_le _⟩ d_VM_makeArray_91 ?_
        refine Go.aload_n hx hb 0 rfl d_VM_makeArray_94 ?_
        refine Go.lload_n hx hb 2 rfl d_VM_makeArray_95 ?_
        obtain ⟨r6, s6, q6, h⟩ := gb_some h
        refine Go.callVi S hK hA 0 (Xw_0 ad ca _) rfl (fun sz9 => m_VM_accept l D ad ca N _ sz9 _ r6 s6 q6) (cwV 1 hts (gwV k_384 k_386 k_4 k_62 k_387) rfl rfl rfl (by decide +kernel) ⟨Nat.le_of_ble_eq_true rfl, Nat.le_of_ble_eq_true rfl⟩) rfl rfl (Nat.le_of_ble_eq_true rfl) ⟨Nat.zero_le _, Nat.zero_le _⟩ d_VM_makeArray_96 ?_
        exact Go.iret hx hb hr hK hlk h d_VM_makeArray_99
      · replace h := (if_neg c54).symm.trans h
        refine Go.aload_n hx hb 0 rfl d_VM_makeArray_57 ?_
        refine Go.get (v := .ref (ad 9)) hx hb hts in_VM hown hK 0 (Xw_0 ad ca _) rfl 3 (by decide) (hts _ k_173) (fun _ h9 => h9) rfl d_VM_makeArray_58 ?_
        refine Go.lload_n hx hb 2 rfl d_VM_makeArray_61 ?_
        refine Go.iload hx hb 3 rfl d_VM_makeArray_62 ?_
        refine Go.aload_n hx hb 0 rfl d_VM_makeArray_64 ?_
        refine Go.get (v := .ref (ad 4)) hx hb hts in_VM hown hK 0 (Xw_0 ad ca _) rfl 1 (by decide) (hts _ k_171) (fun _ h9 => h9) rfl d_VM_makeArray_65 ?_
        refine Go.iload_n hx hb 1 rfl d_VM_makeArray_68 ?_
        refine Go.iconst (v := 1) hx hb (by decide) d_VM_makeArray_69 ?_
        refine Go.isub hx hb d_VM_makeArray_70 ?_
        refine Go.iload hx hb 3 rfl d_VM_makeArray_71 ?_
        refine Go.isub hx hb d_VM_makeArray_73 ?_
        obtain ⟨r7, s7, q7, h⟩ := gb_some h
        refine Go.callVl S hK hA 4 (Xw_4 ad ca _) rfl (fun sz9 => m_ValueStack_at l D ad ca N _ sz9 _ r7 s7 q7) (cwV 1 hts (gwV k_242 k_243 k_244 k_64 k_245) rfl rfl rfl (by decide +kernel) ⟨Nat.le_of_ble_eq_true rfl, Nat.le_of_ble_eq_true rfl⟩) rfl rfl (Nat.le_of_ble_eq_true rfl) ⟨Nat.zero_le _, Nat.zero_le _⟩ d_VM_makeArray_74 ?_
        obtain ⟨_, s8, q8, h⟩ := gb_some h
        refine Go.callVv S hK hA 9 (Xw_9 ad ca _) rfl (fun sz9 => m_Store_setPart l D ad ca N _ sz9 _ _ _ _ s8 q8) (cwV 3 hts (gwV k_449 k_450 k_451 k_66 k_452) rfl rfl rfl (by decide +kernel) ⟨Nat.le_of_ble_eq_true rfl, Nat.le_of_ble_eq_true rfl⟩) rfl rfl (Nat.le_of_ble_eq_true rfl) ⟨Nat.zero_le _, Nat.zero_le _⟩ d_VM_makeArray_77 ?_
        refine Go.iinc (v := v4 + 1) (lv' := [(4, .int (v4 + 1)), (0, .ref (ad 0)), (1, .int v1), (2, .long v2)]) hx hb 3 rfl rfl (Nat.le_of_ble_eq_true rfl) rfl d_VM_makeArray_80 ?_
        refine Go.goto (tgt := 51) hx hb d_VM_makeArray_83 rfl ?_
        refine Go.sub [1, 2, 3, 0] rfl ?_
        exact ih _ _ _ _ h
  refine Go.aload_n hx hb 0 rfl d_VM_makeArray_0 ?_
  refine Go.get (v := .ref (ad 4)) hx hb hts in_VM hown hK 0 (Xw_0 ad ca _) rfl 1 (by decide) (hts _ k_171) (fun _ h9 => h9) rfl d_VM_makeArray_1 ?_
  refine Go.iload_n hx hb 1 rfl d_VM_makeArray_4 ?_
  obtain ⟨r1, s1, q1, h⟩ := gb_some h
  refine Go.callVi S hK hA 4 (Xw_4 ad ca _) rfl (fun sz9 => m_ValueStack_holds l D ad ca N _ sz9 _ r1 s1 q1) (cwV 1 hts (gwV k_413 k_414 k_415 k_64 k_416) rfl rfl rfl (by decide +kernel) ⟨Nat.le_of_ble_eq_true rfl, Nat.le_of_ble_eq_true rfl⟩) rfl rfl (Nat.le_of_ble_eq_true rfl) ⟨Nat.zero_le _, Nat.zero_le _⟩ d_VM_makeArray_5 ?_
  refine Go.if_ne (tgt := 13) hx hb d_VM_makeArray_8 rfl (fun c8 => ?_) (fun c8 => ?_)
  · replace h := (if_neg c8).symm.trans h
    refine Go.iload_n hx hb 1 rfl d_VM_makeArray_13 ?_
    refine Go.bipush (v := 20) hx hb (by decide) d_VM_makeArray_14 ?_
    refine Go.icmp_le (tgt := 21) hx hb d_VM_makeArray_16 rfl (fun c16 => ?_) (fun c16 => ?_)
    · replace h := (if_pos c16).symm.trans h
      refine Go.aload_n hx hb 0 rfl d_VM_makeArray_21 ?_
      obtain ⟨_, s2, q2, h⟩ := gb_some h
      refine Go.callVv S hK hA 0 (Xw_0 ad ca _) rfl (fun sz9 => m_VM_sweepIfFull l D ad ca N _ sz9 _ s2 q2) (cwV 0 hts (gwV k_510 k_512 k_25 k_62 k_513) rfl rfl rfl (by decide +kernel) ⟨Nat.le_of_ble_eq_true rfl, Nat.le_of_ble_eq_true rfl⟩) rfl rfl (Nat.le_of_ble_eq_true rfl) ⟨Nat.zero_le _, Nat.zero_le _⟩ d_VM_makeArray_22 ?_
      refine Go.aload_n hx hb 0 rfl d_VM_makeArray_25 ?_
      refine Go.get (v := .ref (ad 9)) hx hb hts in_VM hown hK 0 (Xw_0 ad ca _) rfl 3 (by decide) (hts _ k_173) (fun _ h9 => h9) rfl d_VM_makeArray_26 ?_
      obtain ⟨r3, s3, q3, h⟩ := gb_some h
      refine Go.callVi S hK hA 9 (Xw_9 ad ca _) rfl (fun sz9 => m_Store_isFull l D ad ca N _ sz9 r3 s3 q3) (cwV 0 hts (gwV k_514 k_515 k_516 k_66 k_517) rfl rfl rfl (by decide +kernel) ⟨Nat.le_of_ble_eq_true rfl, Nat.le_of_ble_eq_true rfl⟩) rfl rfl (Nat.le_of_ble_eq_true rfl) ⟨Nat.zero_le _, Nat.zero_le _⟩ d_VM_makeArray_29 ?_
      refine Go.if_eq (tgt := 38) hx hb d_VM_makeArray_32 rfl (fun c32 => ?_) (fun c32 => ?_)
      · replace h := (if_pos c32).symm.trans h
        refine Go.aload_n hx hb 0 rfl d_VM_makeArray_38 ?_
        refine Go.get (v := .ref (ad 9)) hx hb hts in_VM hown hK 0 (Xw_0 ad ca _) rfl 3 (by decide) (hts _ k_173) (fun _ h9 => h9) rfl d_VM_makeArray_39 ?_
        refine Go.iconst (v := 5) hx hb (by decide) d_VM_makeArray_42 ?_
        refine Go.iload_n hx hb 1 rfl d_VM_makeArray_43 ?_
        obtain ⟨r4, s4, q4, h⟩ := gb_some h
        refine Go.callVl S hK hA 9 (Xw_9 ad ca _) rfl (fun sz9 => m_Store_make l D ad ca N _ sz9 _ _ r4 s4 q4) (cwV 2 hts (gwV k_532 k_533 k_534 k_66 k_535) rfl rfl rfl (by decide +kernel) ⟨Nat.le_of_ble_eq_true rfl, Nat.le_of_ble_eq_true rfl⟩) rfl rfl (Nat.le_of_ble_eq_true rfl) ⟨Nat.zero_le _, Nat.zero_le _⟩ d_VM_makeArray_44 ?_
        refine Go.lstore_n (i := 2) (lv' := [(2, .long r4), (0, .ref (ad 0)), (1, .int a0)]) hx hb rfl (Nat.le_of_ble_eq_true rfl) rfl d_VM_makeArray_47 ?_
        refine Go.iconst (v := 0) hx hb (by decide) d_VM_makeArray_48 ?_
        refine Go.istore (i := 4) (lv' := [(4, .int 0), (2, .long r4), (0, .ref (ad 0)), (1, .int a0)]) hx hb (Nat.le_of_ble_eq_true rfl) rfl d_VM_makeArray_49 ?_
        refine Go.sub [2, 3, 1, 0] rfl ?_
        exact L51 N _ _ _ _ h
      · replace h := (if_neg c32).symm.trans h
        refine Go.bipush (v := 6) hx hb (by decide) d_VM_makeArray_35 ?_
        exact Go.iret hx hb hr hK hlk h d_VM_makeArray_37
    · replace h := (if_neg c16).symm.trans h
      refine Go.iconst (v := 2) hx hb (by decide) d_VM_makeArray_19 ?_
      exact Go.iret hx hb hr hK hlk h d_VM_makeArray_20
  · replace h := (if_pos c8).symm.trans h
    refine Go.iconst (v := 3) hx hb (by decide) d_VM_makeArray_11 ?_
    exact Go.iret hx hb hr hK hlk h d_VM_makeArray_12
set_option maxHeartbeats 4000000 in
set_option maxRecDepth 100000 in
theorem m_VM_makeFunction (l : Launch) (D : va_G) (ad : Nat → Nat) (ca : Nat → ClassId) (N : Nat) (st : SG) (sz : Nat) (a0 : Int32) (r : Int32) (u : SG) (h : fX_ValueMachine_makeFunction N st a0 = some (r, u)) : Met l y_VM_makeFunction (Cond.code y_VM_makeFunction c_VM_makeFunction 2 (some .int) :: tbl) ({ frames := 1, cells := 0, slots := 0, locals := 22 } : Room) (va_Pc [.ref (ad 0), .int a0] (goPre (Xw ad ca) D vwCl (Xtys ca) sz st)) (va_Qi (fun r' u' => r' = r ∧ u' = u) (goPost (Xw ad ca) D vwCl (Xtys ca) (va_A (Xw ad ca st) sz)) (va_A (Xw ad ca st) sz)) 0 0 (va_A (Xw ad ca st) sz) := by
  refine go_met (Qc := fun A9 => va_Qi (fun r' u' => r' = r ∧ u' = u) (goPost (Xw ad ca) D vwCl (Xtys ca) A9) A9) (cc := c_VM_makeFunction) (maxL := 2) (ret := (some .int)) [(0, .ref (ad 0)), (1, .int a0)] (by decide) rfl (Nat.le_of_ble_eq_true rfl) rfl ?_
  intro p e s m below meth c A S hr hlk hK hA hsz
  obtain ⟨hx, hb, hml, hown, hts⟩ := id S
  unfold fX_ValueMachine_makeFunction at h
  refine Go.iload_n hx hb 1 rfl d_VM_makeFunction_0 ?_
  refine Go.if_lt (tgt := 18) hx hb d_VM_makeFunction_1 rfl (fun c1 => ?_) (fun c1 => ?_)
  · replace h := (if_pos c1).symm.trans h
    refine Go.bipush (v := 8) hx hb (by decide) d_VM_makeFunction_18 ?_
    exact Go.iret hx hb hr hK hlk h d_VM_makeFunction_20
  · replace h := (if_neg c1).symm.trans h
    refine Go.aload_n hx hb 0 rfl d_VM_makeFunction_4 ?_
    refine Go.get (v := .ref (ad 1)) hx hb hts in_VM hown hK 0 (Xw_0 ad ca _) rfl 0 (by decide) (hts _ k_170) (fun _ h9 => h9) rfl d_VM_makeFunction_5 ?_
    refine Go.iload_n hx hb 1 rfl d_VM_makeFunction_8 ?_
    refine Go.bipush (v := 8) hx hb (by decide) d_VM_makeFunction_9 ?_
    refine Go.idiv hx hb (by decide) d_VM_makeFunction_11 ?_
    obtain ⟨r1, s1, q1, h⟩ := gb_some h
    refine Go.callVi S hK hA 1 (Xw_1 ad ca _) rfl (fun sz9 => m_Code_hasPlace l D ad ca N _ sz9 _ r1 s1 q1) (cwV 1 hts (gwV k_477 k_478 k_479 k_63 k_480) rfl rfl rfl (by decide +kernel) ⟨Nat.le_of_ble_eq_true rfl, Nat.le_of_ble_eq_true rfl⟩) rfl rfl (Nat.le_of_ble_eq_true rfl) ⟨Nat.zero_le _, Nat.zero_le _⟩ d_VM_makeFunction_12 ?_
    refine Go.if_ne (tgt := 21) hx hb d_VM_makeFunction_15 rfl (fun c15 => ?_) (fun c15 => ?_)
    · replace h := (if_neg c15).symm.trans h
      refine Go.aload_n hx hb 0 rfl d_VM_makeFunction_21 ?_
      refine Go.bipush (v := 6) hx hb (by decide) d_VM_makeFunction_22 ?_
      refine Go.iload_n hx hb 1 rfl d_VM_makeFunction_24 ?_
      obtain ⟨r2, s2, q2, h⟩ := gb_some h
      refine Go.callSl S hK hA (fun sz9 => m_Value_of l D ad ca N _ sz9 _ _ r2 s2 q2) (va_cwS 2 hts (gwS k_549 k_394 k_72 k_395) rfl rfl rfl (by decide +kernel) ⟨Nat.le_of_ble_eq_true rfl, Nat.le_of_ble_eq_true rfl⟩) rfl rfl (Nat.le_of_ble_eq_true rfl) ⟨Nat.zero_le _, Nat.zero_le _⟩ d_VM_makeFunction_25 ?_
      obtain ⟨r3, s3, q3, h⟩ := gb_some h
      refine Go.callVi S hK hA 0 (Xw_0 ad ca _) rfl (fun sz9 => m_VM_accept l D ad ca N _ sz9 _ r3 s3 q3) (cwV 1 hts (gwV k_384 k_386 k_4 k_62 k_387) rfl rfl rfl (by decide +kernel) ⟨Nat.le_of_ble_eq_true rfl, Nat.le_of_ble_eq_true rfl⟩) rfl rfl (Nat.le_of_ble_eq_true rfl) ⟨Nat.zero_le _, Nat.zero_le _⟩ d_VM_makeFunction_28 ?_
      exact Go.iret hx hb hr hK hlk h d_VM_makeFunction_31
    · replace h := (if_pos c15).symm.trans h
      refine Go.bipush (v := 8) hx hb (by decide) d_VM_makeFunction_18 ?_
      exact Go.iret hx hb hr hK hlk h d_VM_makeFunction_20
set_option maxHeartbeats 4000000 in
set_option maxRecDepth 100000 in
theorem m_Notes_isFull (l : Launch) (D : va_G) (ad : Nat → Nat) (ca : Nat → ClassId) (N : Nat) (st : SG) (sz : Nat) (r : Int32) (u : SG) (h : fX_Notes_isFull N st = some (r, u)) : Met l y_Notes_isFull (Cond.code y_Notes_isFull c_Notes_isFull 1 (some .boolean) :: tbl) ({ frames := 0, cells := 0, slots := 0, locals := 0 } : Room) (va_Pc [.ref (ad 6)] (goPre (Xw ad ca) D vwCl (Xtys ca) sz st)) (va_Qi (fun r' u' => r' = r ∧ u' = u) (goPost (Xw ad ca) D vwCl (Xtys ca) (va_A (Xw ad ca st) sz)) (va_A (Xw ad ca st) sz)) 0 0 (va_A (Xw ad ca st) sz) := by
  refine go_met (Qc := fun A9 => va_Qi (fun r' u' => r' = r ∧ u' = u) (goPost (Xw ad ca) D vwCl (Xtys ca) A9) A9) (cc := c_Notes_isFull) (maxL := 1) (ret := (some .boolean)) [(0, .ref (ad 6))] (by decide) rfl (Nat.le_of_ble_eq_true rfl) rfl ?_
  intro p e s m below meth c A S hr hlk hK hA hsz
  obtain ⟨hx, hb, hml, hown, hts⟩ := id S
  unfold fX_Notes_isFull at h
  refine Go.aload_n hx hb 0 rfl d_Notes_isFull_0 ?_
  refine Go.get (v := .int (gI st 2)) hx hb hts in_Notes hown hK 6 (Xw_6 ad ca _) rfl 2 (by decide) (hts _ k_123) (fun _ h9 => h9) rfl d_Notes_isFull_1 ?_
  refine Go.bipush (v := 40) hx hb (by decide) d_Notes_isFull_4 ?_
  refine Go.icmp_lt (tgt := 13) hx hb d_Notes_isFull_6 rfl (fun c6 => ?_) (fun c6 => ?_)
  · replace h := (if_pos c6).symm.trans h
    refine Go.iconst (v := 0) hx hb (by decide) d_Notes_isFull_13 ?_
    exact Go.zret hx hb hr hK hlk rfl h d_Notes_isFull_14
  · replace h := (if_neg c6).symm.trans h
    refine Go.iconst (v := 1) hx hb (by decide) d_Notes_isFull_9 ?_
    refine Go.goto (tgt := 14) hx hb d_Notes_isFull_10 rfl ?_
    exact Go.zret hx hb hr hK hlk rfl h d_Notes_isFull_14
set_option maxHeartbeats 4000000 in
set_option maxRecDepth 100000 in
theorem m_Notes_add (l : Launch) (D : va_G) (ad : Nat → Nat) (ca : Nat → ClassId) (N : Nat) (st : SG) (sz : Nat) (a0 : Int32) (a1 : Int32) (r : Unit) (u : SG) (h : fX_Notes_add N st a0 a1 = some (r, u)) : Met l y_Notes_add (Cond.code y_Notes_add c_Notes_add 3 none :: tbl) ({ frames := 0, cells := 0, slots := 0, locals := 0 } : Room) (va_Pc [.ref (ad 6), .int a0, .int a1] (goPre (Xw ad ca) D vwCl (Xtys ca) sz st)) (va_Qv (fun u' => u' = u) (goPost (Xw ad ca) D vwCl (Xtys ca) (va_A (Xw ad ca st) sz)) (va_A (Xw ad ca st) sz)) 0 0 (va_A (Xw ad ca st) sz) := by
  refine go_met (Qc := fun A9 => va_Qv (fun u' => u' = u) (goPost (Xw ad ca) D vwCl (Xtys ca) A9) A9) (cc := c_Notes_add) (maxL := 3) (ret := none) [(0, .ref (ad 6)), (1, .int a0), (2, .int a1)] (by decide) rfl (Nat.le_of_ble_eq_true rfl) rfl ?_
  intro p e s m below meth c A S hr hlk hK hA hsz
  obtain ⟨hx, hb, hml, hown, hts⟩ := id S
  unfold fX_Notes_add at h
  refine Go.aload_n hx hb 0 rfl d_Notes_add_0 ?_
  refine Go.get (v := .ref (ad 7)) hx hb hts in_Notes hown hK 6 (Xw_6 ad ca _) rfl 0 (by decide) (hts _ k_121) (fun _ h9 => h9) rfl d_Notes_add_1 ?_
  refine Go.aload_n hx hb 0 rfl d_Notes_add_4 ?_
  refine Go.get (v := .int (gI st 2)) hx hb hts in_Notes hown hK 6 (Xw_6 ad ca _) rfl 2 (by decide) (hts _ k_123) (fun _ h9 => h9) rfl d_Notes_add_5 ?_
  refine Go.iload_n hx hb 1 rfl d_Notes_add_8 ?_
  obtain ⟨c9, h⟩ := gg_some h
  refine Go.iast hx hb hK 7 3 (Xw_7 ad ca _) rfl c9 (uA st 2 (upd (gA st 2) (gI st 2).toNatClampNeg a0)) (Xs_A2 ad ca _ _) d_Notes_add_9 ?_
  refine Go.aload_n hx hb 0 rfl d_Notes_add_10 ?_
  refine Go.get (v := .ref (ad 8)) hx hb hts in_Notes hown hK 6 (Xw_6 ad ca _) rfl 1 (by decide) (hts _ k_122) (fun _ h9 => h9) rfl d_Notes_add_11 ?_
  refine Go.aload_n hx hb 0 rfl d_Notes_add_14 ?_
  refine Go.get (v := .int (gI st 2)) hx hb hts in_Notes hown hK 6 (Xw_6 ad ca _) rfl 2 (by decide) (hts _ k_123) (fun _ h9 => h9) rfl d_Notes_add_15 ?_
  refine Go.iload_n hx hb 2 rfl d_Notes_add_18 ?_
  obtain ⟨c19, h⟩ := gg_some h
  refine Go.iast hx hb hK 8 4 (Xw_8 ad ca _) rfl c19 (uA (uA st 2 (upd (gA st 2) (gI st 2).toNatClampNeg a0)) 3 (upd (gA st 3) (gI st 2).toNatClampNeg a1)) (Xs_A3 ad ca _ _) d_Notes_add_19 ?_
  refine Go.aload_n hx hb 0 rfl d_Notes_add_20 ?_
  refine Go.dup hx hb rfl d_Notes_add_21 ?_
  refine Go.get (v := .int (gI st 2)) hx hb hts in_Notes hown hK 6 (Xw_6 ad ca _) rfl 2 (by decide) (hts _ k_123) (fun _ h9 => h9) rfl d_Notes_add_22 ?_
  refine Go.iconst (v := 1) hx hb (by decide) d_Notes_add_25 ?_
  refine Go.iadd hx hb d_Notes_add_26 ?_
  refine Go.put (ty := (.int)) hx hb hts in_Notes ty_Notes tyok_Notes nm_Notes hown hK 6 (Xw_6 ad ca _) rfl 2 (by decide) (hts _ k_123) (fun _ h9 => h9) rfl (by decide +kernel) rfl rfl (Nat.le_of_ble_eq_true rfl) (uI (uA (uA st 2 (upd (gA st 2) (gI st 2).toNatClampNeg a0)) 3 (upd (gA st 3) (gI st 2).toNatClampNeg a1)) 2 ((gI st 2) + 1)) (Xs_I2 ad ca _ _) d_Notes_add_27 ?_
  exact Go.vret hx hb hr hK hlk h d_Notes_add_30
set_option maxHeartbeats 4000000 in
set_option maxRecDepth 100000 in
theorem m_Notes_addCall (l : Launch) (D : va_G) (ad : Nat → Nat) (ca : Nat → ClassId) (N : Nat) (st : SG) (sz : Nat) (a0 : Int32) (r : Unit) (u : SG) (h : fX_Notes_addCall N st a0 = some (r, u)) : Met l y_Notes_addCall (Cond.code y_Notes_addCall c_Notes_addCall 2 none :: tbl) ({ frames := 1, cells := 0, slots := 0, locals := 22 } : Room) (va_Pc [.ref (ad 6), .int a0] (goPre (Xw ad ca) D vwCl (Xtys ca) sz st)) (va_Qv (fun u' => u' = u) (goPost (Xw ad ca) D vwCl (Xtys ca) (va_A (Xw ad ca st) sz)) (va_A (Xw ad ca st) sz)) 0 0 (va_A (Xw ad ca st) sz) := by
  refine go_met (Qc := fun A9 => va_Qv (fun u' => u' = u) (goPost (Xw ad ca) D vwCl (Xtys ca) A9) A9) (cc := c_Notes_addCall) (maxL := 2) (ret := none) [(0, .ref (ad 6)), (1, .int a0)] (by decide) rfl (Nat.le_of_ble_eq_true rfl) rfl ?_
  intro p e s m below meth c A S hr hlk hK hA hsz
  obtain ⟨hx, hb, hml, hown, hts⟩ := id S
  unfold fX_Notes_addCall at h
  refine Go.aload_n hx hb 0 rfl d_Notes_addCall_0 ?_
  refine Go.iload_n hx hb 1 rfl d_Notes_addCall_1 ?_
  refine Go.iconst (v := (-1)) hx hb (by decide) d_Notes_addCall_2 ?_
  obtain ⟨_, s1, q1, h⟩ := gb_some h
  refine Go.callVv S hK hA 6 (Xw_6 ad ca _) rfl (fun sz9 => m_Notes_add l D ad ca N _ sz9 _ _ _ s1 q1) (cwV 2 hts (gwV k_562 k_564 k_30 k_65 k_565) rfl rfl rfl (by decide +kernel) ⟨Nat.le_of_ble_eq_true rfl, Nat.le_of_ble_eq_true rfl⟩) rfl rfl (Nat.le_of_ble_eq_true rfl) ⟨Nat.zero_le _, Nat.zero_le _⟩ d_Notes_addCall_3 ?_
  exact Go.vret hx hb hr hK hlk h d_Notes_addCall_6
set_option maxHeartbeats 4000000 in
set_option maxRecDepth 100000 in
theorem m_VM_callFunction (l : Launch) (D : va_G) (ad : Nat → Nat) (ca : Nat → ClassId) (N : Nat) (st : SG) (sz : Nat) (a0 : Int32) (r : Int32) (u : SG) (h : fX_ValueMachine_callFunction N st a0 = some (r, u)) : Met l y_VM_callFunction (Cond.code y_VM_callFunction c_VM_callFunction 3 (some .int) :: tbl) ({ frames := 2, cells := 0, slots := 0, locals := 43 } : Room) (va_Pc [.ref (ad 0), .int a0] (goPre (Xw ad ca) D vwCl (Xtys ca) sz st)) (va_Qi (fun r' u' => r' = r ∧ u' = u) (goPost (Xw ad ca) D vwCl (Xtys ca) (va_A (Xw ad ca st) sz)) (va_A (Xw ad ca st) sz)) 0 0 (va_A (Xw ad ca st) sz) := by
  refine go_met (Qc := fun A9 => va_Qi (fun r' u' => r' = r ∧ u' = u) (goPost (Xw ad ca) D vwCl (Xtys ca) A9) A9) (cc := c_VM_callFunction) (maxL := 3) (ret := (some .int)) [(0, .ref (ad 0)), (1, .int a0)] (by decide) rfl (Nat.le_of_ble_eq_true rfl) rfl ?_
  intro p e s m below meth c A S hr hlk hK hA hsz
  obtain ⟨hx, hb, hml, hown, hts⟩ := id S
  unfold fX_ValueMachine_callFunction at h
  refine Go.aload_n hx hb 0 rfl d_VM_callFunction_0 ?_
  refine Go.get (v := .ref (ad 4)) hx hb hts in_VM hown hK 0 (Xw_0 ad ca _) rfl 1 (by decide) (hts _ k_171) (fun _ h9 => h9) rfl d_VM_callFunction_1 ?_
  refine Go.iload_n hx hb 1 rfl d_VM_callFunction_4 ?_
  obtain ⟨r1, s1, q1, h⟩ := gb_some h
  refine Go.callVi S hK hA 4 (Xw_4 ad ca _) rfl (fun sz9 => m_ValueStack_holds l D ad ca N _ sz9 _ r1 s1 q1) (cwV 1 hts (gwV k_413 k_414 k_415 k_64 k_416) rfl rfl rfl (by decide +kernel) ⟨Nat.le_of_ble_eq_true rfl, Nat.le_of_ble_eq_true rfl⟩) rfl rfl (Nat.le_of_ble_eq_true rfl) ⟨Nat.zero_le _, Nat.zero_le _⟩ d_VM_callFunction_5 ?_
  refine Go.if_ne (tgt := 13) hx hb d_VM_callFunction_8 rfl (fun c8 => ?_) (fun c8 => ?_)
  · replace h := (if_neg c8).symm.trans h
    refine Go.aload_n hx hb 0 rfl d_VM_callFunction_13 ?_
    refine Go.get (v := .long (gL s1 0)) hx hb hts in_VM hown hK 0 (Xw_0 ad ca _) rfl 5 (by decide) (hts _ k_175) (fun _ h9 => h9) rfl d_VM_callFunction_14 ?_
    obtain ⟨r2, s2, q2, h⟩ := gb_some h
    refine Go.callSi S hK hA (fun sz9 => m_Value_numberOf l D ad ca N _ sz9 _ r2 s2 q2) (va_cwS 1 hts (gwS k_275 k_265 k_72 k_266) rfl rfl rfl (by decide +kernel) ⟨Nat.le_of_ble_eq_true rfl, Nat.le_of_ble_eq_true rfl⟩) rfl rfl (Nat.le_of_ble_eq_true rfl) ⟨Nat.zero_le _, Nat.zero_le _⟩ d_VM_callFunction_17 ?_
    refine Go.istore_n (i := 2) (lv' := [(2, .int r2), (0, .ref (ad 0)), (1, .int a0)]) hx hb rfl (Nat.le_of_ble_eq_true rfl) rfl d_VM_callFunction_20 ?_
    refine Go.aload_n hx hb 1 rfl d_VM_callFunction_21 ?_
    refine Go.get (v := .long (gL s2 0)) hx hb hts in_VM hown hK 0 (Xw_0 ad ca _) rfl 5 (by decide) (hts _ k_175) (fun _ h9 => h9) rfl d_VM_callFunction_22 ?_
    obtain ⟨r3, s3, q3, h⟩ := gb_some h
    refine Go.callSi S hK hA (fun sz9 => m_Value_sortOf l D ad ca N _ sz9 _ r3 s3 q3) (va_cwS 1 hts (gwS k_235 k_236 k_72 k_237) rfl rfl rfl (by decide +kernel) ⟨Nat.le_of_ble_eq_true rfl, Nat.le_of_ble_eq_true rfl⟩) rfl rfl (Nat.le_of_ble_eq_true rfl) ⟨Nat.zero_le _, Nat.zero_le _⟩ d_VM_callFunction_25 ?_
    refine Go.bipush (v := 6) hx hb (by decide) d_VM_callFunction_28 ?_
    refine Go.icmp_ne (tgt := 41) hx hb d_VM_callFunction_30 rfl (fun c30 => ?_) (fun c30 => ?_)
    · replace h := (if_neg c30).symm.trans h
      refine Go.iconst (v := 1) hx hb (by decide) d_VM_callFunction_41 ?_
      exact Go.iret hx hb hr hK hlk h d_VM_callFunction_42
    · replace h := (if_pos c30).symm.trans h
      refine Go.iload_n hx hb 0 rfl d_VM_callFunction_33 ?_
      refine Go.bipush (v := 8) hx hb (by decide) d_VM_callFunction_34 ?_
      refine Go.irem hx hb (by decide) d_VM_callFunction_36 ?_
      refine Go.iload_n hx hb 2 rfl d_VM_callFunction_37 ?_
      refine Go.icmp_eq (tgt := 43) hx hb d_VM_callFunction_38 rfl (fun c38 => ?_) (fun c38 => ?_)
      · replace h := (if_pos c38).symm.trans h
        refine Go.aload_n hx hb 1 rfl d_VM_callFunction_43 ?_
        refine Go.get (v := .ref (ad 6)) hx hb hts in_VM hown hK 0 (Xw_0 ad ca _) rfl 2 (by decide) (hts _ k_172) (fun _ h9 => h9) rfl d_VM_callFunction_44 ?_
        obtain ⟨r4, s4, q4, h⟩ := gb_some h
        refine Go.callVi S hK hA 6 (Xw_6 ad ca _) rfl (fun sz9 => m_Notes_isFull l D ad ca N _ sz9 r4 s4 q4) (cwV 0 hts (gwV k_554 k_555 k_556 k_65 k_557) rfl rfl rfl (by decide +kernel) ⟨Nat.le_of_ble_eq_true rfl, Nat.le_of_ble_eq_true rfl⟩) rfl rfl (Nat.le_of_ble_eq_true rfl) ⟨Nat.zero_le _, Nat.zero_le _⟩ d_VM_callFunction_47 ?_
        refine Go.if_eq (tgt := 55) hx hb d_VM_callFunction_50 rfl (fun c50 => ?_) (fun c50 => ?_)
        · replace h := (if_pos c50).symm.trans h
          refine Go.aload_n hx hb 1 rfl d_VM_callFunction_55 ?_
          refine Go.get (v := .ref (ad 6)) hx hb hts in_VM hown hK 0 (Xw_0 ad ca _) rfl 2 (by decide) (hts _ k_172) (fun _ h9 => h9) rfl d_VM_callFunction_56 ?_
          refine Go.aload_n hx hb 1 rfl d_VM_callFunction_59 ?_
          refine Go.get (v := .int (gI s4 8)) hx hb hts in_VM hown hK 0 (Xw_0 ad ca _) rfl 9 (by decide) (hts _ k_179) (fun _ h9 => h9) rfl d_VM_callFunction_60 ?_
          obtain ⟨_, s5, q5, h⟩ := gb_some h
          refine Go.callVv S hK hA 6 (Xw_6 ad ca _) rfl (fun sz9 => m_Notes_addCall l D ad ca N _ sz9 _ _ s5 q5) (cwV 1 hts (gwV k_558 k_559 k_560 k_65 k_561) rfl rfl rfl (by decide +kernel) ⟨Nat.le_of_ble_eq_true rfl, Nat.le_of_ble_eq_true rfl⟩) rfl rfl (Nat.le_of_ble_eq_true rfl) ⟨Nat.zero_le _, Nat.zero_le _⟩ d_VM_callFunction_63 ?_
          refine Go.aload_n hx hb 1 rfl d_VM_callFunction_66 ?_
          refine Go.iload_n hx hb 0 rfl d_VM_callFunction_67 ?_
          refine Go.bipush (v := 8) hx hb (by decide) d_VM_callFunction_68 ?_
          refine Go.idiv hx hb (by decide) d_VM_callFunction_70 ?_
          refine Go.put (ty := (.int)) hx hb hts in_VM ty_VM tyok_VM nm_VM hown hK 0 (Xw_0 ad ca _) rfl 9 (by decide) (hts _ k_179) (fun _ h9 => h9) rfl (by decide +kernel) rfl rfl (Nat.le_of_ble_eq_true rfl) (uI s5 8 (r2 / 8)) (Xs_I8 ad ca _ _) d_VM_callFunction_71 ?_
          refine Go.iconst (v := 0) hx hb (by decide) d_VM_callFunction_74 ?_
          exact Go.iret hx hb hr hK hlk h d_VM_callFunction_75
        · replace h := (if_neg c50).symm.trans h
          refine Go.iconst (v := 4) hx hb (by decide) d_VM_callFunction_53 ?_
          exact Go.iret hx hb hr hK hlk h d_VM_callFunction_54
      · replace h := (if_neg c38).symm.trans h
        refine Go.iconst (v := 1) hx hb (by decide) d_VM_callFunction_41 ?_
        exact Go.iret hx hb hr hK hlk h d_VM_callFunction_42
  · replace h := (if_pos c8).symm.trans h
    refine Go.iconst (v := 3) hx hb (by decide) d_VM_callFunction_11 ?_
    exact Go.iret hx hb hr hK hlk h d_VM_callFunction_12
set_option maxHeartbeats 4000000 in
set_option maxRecDepth 100000 in
theorem m_Notes_endWithCall (l : Launch) (D : va_G) (ad : Nat → Nat) (ca : Nat → ClassId) (N : Nat) (st : SG) (sz : Nat) (r : Int32) (u : SG) (h : fX_Notes_endWithCall N st = some (r, u)) : Met l y_Notes_endWithCall (Cond.code y_Notes_endWithCall c_Notes_endWithCall 1 (some .boolean) :: tbl) ({ frames := 0, cells := 0, slots := 0, locals := 0 } : Room) (va_Pc [.ref (ad 6)] (goPre (Xw ad ca) D vwCl (Xtys ca) sz st)) (va_Qi (fun r' u' => r' = r ∧ u' = u) (goPost (Xw ad ca) D vwCl (Xtys ca) (va_A (Xw ad ca st) sz)) (va_A (Xw ad ca st) sz)) 0 0 (va_A (Xw ad ca st) sz) := by
  refine go_met (Qc := fun A9 => va_Qi (fun r' u' => r' = r ∧ u' = u) (goPost (Xw ad ca) D vwCl (Xtys ca) A9) A9) (cc := c_Notes_endWithCall) (maxL := 1) (ret := (some .boolean)) [(0, .ref (ad 6))] (by decide) rfl (Nat.le_of_ble_eq_true rfl) rfl ?_
  intro p e s m below meth c A S hr hlk hK hA hsz
  obtain ⟨hx, hb, hml, hown, hts⟩ := id S
  unfold fX_Notes_endWithCall at h
  refine Go.aload_n hx hb 0 rfl d_Notes_endWithCall_0 ?_
  refine Go.get (v := .int (gI st 2)) hx hb hts in_Notes hown hK 6 (Xw_6 ad ca _) rfl 2 (by decide) (hts _ k_123) (fun _ h9 => h9) rfl d_Notes_endWithCall_1 ?_
  refine Go.if_le (tgt := 26) hx hb d_Notes_endWithCall_4 rfl (fun c4 => ?_) (fun c4 => ?_)
  · replace h := (if_pos c4).symm.trans h
    refine Go.iconst (v := 0) hx hb (by decide) d_Notes_endWithCall_26 ?_
    exact Go.zret hx hb hr hK hlk rfl h d_Notes_endWithCall_27
  · replace h := (if_neg c4).symm.trans h
    refine Go.aload_n hx hb 0 rfl d_Notes_endWithCall_7 ?_
    refine Go.get (v := .ref (ad 8)) hx hb hts in_Notes hown hK 6 (Xw_6 ad ca _) rfl 1 (by decide) (hts _ k_122) (fun _ h9 => h9) rfl d_Notes_endWithCall_8 ?_
    refine Go.aload_n hx hb 0 rfl d_Notes_endWithCall_11 ?_
    refine Go.get (v := .int (gI st 2)) hx hb hts in_Notes hown hK 6 (Xw_6 ad ca _) rfl 2 (by decide) (hts _ k_123) (fun _ h9 => h9) rfl d_Notes_endWithCall_12 ?_
    refine Go.iconst (v := 1) hx hb (by decide) d_Notes_endWithCall_15 ?_
    refine Go.isub hx hb d_Notes_endWithCall_16 ?_
    obtain ⟨c17, h⟩ := gg_some h
    refine Go.iald (v := gA st 3 ((gI st 2) - 1).toNatClampNeg) hx hb hK 8 4 (Xw_8 ad ca _) rfl c17 rfl d_Notes_endWithCall_17 ?_
    refine Go.iconst (v := (-1)) hx hb (by decide) d_Notes_endWithCall_18 ?_
    refine Go.icmp_ne (tgt := 26) hx hb d_Notes_endWithCall_19 rfl (fun c19 => ?_) (fun c19 => ?_)
    · replace h := (if_neg c19).symm.trans h
      refine Go.iconst (v := 0) hx hb (by decide) d_Notes_endWithCall_26 ?_
      exact Go.zret hx hb hr hK hlk rfl h d_Notes_endWithCall_27
    · replace h := (if_pos c19).symm.trans h
      refine Go.iconst (v := 1) hx hb (by decide) d_Notes_endWithCall_22 ?_
      refine Go.goto (tgt := 27) hx hb d_Notes_endWithCall_23 rfl ?_
      exact Go.zret hx hb hr hK hlk rfl h d_Notes_endWithCall_27
set_option maxHeartbeats 4000000 in
set_option maxRecDepth 100000 in
theorem m_Notes_placeOf (l : Launch) (D : va_G) (ad : Nat → Nat) (ca : Nat → ClassId) (N : Nat) (st : SG) (sz : Nat) (a0 : Int32) (r : Int32) (u : SG) (h : fX_Notes_placeOf N st a0 = some (r, u)) : Met l y_Notes_placeOf (Cond.code y_Notes_placeOf c_Notes_placeOf 2 (some .int) :: tbl) ({ frames := 0, cells := 0, slots := 0, locals := 0 } : Room) (va_Pc [.ref (ad 6), .int a0] (goPre (Xw ad ca) D vwCl (Xtys ca) sz st)) (va_Qi (fun r' u' => r' = r ∧ u' = u) (goPost (Xw ad ca) D vwCl (Xtys ca) (va_A (Xw ad ca st) sz)) (va_A (Xw ad ca st) sz)) 0 0 (va_A (Xw ad ca st) sz) := by
  refine go_met (Qc := fun A9 => va_Qi (fun r' u' => r' = r ∧ u' = u) (goPost (Xw ad ca) D vwCl (Xtys ca) A9) A9) (cc := c_Notes_placeOf) (maxL := 2) (ret := (some .int)) [(0, .ref (ad 6)), (1, .int a0)] (by decide) rfl (Nat.le_of_ble_eq_true rfl) rfl ?_
  intro p e s m below meth c A S hr hlk hK hA hsz
  obtain ⟨hx, hb, hml, hown, hts⟩ := id S
  unfold fX_Notes_placeOf at h
  refine Go.aload_n hx hb 0 rfl d_Notes_placeOf_0 ?_
  refine Go.get (v := .ref (ad 7)) hx hb hts in_Notes hown hK 6 (Xw_6 ad ca _) rfl 0 (by decide) (hts _ k_121) (fun _ h9 => h9) rfl d_Notes_placeOf_1 ?_
  refine Go.iload_n hx hb 1 rfl d_Notes_placeOf_4 ?_
  obtain ⟨c5, h⟩ := gg_some h
  refine Go.iald (v := gA st 2 a0.toNatClampNeg) hx hb hK 7 3 (Xw_7 ad ca _) rfl c5 rfl d_Notes_placeOf_5 ?_
  exact Go.iret hx hb hr hK hlk h d_Notes_placeOf_6
set_option maxHeartbeats 4000000 in
set_option maxRecDepth 100000 in
theorem m_VM_returnFromCall (l : Launch) (D : va_G) (ad : Nat → Nat) (ca : Nat → ClassId) (N : Nat) (st : SG) (sz : Nat) (a0 : Int32) (r : Int32) (u : SG) (h : fX_ValueMachine_returnFromCall N st a0 = some (r, u)) : Met l y_VM_returnFromCall (Cond.code y_VM_returnFromCall c_VM_returnFromCall 2 (some .int) :: tbl) ({ frames := 1, cells := 0, slots := 0, locals := 21 } : Room) (va_Pc [.ref (ad 0), .int a0] (goPre (Xw ad ca) D vwCl (Xtys ca) sz st)) (va_Qi (fun r' u' => r' = r ∧ u' = u) (goPost (Xw ad ca) D vwCl (Xtys ca) (va_A (Xw ad ca st) sz)) (va_A (Xw ad ca st) sz)) 0 0 (va_A (Xw ad ca st) sz) := by
  refine go_met (Qc := fun A9 => va_Qi (fun r' u' => r' = r ∧ u' = u) (goPost (Xw ad ca) D vwCl (Xtys ca) A9) A9) (cc := c_VM_returnFromCall) (maxL := 2) (ret := (some .int)) [(0, .ref (ad 0)), (1, .int a0)] (by decide) rfl (Nat.le_of_ble_eq_true rfl) rfl ?_
  intro p e s m below meth c A S hr hlk hK hA hsz
  obtain ⟨hx, hb, hml, hown, hts⟩ := id S
  unfold fX_ValueMachine_returnFromCall at h
  refine Go.aload_n hx hb 0 rfl d_VM_returnFromCall_0 ?_
  refine Go.get (v := .ref (ad 4)) hx hb hts in_VM hown hK 0 (Xw_0 ad ca _) rfl 1 (by decide) (hts _ k_171) (fun _ h9 => h9) rfl d_VM_returnFromCall_1 ?_
  refine Go.iload_n hx hb 1 rfl d_VM_returnFromCall_4 ?_
  obtain ⟨r1, s1, q1, h⟩ := gb_some h
  refine Go.callVi S hK hA 4 (Xw_4 ad ca _) rfl (fun sz9 => m_ValueStack_holds l D ad ca N _ sz9 _ r1 s1 q1) (cwV 1 hts (gwV k_413 k_414 k_415 k_64 k_416) rfl rfl rfl (by decide +kernel) ⟨Nat.le_of_ble_eq_true rfl, Nat.le_of_ble_eq_true rfl⟩) rfl rfl (Nat.le_of_ble_eq_true rfl) ⟨Nat.zero_le _, Nat.zero_le _⟩ d_VM_returnFromCall_5 ?_
  refine Go.if_ne (tgt := 13) hx hb d_VM_returnFromCall_8 rfl (fun c8 => ?_) (fun c8 => ?_)
  · replace h := (if_neg c8).symm.trans h
    refine Go.aload_n hx hb 0 rfl d_VM_returnFromCall_13 ?_
    refine Go.get (v := .ref (ad 6)) hx hb hts in_VM hown hK 0 (Xw_0 ad ca _) rfl 2 (by decide) (hts _ k_172) (fun _ h9 => h9) rfl d_VM_returnFromCall_14 ?_
    obtain ⟨r2, s2, q2, h⟩ := gb_some h
    refine Go.callVi S hK hA 6 (Xw_6 ad ca _) rfl (fun sz9 => m_Notes_endWithCall l D ad ca N _ sz9 r2 s2 q2) (cwV 0 hts (gwV k_570 k_571 k_572 k_65 k_573) rfl rfl rfl (by decide +kernel) ⟨Nat.le_of_ble_eq_true rfl, Nat.le_of_ble_eq_true rfl⟩) rfl rfl (Nat.le_of_ble_eq_true rfl) ⟨Nat.zero_le _, Nat.zero_le _⟩ d_VM_returnFromCall_17 ?_
    refine Go.if_ne (tgt := 26) hx hb d_VM_returnFromCall_20 rfl (fun c20 => ?_) (fun c20 => ?_)
    · replace h := (if_neg c20).symm.trans h
      refine Go.aload_n hx hb 0 rfl d_VM_returnFromCall_26 ?_
      refine Go.get (v := .ref (ad 4)) hx hb hts in_VM hown hK 0 (Xw_0 ad ca _) rfl 1 (by decide) (hts _ k_171) (fun _ h9 => h9) rfl d_VM_returnFromCall_27 ?_
      refine Go.iload_n hx hb 1 rfl d_VM_returnFromCall_30 ?_
      obtain ⟨_, s3, q3, h⟩ := gb_some h
      refine Go.callVv S hK hA 4 (Xw_4 ad ca _) rfl (fun sz9 => m_ValueStack_drop l D ad ca N _ sz9 _ _ s3 q3) (cwV 1 hts (gwV k_425 k_426 k_427 k_64 k_428) rfl rfl rfl (by decide +kernel) ⟨Nat.le_of_ble_eq_true rfl, Nat.le_of_ble_eq_true rfl⟩) rfl rfl (Nat.le_of_ble_eq_true rfl) ⟨Nat.zero_le _, Nat.zero_le _⟩ d_VM_returnFromCall_31 ?_
      refine Go.aload_n hx hb 0 rfl d_VM_returnFromCall_34 ?_
      refine Go.get (v := .ref (ad 6)) hx hb hts in_VM hown hK 0 (Xw_0 ad ca _) rfl 2 (by decide) (hts _ k_172) (fun _ h9 => h9) rfl d_VM_returnFromCall_35 ?_
      refine Go.dup hx hb rfl d_VM_returnFromCall_38 ?_
      refine Go.get (v := .int (gI s3 2)) hx hb hts in_Notes hown hK 6 (Xw_6 ad ca _) rfl 2 (by decide) (hts _ k_124) (fun _ h9 => h9) rfl d_VM_returnFromCall_39 ?_
      refine Go.iconst (v := 1) hx hb (by decide) d_VM_returnFromCall_42 ?_
      refine Go.isub hx hb d_VM_returnFromCall_43 ?_
      refine Go.put (ty := (.int)) hx hb hts in_Notes ty_Notes tyok_Notes nm_Notes hown hK 6 (Xw_6 ad ca _) rfl 2 (by decide) (hts _ k_124) (fun _ h9 => h9) rfl (by decide +kernel) rfl rfl (Nat.le_of_ble_eq_true rfl) (uI s3 2 ((gI s3 2) - 1)) (Xs_I2 ad ca _ _) d_VM_returnFromCall_44 ?_
      refine Go.aload_n hx hb 0 rfl d_VM_returnFromCall_47 ?_
      refine Go.aload_n hx hb 0 rfl d_VM_returnFromCall_48 ?_
      refine Go.get (v := .ref (ad 6)) hx hb hts in_VM hown hK 0 (Xw_0 ad ca _) rfl 2 (by decide) (hts _ k_172) (fun _ h9 => h9) rfl d_VM_returnFromCall_49 ?_
      refine Go.aload_n hx hb 0 rfl d_VM_returnFromCall_52 ?_
      refine Go.get (v := .ref (ad 6)) hx hb hts in_VM hown hK 0 (Xw_0 ad ca _) rfl 2 (by decide) (hts _ k_172) (fun _ h9 => h9) rfl d_VM_returnFromCall_53 ?_
      refine Go.get (v := .int ((gI s3 2) - 1)) hx hb hts in_Notes hown hK 6 (Xw_6 ad ca _) rfl 2 (by decide) (hts _ k_124) (fun _ h9 => h9) rfl d_VM_returnFromCall_56 ?_
      obtain ⟨r4, s4, q4, h⟩ := gb_some h
      refine Go.callVi S hK hA 6 (Xw_6 ad ca _) rfl (fun sz9 => m_Notes_placeOf l D ad ca N _ sz9 _ r4 s4 q4) (cwV 1 hts (gwV k_574 k_575 k_576 k_65 k_577) rfl rfl rfl (by decide +kernel) ⟨Nat.le_of_ble_eq_true rfl, Nat.le_of_ble_eq_true rfl⟩) rfl rfl (Nat.le_of_ble_eq_true rfl) ⟨Nat.zero_le _, Nat.zero_le _⟩ d_VM_returnFromCall_59 ?_
      refine Go.put (ty := (.int)) hx hb hts in_VM ty_VM tyok_VM nm_VM hown hK 0 (Xw_0 ad ca _) rfl 9 (by decide) (hts _ k_179) (fun _ h9 => h9) rfl (by decide +kernel) rfl rfl (Nat.le_of_ble_eq_true rfl) (uI s4 8 r4) (Xs_I8 ad ca _ _) d_VM_returnFromCall_62 ?_
      refine Go.iconst (v := 0) hx hb (by decide) d_VM_returnFromCall_65 ?_
      exact Go.iret hx hb hr hK hlk h d_VM_returnFromCall_66
    · replace h := (if_pos c20).symm.trans h
      refine Go.bipush (v := 7) hx hb (by decide) d_VM_returnFromCall_23 ?_
      exact Go.iret hx hb hr hK hlk h d_VM_returnFromCall_25
  · replace h := (if_pos c8).symm.trans h
    refine Go.iconst (v := 3) hx hb (by decide) d_VM_returnFromCall_11 ?_
    exact Go.iret hx hb hr hK hlk h d_VM_returnFromCall_12
set_option maxHeartbeats 4000000 in
set_option maxRecDepth 100000 in
theorem m_Notes_addTrap (l : Launch) (D : va_G) (ad : Nat → Nat) (ca : Nat → ClassId) (N : Nat) (st : SG) (sz : Nat) (a0 : Int32) (a1 : Int32) (r : Unit) (u : SG) (h : fX_Notes_addTrap N st a0 a1 = some (r, u)) : Met l y_Notes_addTrap (Cond.code y_Notes_addTrap c_Notes_addTrap 3 none :: tbl) ({ frames := 1, cells := 0, slots := 0, locals := 22 } : Room) (va_Pc [.ref (ad 6), .int a0, .int a1] (goPre (Xw ad ca) D vwCl (Xtys ca) sz st)) (va_Qv (fun u' => u' = u) (goPost (Xw ad ca) D vwCl (Xtys ca) (va_A (Xw ad ca st) sz)) (va_A (Xw ad ca st) sz)) 0 0 (va_A (Xw ad ca st) sz) := by
  refine go_met (Qc := fun A9 => va_Qv (fun u' => u' = u) (goPost (Xw ad ca) D vwCl (Xtys ca) A9) A9) (cc := c_Notes_addTrap) (maxL := 3) (ret := none) [(0, .ref (ad 6)), (1, .int a0), (2, .int a1)] (by decide) rfl (Nat.le_of_ble_eq_true rfl) rfl ?_
  intro p e s m below meth c A S hr hlk hK hA hsz
  obtain ⟨hx, hb, hml, hown, hts⟩ := id S
  unfold fX_Notes_addTrap at h
  refine Go.aload_n hx hb 0 rfl d_Notes_addTrap_0 ?_
  refine Go.iload_n hx hb 1 rfl d_Notes_addTrap_1 ?_
  refine Go.iload_n hx hb 2 rfl d_Notes_addTrap_2 ?_
  obtain ⟨_, s1, q1, h⟩ := gb_some h
  refine Go.callVv S hK hA 6 (Xw_6 ad ca _) rfl (fun sz9 => m_Notes_add l D ad ca N _ sz9 _ _ _ s1 q1) (cwV 2 hts (gwV k_562 k_564 k_30 k_65 k_565) rfl rfl rfl (by decide +kernel) ⟨Nat.le_of_ble_eq_true rfl, Nat.le_of_ble_eq_true rfl⟩) rfl rfl (Nat.le_of_ble_eq_true rfl) ⟨Nat.zero_le _, Nat.zero_le _⟩ d_Notes_addTrap_3 ?_
  exact Go.vret hx hb hr hK hlk h d_Notes_addTrap_6
set_option maxHeartbeats 4000000 in
set_option maxRecDepth 100000 in
theorem m_VM_noteTrap (l : Launch) (D : va_G) (ad : Nat → Nat) (ca : Nat → ClassId) (N : Nat) (st : SG) (sz : Nat) (a0 : Int32) (r : Int32) (u : SG) (h : fX_ValueMachine_noteTrap N st a0 = some (r, u)) : Met l y_VM_noteTrap (Cond.code y_VM_noteTrap c_VM_noteTrap 2 (some .int) :: tbl) ({ frames := 2, cells := 0, slots := 0, locals := 44 } : Room) (va_Pc [.ref (ad 0), .int a0] (goPre (Xw ad ca) D vwCl (Xtys ca) sz st)) (va_Qi (fun r' u' => r' = r ∧ u' = u) (goPost (Xw ad ca) D vwCl (Xtys ca) (va_A (Xw ad ca st) sz)) (va_A (Xw ad ca st) sz)) 0 0 (va_A (Xw ad ca st) sz) := by
  refine go_met (Qc := fun A9 => va_Qi (fun r' u' => r' = r ∧ u' = u) (goPost (Xw ad ca) D vwCl (Xtys ca) A9) A9) (cc := c_VM_noteTrap) (maxL := 2) (ret := (some .int)) [(0, .ref (ad 0)), (1, .int a0)] (by decide) rfl (Nat.le_of_ble_eq_true rfl) rfl ?_
  intro p e s m below meth c A S hr hlk hK hA hsz
  obtain ⟨hx, hb, hml, hown, hts⟩ := id S
  unfold fX_ValueMachine_noteTrap at h
  refine Go.aload_n hx hb 0 rfl d_VM_noteTrap_0 ?_
  refine Go.get (v := .ref (ad 6)) hx hb hts in_VM hown hK 0 (Xw_0 ad ca _) rfl 2 (by decide) (hts _ k_172) (fun _ h9 => h9) rfl d_VM_noteTrap_1 ?_
  obtain ⟨r1, s1, q1, h⟩ := gb_some h
  refine Go.callVi S hK hA 6 (Xw_6 ad ca _) rfl (fun sz9 => m_Notes_isFull l D ad ca N _ sz9 r1 s1 q1) (cwV 0 hts (gwV k_554 k_555 k_556 k_65 k_557) rfl rfl rfl (by decide +kernel) ⟨Nat.le_of_ble_eq_true rfl, Nat.le_of_ble_eq_true rfl⟩) rfl rfl (Nat.le_of_ble_eq_true rfl) ⟨Nat.zero_le _, Nat.zero_le _⟩ d_VM_noteTrap_4 ?_
  refine Go.if_eq (tgt := 12) hx hb d_VM_noteTrap_7 rfl (fun c7 => ?_) (fun c7 => ?_)
  · replace h := (if_pos c7).symm.trans h
    refine Go.aload_n hx hb 0 rfl d_VM_noteTrap_12 ?_
    refine Go.get (v := .ref (ad 1)) hx hb hts in_VM hown hK 0 (Xw_0 ad ca _) rfl 0 (by decide) (hts _ k_170) (fun _ h9 => h9) rfl d_VM_noteTrap_13 ?_
    refine Go.iload_n hx hb 1 rfl d_VM_noteTrap_16 ?_
    obtain ⟨r2, s2, q2, h⟩ := gb_some h
    refine Go.callVi S hK hA 1 (Xw_1 ad ca _) rfl (fun sz9 => m_Code_hasPlace l D ad ca N _ sz9 _ r2 s2 q2) (cwV 1 hts (gwV k_477 k_478 k_479 k_63 k_480) rfl rfl rfl (by decide +kernel) ⟨Nat.le_of_ble_eq_true rfl, Nat.le_of_ble_eq_true rfl⟩) rfl rfl (Nat.le_of_ble_eq_true rfl) ⟨Nat.zero_le _, Nat.zero_le _⟩ d_VM_noteTrap_17 ?_
    refine Go.if_ne (tgt := 26) hx hb d_VM_noteTrap_20 rfl (fun c20 => ?_) (fun c20 => ?_)
    · replace h := (if_neg c20).symm.trans h
      refine Go.aload_n hx hb 0 rfl d_VM_noteTrap_26 ?_
      refine Go.get (v := .ref (ad 6)) hx hb hts in_VM hown hK 0 (Xw_0 ad ca _) rfl 2 (by decide) (hts _ k_172) (fun _ h9 => h9) rfl d_VM_noteTrap_27 ?_
      refine Go.iload_n hx hb 1 rfl d_VM_noteTrap_30 ?_
      refine Go.aload_n hx hb 0 rfl d_VM_noteTrap_31 ?_
      refine Go.get (v := .ref (ad 4)) hx hb hts in_VM hown hK 0 (Xw_0 ad ca _) rfl 1 (by decide) (hts _ k_171) (fun _ h9 => h9) rfl d_VM_noteTrap_32 ?_
      refine Go.get (v := .int (gI s2 1)) hx hb hts in_ValueStack hown hK 4 (Xw_4 ad ca _) rfl 1 (by decide) (hts _ k_108) (fun _ h9 => h9) rfl d_VM_noteTrap_35 ?_
      obtain ⟨_, s3, q3, h⟩ := gb_some h
      refine Go.callVv S hK hA 6 (Xw_6 ad ca _) rfl (fun sz9 => m_Notes_addTrap l D ad ca N _ sz9 _ _ _ s3 q3) (cwV 2 hts (gwV k_582 k_583 k_584 k_65 k_585) rfl rfl rfl (by decide +kernel) ⟨Nat.le_of_ble_eq_true rfl, Nat.le_of_ble_eq_true rfl⟩) rfl rfl (Nat.le_of_ble_eq_true rfl) ⟨Nat.zero_le _, Nat.zero_le _⟩ d_VM_noteTrap_38 ?_
      refine Go.iconst (v := 0) hx hb (by decide) d_VM_noteTrap_41 ?_
      exact Go.iret hx hb hr hK hlk h d_VM_noteTrap_42
    · replace h := (if_pos c20).symm.trans h
      refine Go.bipush (v := 8) hx hb (by decide) d_VM_noteTrap_23 ?_
      exact Go.iret hx hb hr hK hlk h d_VM_noteTrap_25
  · replace h := (if_neg c7).symm.trans h
    refine Go.iconst (v := 4) hx hb (by decide) d_VM_noteTrap_10 ?_
    exact Go.iret hx hb hr hK hlk h d_VM_noteTrap_11
set_option maxHeartbeats 4000000 in
set_option maxRecDepth 100000 in
theorem m_Notes_endWithTrap (l : Launch) (D : va_G) (ad : Nat → Nat) (ca : Nat → ClassId) (N : Nat) (st : SG) (sz : Nat) (r : Int32) (u : SG) (h : fX_Notes_endWithTrap N st = some (r, u)) : Met l y_Notes_endWithTrap (Cond.code y_Notes_endWithTrap c_Notes_endWithTrap 1 (some .boolean) :: tbl) ({ frames := 0, cells := 0, slots := 0, locals := 0 } : Room) (va_Pc [.ref (ad 6)] (goPre (Xw ad ca) D vwCl (Xtys ca) sz st)) (va_Qi (fun r' u' => r' = r ∧ u' = u) (goPost (Xw ad ca) D vwCl (Xtys ca) (va_A (Xw ad ca st) sz)) (va_A (Xw ad ca st) sz)) 0 0 (va_A (Xw ad ca st) sz) := by
  refine go_met (Qc := fun A9 => va_Qi (fun r' u' => r' = r ∧ u' = u) (goPost (Xw ad ca) D vwCl (Xtys ca) A9) A9) (cc := c_Notes_endWithTrap) (maxL := 1) (ret := (some .boolean)) [(0, .ref (ad 6))] (by decide) rfl (Nat.le_of_ble_eq_true rfl) rfl ?_
  intro p e s m below meth c A S hr hlk hK hA hsz
  obtain ⟨hx, hb, hml, hown, hts⟩ := id S
  unfold fX_Notes_endWithTrap at h
  refine Go.aload_n hx hb 0 rfl d_Notes_endWithTrap_0 ?_
  refine Go.get (v := .int (gI st 2)) hx hb hts in_Notes hown hK 6 (Xw_6 ad ca _) rfl 2 (by decide) (hts _ k_123) (fun _ h9 => h9) rfl d_Notes_endWithTrap_1 ?_
  refine Go.if_le (tgt := 26) hx hb d_Notes_endWithTrap_4 rfl (fun c4 => ?_) (fun c4 => ?_)
  · replace h := (if_pos c4).symm.trans h
    refine Go.iconst (v := 0) hx hb (by decide) d_Notes_endWithTrap_26 ?_
    exact Go.zret hx hb hr hK hlk rfl h d_Notes_endWithTrap_27
  · replace h := (if_neg c4).symm.trans h
    refine Go.aload_n hx hb 0 rfl d_Notes_endWithTrap_7 ?_
    refine Go.get (v := .ref (ad 8)) hx hb hts in_Notes hown hK 6 (Xw_6 ad ca _) rfl 1 (by decide) (hts _ k_122) (fun _ h9 => h9) rfl d_Notes_endWithTrap_8 ?_
    refine Go.aload_n hx hb 0 rfl d_Notes_endWithTrap_11 ?_
    refine Go.get (v := .int (gI st 2)) hx hb hts in_Notes hown hK 6 (Xw_6 ad ca _) rfl 2 (by decide) (hts _ k_123) (fun _ h9 => h9) rfl d_Notes_endWithTrap_12 ?_
    refine Go.iconst (v := 1) hx hb (by decide) d_Notes_endWithTrap_15 ?_
    refine Go.isub hx hb d_Notes_endWithTrap_16 ?_
    obtain ⟨c17, h⟩ := gg_some h
    refine Go.iald (v := gA st 3 ((gI st 2) - 1).toNatClampNeg) hx hb hK 8 4 (Xw_8 ad ca _) rfl c17 rfl d_Notes_endWithTrap_17 ?_
    refine Go.iconst (v := (-1)) hx hb (by decide) d_Notes_endWithTrap_18 ?_
    refine Go.icmp_eq (tgt := 26) hx hb d_Notes_endWithTrap_19 rfl (fun c19 => ?_) (fun c19 => ?_)
    · replace h := (if_pos c19).symm.trans h
      refine Go.iconst (v := 0) hx hb (by decide) d_Notes_endWithTrap_26 ?_
      exact Go.zret hx hb hr hK hlk rfl h d_Notes_endWithTrap_27
    · replace h := (if_neg c19).symm.trans h
      refine Go.iconst (v := 1) hx hb (by decide) d_Notes_endWithTrap_22 ?_
      refine Go.goto (tgt := 27) hx hb d_Notes_endWithTrap_23 rfl ?_
      exact Go.zret hx hb hr hK hlk rfl h d_Notes_endWithTrap_27
set_option maxHeartbeats 4000000 in
set_option maxRecDepth 100000 in
theorem m_VM_dropTrap (l : Launch) (D : va_G) (ad : Nat → Nat) (ca : Nat → ClassId) (N : Nat) (st : SG) (sz : Nat) (r : Int32) (u : SG) (h : fX_ValueMachine_dropTrap N st = some (r, u)) : Met l y_VM_dropTrap (Cond.code y_VM_dropTrap c_VM_dropTrap 1 (some .int) :: tbl) ({ frames := 1, cells := 0, slots := 0, locals := 20 } : Room) (va_Pc [.ref (ad 0)] (goPre (Xw ad ca) D vwCl (Xtys ca) sz st)) (va_Qi (fun r' u' => r' = r ∧ u' = u) (goPost (Xw ad ca) D vwCl (Xtys ca) (va_A (Xw ad ca st) sz)) (va_A (Xw ad ca st) sz)) 0 0 (va_A (Xw ad ca st) sz) := by
  refine go_met (Qc := fun A9 => va_Qi (fun r' u' => r' = r ∧ u' = u) (goPost (Xw ad ca) D vwCl (Xtys ca) A9) A9) (cc := c_VM_dropTrap) (maxL := 1) (ret := (some .int)) [(0, .ref (ad 0))] (by decide) rfl (Nat.le_of_ble_eq_true rfl) rfl ?_
  intro p e s m below meth c A S hr hlk hK hA hsz
  obtain ⟨hx, hb, hml, hown, hts⟩ := id S
  unfold fX_ValueMachine_dropTrap at h
  refine Go.aload_n hx hb 0 rfl d_VM_dropTrap_0 ?_
  refine Go.get (v := .ref (ad 6)) hx hb hts in_VM hown hK 0 (Xw_0 ad ca _) rfl 2 (by decide) (hts _ k_172) (fun _ h9 => h9) rfl d_VM_dropTrap_1 ?_
  obtain ⟨r1, s1, q1, h⟩ := gb_some h
  refine Go.callVi S hK hA 6 (Xw_6 ad ca _) rfl (fun sz9 => m_Notes_endWithTrap l D ad ca N _ sz9 r1 s1 q1) (cwV 0 hts (gwV k_590 k_591 k_592 k_65 k_593) rfl rfl rfl (by decide +kernel) ⟨Nat.le_of_ble_eq_true rfl, Nat.le_of_ble_eq_true rfl⟩) rfl rfl (Nat.le_of_ble_eq_true rfl) ⟨Nat.zero_le _, Nat.zero_le _⟩ d_VM_dropTrap_4 ?_
  refine Go.if_ne (tgt := 13) hx hb d_VM_dropTrap_7 rfl (fun c7 => ?_) (fun c7 => ?_)
  · replace h := (if_neg c7).symm.trans h
    refine Go.aload_n hx hb 0 rfl d_VM_dropTrap_13 ?_
    refine Go.get (v := .ref (ad 6)) hx hb hts in_VM hown hK 0 (Xw_0 ad ca _) rfl 2 (by decide) (hts _ k_172) (fun _ h9 => h9) rfl d_VM_dropTrap_14 ?_
    refine Go.dup hx hb rfl d_VM_dropTrap_17 ?_
    refine Go.get (v := .int (gI s1 2)) hx hb hts in_Notes hown hK 6 (Xw_6 ad ca _) rfl 2 (by decide) (hts _ k_124) (fun _ h9 => h9) rfl d_VM_dropTrap_18 ?_
    refine Go.iconst (v := 1) hx hb (by decide) d_VM_dropTrap_21 ?_
    refine Go.isub hx hb d_VM_dropTrap_22 ?_
    refine Go.put (ty := (.int)) hx hb hts in_Notes ty_Notes tyok_Notes nm_Notes hown hK 6 (Xw_6 ad ca _) rfl 2 (by decide) (hts _ k_124) (fun _ h9 => h9) rfl (by decide +kernel) rfl rfl (Nat.le_of_ble_eq_true rfl) (uI s1 2 ((gI s1 2) - 1)) (Xs_I2 ad ca _ _) d_VM_dropTrap_23 ?_
    refine Go.iconst (v := 0) hx hb (by decide) d_VM_dropTrap_26 ?_
    exact Go.iret hx hb hr hK hlk h d_VM_dropTrap_27
  · replace h := (if_pos c7).symm.trans h
    refine Go.bipush (v := 7) hx hb (by decide) d_VM_dropTrap_10 ?_
    exact Go.iret hx hb hr hK hlk h d_VM_dropTrap_12
set_option maxHeartbeats 4000000 in
set_option maxRecDepth 100000 in
theorem m_VM_perform (l : Launch) (D : va_G) (ad : Nat → Nat) (ca : Nat → ClassId) (N : Nat) (st : SG) (sz : Nat) (a0 : Int32) (a1 : Int32) (r : Int32) (u : SG) (h : fX_ValueMachine_perform N st a0 a1 = some (r, u)) : Met l y_VM_perform (Cond.code y_VM_perform c_VM_perform 3 (some .int) :: tbl) ({ frames := 5, cells := 0, slots := 0, locals := 115 } : Room) (va_Pc [.ref (ad 0), .int a0, .int a1] (goPre (Xw ad ca) D vwCl (Xtys ca) sz st)) (va_Qi (fun r' u' => r' = r ∧ u' = u) (goPost (Xw ad ca) D vwCl (Xtys ca) (va_A (Xw ad ca st) sz)) (va_A (Xw ad ca st) sz)) 0 0 (va_A (Xw ad ca st) sz) := by
  refine go_met (Qc := fun A9 => va_Qi (fun r' u' => r' = r ∧ u' = u) (goPost (Xw ad ca) D vwCl (Xtys ca) A9) A9) (cc := c_VM_perform) (maxL := 3) (ret := (some .int)) [(0, .ref (ad 0)), (1, .int a0), (2, .int a1)] (by decide) rfl (Nat.le_of_ble_eq_true rfl) rfl ?_
  intro p e s m below meth c A S hr hlk hK hA hsz
  obtain ⟨hx, hb, hml, hown, hts⟩ := id S
  unfold fX_ValueMachine_perform at h
  refine Go.iload_n hx hb 1 rfl d_VM_perform_0 ?_
  by_cases c1_0 : a0 = 0
  · replace h := (if_pos c1_0).symm.trans h
    refine Go.tin (tgt := 156) (off := 155) hx hb 0 c1_0 d_VM_perform_1 (by decide) (by decide) rfl rfl ?_
    refine Go.aload_n hx hb 0 rfl d_VM_perform_156 ?_
    refine Go.lconst (v := 0) hx hb (by decide) d_VM_perform_157 ?_
    obtain ⟨r1, s1, q1, h⟩ := gb_some h
    refine Go.callVi S hK hA 0 (Xw_0 ad ca _) rfl (fun sz9 => m_VM_accept l D ad ca N _ sz9 _ r1 s1 q1) (cwV 1 hts (gwV k_384 k_386 k_4 k_62 k_387) rfl rfl rfl (by decide +kernel) ⟨Nat.le_of_ble_eq_true rfl, Nat.le_of_ble_eq_true rfl⟩) rfl rfl (Nat.le_of_ble_eq_true rfl) ⟨Nat.zero_le _, Nat.zero_le _⟩ d_VM_perform_158 ?_
    exact Go.iret hx hb hr hK hlk h d_VM_perform_161
  replace h := (if_neg c1_0).symm.trans h
  by_cases c1_1 : a0 = 1
  · replace h := (if_pos c1_1).symm.trans h
    refine Go.tin (tgt := 162) (off := 161) hx hb 1 c1_1 d_VM_perform_1 (by decide) (by decide) rfl rfl ?_
    refine Go.aload_n hx hb 0 rfl d_VM_perform_162 ?_
    refine Go.ldc2 (v := 4294967296) hx hb hown (hts _ k_388) d_VM_perform_163 ?_
    obtain ⟨r2, s2, q2, h⟩ := gb_some h
    refine Go.callVi S hK hA 0 (Xw_0 ad ca _) rfl (fun sz9 => m_VM_accept l D ad ca N _ sz9 _ r2 s2 q2) (cwV 1 hts (gwV k_384 k_386 k_4 k_62 k_387) rfl rfl rfl (by decide +kernel) ⟨Nat.le_of_ble_eq_true rfl, Nat.le_of_ble_eq_true rfl⟩) rfl rfl (Nat.le_of_ble_eq_true rfl) ⟨Nat.zero_le _, Nat.zero_le _⟩ d_VM_perform_166 ?_
    exact Go.iret hx hb hr hK hlk h d_VM_perform_169
  replace h := (if_neg c1_1).symm.trans h
  by_cases c1_2 : a0 = 2
  · replace h := (if_pos c1_2).symm.trans h
    refine Go.tin (tgt := 170) (off := 169) hx hb 2 c1_2 d_VM_perform_1 (by decide) (by decide) rfl rfl ?_
    refine Go.aload_n hx hb 0 rfl d_VM_perform_170 ?_
    refine Go.ldc2 (v := 8589934592) hx hb hown (hts _ k_389) d_VM_perform_171 ?_
    obtain ⟨r3, s3, q3, h⟩ := gb_some h
    refine Go.callVi S hK hA 0 (Xw_0 ad ca _) rfl (fun sz9 => m_VM_accept l D ad ca N _ sz9 _ r3 s3 q3) (cwV 1 hts (gwV k_384 k_386 k_4 k_62 k_387) rfl rfl rfl (by decide +kernel) ⟨Nat.le_of_ble_eq_true rfl, Nat.le_of_ble_eq_true rfl⟩) rfl rfl (Nat.le_of_ble_eq_true rfl) ⟨Nat.zero_le _, Nat.zero_le _⟩ d_VM_perform_174 ?_
    exact Go.iret hx hb hr hK hlk h d_VM_perform_177
  replace h := (if_neg c1_2).symm.trans h
  by_cases c1_3 : a0 = 3
  · replace h := (if_pos c1_3).symm.trans h
    refine Go.tin (tgt := 178) (off := 177) hx hb 3 c1_3 d_VM_perform_1 (by decide) (by decide) rfl rfl ?_
    refine Go.aload_n hx hb 0 rfl d_VM_perform_178 ?_
    refine Go.iload_n hx hb 2 rfl d_VM_perform_179 ?_
    obtain ⟨r4, s4, q4, h⟩ := gb_some h
    refine Go.callSl S hK hA (fun sz9 => m_Value_integer l D ad ca N _ sz9 _ r4 s4 q4) (va_cwS 1 hts (gwS k_390 k_391 k_72 k_392) rfl rfl rfl (by decide +kernel) ⟨Nat.le_of_ble_eq_true rfl, Nat.le_of_ble_eq_true rfl⟩) rfl rfl (Nat.le_of_ble_eq_true rfl) ⟨Nat.zero_le _, Nat.zero_le _⟩ d_VM_perform_180 ?_
    obtain ⟨r5, s5, q5, h⟩ := gb_some h
    refine Go.callVi S hK hA 0 (Xw_0 ad ca _) rfl (fun sz9 => m_VM_accept l D ad ca N _ sz9 _ r5 s5 q5) (cwV 1 hts (gwV k_384 k_386 k_4 k_62 k_387) rfl rfl rfl (by decide +kernel) ⟨Nat.le_of_ble_eq_true rfl, Nat.le_of_ble_eq_true rfl⟩) rfl rfl (Nat.le_of_ble_eq_true rfl) ⟨Nat.zero_le _, Nat.zero_le _⟩ d_VM_perform_183 ?_
    exact Go.iret hx hb hr hK hlk h d_VM_perform_186
  replace h := (if_neg c1_3).symm.trans h
  by_cases c1_4 : a0 = 4
  · replace h := (if_pos c1_4).symm.trans h
    refine Go.tin (tgt := 187) (off := 186) hx hb 4 c1_4 d_VM_perform_1 (by decide) (by decide) rfl rfl ?_
    refine Go.aload_n hx hb 0 rfl d_VM_perform_187 ?_
    refine Go.iload_n hx hb 2 rfl d_VM_perform_188 ?_
    obtain ⟨r6, s6, q6, h⟩ := gb_some h
    refine Go.callVi S hK hA 0 (Xw_0 ad ca _) rfl (fun sz9 => m_VM_takeStack l D ad ca N _ sz9 _ r6 s6 q6) (cwV 1 hts (gwV k_397 k_399 k_5 k_62 k_400) rfl rfl rfl (by decide +kernel) ⟨Nat.le_of_ble_eq_true rfl, Nat.le_of_ble_eq_true rfl⟩) rfl rfl (Nat.le_of_ble_eq_true rfl) ⟨Nat.zero_le _, Nat.zero_le _⟩ d_VM_perform_189 ?_
    exact Go.iret hx hb hr hK hlk h d_VM_perform_192
  replace h := (if_neg c1_4).symm.trans h
  by_cases c1_5 : a0 = 5
  · replace h := (if_pos c1_5).symm.trans h
    refine Go.tin (tgt := 193) (off := 192) hx hb 5 c1_5 d_VM_perform_1 (by decide) (by decide) rfl rfl ?_
    refine Go.aload_n hx hb 0 rfl d_VM_perform_193 ?_
    refine Go.iload_n hx hb 2 rfl d_VM_perform_194 ?_
    obtain ⟨r7, s7, q7, h⟩ := gb_some h
    refine Go.callVi S hK hA 0 (Xw_0 ad ca _) rfl (fun sz9 => m_VM_takeGlobal l D ad ca N _ sz9 _ r7 s7 q7) (cwV 1 hts (gwV k_401 k_403 k_6 k_62 k_404) rfl rfl rfl (by decide +kernel) ⟨Nat.le_of_ble_eq_true rfl, Nat.le_of_ble_eq_true rfl⟩) rfl rfl (Nat.le_of_ble_eq_true rfl) ⟨Nat.zero_le _, Nat.zero_le _⟩ d_VM_perform_195 ?_
    exact Go.iret hx hb hr hK hlk h d_VM_perform_198
  replace h := (if_neg c1_5).symm.trans h
  by_cases c1_6 : a0 = 6
  · replace h := (if_pos c1_6).symm.trans h
    refine Go.tin (tgt := 199) (off := 198) hx hb 6 c1_6 d_VM_perform_1 (by decide) (by decide) rfl rfl ?_
    refine Go.aload_n hx hb 0 rfl d_VM_perform_199 ?_
    refine Go.iload_n hx hb 2 rfl d_VM_perform_200 ?_
    obtain ⟨r8, s8, q8, h⟩ := gb_some h
    refine Go.callVi S hK hA 0 (Xw_0 ad ca _) rfl (fun sz9 => m_VM_takeField l D ad ca N _ sz9 _ r8 s8 q8) (cwV 1 hts (gwV k_405 k_407 k_7 k_62 k_408) rfl rfl rfl (by decide +kernel) ⟨Nat.le_of_ble_eq_true rfl, Nat.le_of_ble_eq_true rfl⟩) rfl rfl (Nat.le_of_ble_eq_true rfl) ⟨Nat.zero_le _, Nat.zero_le _⟩ d_VM_perform_201 ?_
    exact Go.iret hx hb hr hK hlk h d_VM_perform_204
  replace h := (if_neg c1_6).symm.trans h
  by_cases c1_7 : a0 = 7
  · replace h := (if_pos c1_7).symm.trans h
    refine Go.tin (tgt := 205) (off := 204) hx hb 7 c1_7 d_VM_perform_1 (by decide) (by decide) rfl rfl ?_
    refine Go.aload_n hx hb 0 rfl d_VM_perform_205 ?_
    obtain ⟨r9, s9, q9, h⟩ := gb_some h
    refine Go.callVi S hK hA 0 (Xw_0 ad ca _) rfl (fun sz9 => m_VM_takeElement l D ad ca N _ sz9 r9 s9 q9) (cwV 0 hts (gwV k_409 k_411 k_8 k_62 k_412) rfl rfl rfl (by decide +kernel) ⟨Nat.le_of_ble_eq_true rfl, Nat.le_of_ble_eq_true rfl⟩) rfl rfl (Nat.le_of_ble_eq_true rfl) ⟨Nat.zero_le _, Nat.zero_le _⟩ d_VM_perform_206 ?_
    exact Go.iret hx hb hr hK hlk h d_VM_perform_209
  replace h := (if_neg c1_7).symm.trans h
  by_cases c1_8 : a0 = 8
  · replace h := (if_pos c1_8).symm.trans h
    refine Go.tin (tgt := 210) (off := 209) hx hb 8 c1_8 d_VM_perform_1 (by decide) (by decide) rfl rfl ?_
    refine Go.aload_n hx hb 0 rfl d_VM_perform_210 ?_
    obtain ⟨r10, s10, q10, h⟩ := gb_some h
    refine Go.callVi S hK hA 0 (Xw_0 ad ca _) rfl (fun sz9 => m_VM_takeSize l D ad ca N _ sz9 r10 s10 q10) (cwV 0 hts (gwV k_429 k_431 k_11 k_62 k_432) rfl rfl rfl (by decide +kernel) ⟨Nat.le_of_ble_eq_true rfl, Nat.le_of_ble_eq_true rfl⟩) rfl rfl (Nat.le_of_ble_eq_true rfl) ⟨Nat.zero_le _, Nat.zero_le _⟩ d_VM_perform_211 ?_
    exact Go.iret hx hb hr hK hlk h d_VM_perform_214
  replace h := (if_neg c1_8).symm.trans h
  by_cases c1_9 : a0 = 9
  · replace h := (if_pos c1_9).symm.trans h
    refine Go.tin (tgt := 215) (off := 214) hx hb 9 c1_9 d_VM_perform_1 (by decide) (by decide) rfl rfl ?_
    refine Go.aload_n hx hb 0 rfl d_VM_perform_215 ?_
    refine Go.iload_n hx hb 2 rfl d_VM_perform_216 ?_
    obtain ⟨r11, s11, q11, h⟩ := gb_some h
    refine Go.callVi S hK hA 0 (Xw_0 ad ca _) rfl (fun sz9 => m_VM_setStack l D ad ca N _ sz9 _ r11 s11 q11) (cwV 1 hts (gwV k_433 k_435 k_12 k_62 k_436) rfl rfl rfl (by decide +kernel) ⟨Nat.le_of_ble_eq_true rfl, Nat.le_of_ble_eq_true rfl⟩) rfl rfl (Nat.le_of_ble_eq_true rfl) ⟨Nat.zero_le _, Nat.zero_le _⟩ d_VM_perform_217 ?_
    exact Go.iret hx hb hr hK hlk h d_VM_perform_220
  replace h := (if_neg c1_9).symm.trans h
  by_cases c1_10 : a0 = 10
  · replace h := (if_pos c1_10).symm.trans h
    refine Go.tin (tgt := 221) (off := 220) hx hb 10 c1_10 d_VM_perform_1 (by decide) (by decide) rfl rfl ?_
    refine Go.aload_n hx hb 0 rfl d_VM_perform_221 ?_
    refine Go.iload_n hx hb 2 rfl d_VM_perform_222 ?_
    obtain ⟨r12, s12, q12, h⟩ := gb_some h
    refine Go.callVi S hK hA 0 (Xw_0 ad ca _) rfl (fun sz9 => m_VM_setGlobal l D ad ca N _ sz9 _ r12 s12 q12) (cwV 1 hts (gwV k_441 k_443 k_13 k_62 k_444) rfl rfl rfl (by decide +kernel) ⟨Nat.le_of_ble_eq_true rfl, Nat.le_of_ble_eq_true rfl⟩) rfl rfl (Nat.le_of_ble_eq_true rfl) ⟨Nat.zero_le _, Nat.zero_le _⟩ d_VM_perform_223 ?_
    exact Go.iret hx hb hr hK hlk h d_VM_perform_226
  replace h := (if_neg c1_10).symm.trans h
  by_cases c1_11 : a0 = 11
  · replace h := (if_pos c1_11).symm.trans h
    refine Go.tin (tgt := 227) (off := 226) hx hb 11 c1_11 d_VM_perform_1 (by decide) (by decide) rfl rfl ?_
    refine Go.aload_n hx hb 0 rfl d_VM_perform_227 ?_
    refine Go.iload_n hx hb 2 rfl d_VM_perform_228 ?_
    obtain ⟨r13, s13, q13, h⟩ := gb_some h
    refine Go.callVi S hK hA 0 (Xw_0 ad ca _) rfl (fun sz9 => m_VM_setField l D ad ca N _ sz9 _ r13 s13 q13) (cwV 1 hts (gwV k_445 k_447 k_14 k_62 k_448) rfl rfl rfl (by decide +kernel) ⟨Nat.le_of_ble_eq_true rfl, Nat.le_of_ble_eq_true rfl⟩) rfl rfl (Nat.le_of_ble_eq_true rfl) ⟨Nat.zero_le _, Nat.zero_le _⟩ d_VM_perform_229 ?_
    exact Go.iret hx hb hr hK hlk h d_VM_perform_232
  replace h := (if_neg c1_11).symm.trans h
  by_cases c1_12 : a0 = 12
  · replace h := (if_pos c1_12).symm.trans h
    refine Go.tin (tgt := 233) (off := 232) hx hb 12 c1_12 d_VM_perform_1 (by decide) (by decide) rfl rfl ?_
    refine Go.aload_n hx hb 0 rfl d_VM_perform_233 ?_
    obtain ⟨r14, s14, q14, h⟩ := gb_some h
    refine Go.callVi S hK hA 0 (Xw_0 ad ca _) rfl (fun sz9 => m_VM_setElement l D ad ca N _ sz9 r14 s14 q14) (cwV 0 hts (gwV k_453 k_455 k_15 k_62 k_456) rfl rfl rfl (by decide +kernel) ⟨Nat.le_of_ble_eq_true rfl, Nat.le_of_ble_eq_true rfl⟩) rfl rfl (Nat.le_of_ble_eq_true rfl) ⟨Nat.zero_le _, Nat.zero_le _⟩ d_VM_perform_234 ?_
    exact Go.iret hx hb hr hK hlk h d_VM_perform_237
  replace h := (if_neg c1_12).symm.trans h
  by_cases c1_13 : a0 = 13
  · replace h := (if_pos c1_13).symm.trans h
    refine Go.tin (tgt := 238) (off := 237) hx hb 13 c1_13 d_VM_perform_1 (by decide) (by decide) rfl rfl ?_
    refine Go.aload_n hx hb 0 rfl d_VM_perform_238 ?_
    obtain ⟨r15, s15, q15, h⟩ := gb_some h
    refine Go.callVi S hK hA 0 (Xw_0 ad ca _) rfl (fun sz9 => m_VM_push l D ad ca N _ sz9 r15 s15 q15) (cwV 0 hts (gwV k_457 k_459 k_16 k_62 k_460) rfl rfl rfl (by decide +kernel) ⟨Nat.le_of_ble_eq_true rfl, Nat.le_of_ble_eq_true rfl⟩) rfl rfl (Nat.le_of_ble_eq_true rfl) ⟨Nat.zero_le _, Nat.zero_le _⟩ d_VM_perform_239 ?_
    exact Go.iret hx hb hr hK hlk h d_VM_perform_242
  replace h := (if_neg c1_13).symm.trans h
  by_cases c1_14 : a0 = 14
  · replace h := (if_pos c1_14).symm.trans h
    refine Go.tin (tgt := 243) (off := 242) hx hb 14 c1_14 d_VM_perform_1 (by decide) (by decide) rfl rfl ?_
    refine Go.aload_n hx hb 0 rfl d_VM_perform_243 ?_
    refine Go.iload_n hx hb 2 rfl d_VM_perform_244 ?_
    obtain ⟨r16, s16, q16, h⟩ := gb_some h
    refine Go.callVi S hK hA 0 (Xw_0 ad ca _) rfl (fun sz9 => m_VM_pop l D ad ca N _ sz9 _ r16 s16 q16) (cwV 1 hts (gwV k_469 k_471 k_17 k_62 k_472) rfl rfl rfl (by decide +kernel) ⟨Nat.le_of_ble_eq_true rfl, Nat.le_of_ble_eq_true rfl⟩) rfl rfl (Nat.le_of_ble_eq_true rfl) ⟨Nat.zero_le _, Nat.zero_le _⟩ d_VM_perform_245 ?_
    exact Go.iret hx hb hr hK hlk h d_VM_perform_248
  replace h := (if_neg c1_14).symm.trans h
  by_cases c1_15 : a0 = 15
  · replace h := (if_pos c1_15).symm.trans h
    refine Go.tin (tgt := 249) (off := 248) hx hb 15 c1_15 d_VM_perform_1 (by decide) (by decide) rfl rfl ?_
    refine Go.aload_n hx hb 0 rfl d_VM_perform_249 ?_
    refine Go.iconst (v := 1) hx hb (by decide) d_VM_perform_250 ?_
    refine Go.iload_n hx hb 2 rfl d_VM_perform_251 ?_
    obtain ⟨r17, s17, q17, h⟩ := gb_some h
    refine Go.callVi S hK hA 0 (Xw_0 ad ca _) rfl (fun sz9 => m_VM_goIf l D ad ca N _ sz9 _ _ r17 s17 q17) (cwV 2 hts (gwV k_473 k_475 k_18 k_62 k_476) rfl rfl rfl (by decide +kernel) ⟨Nat.le_of_ble_eq_true rfl, Nat.le_of_ble_eq_true rfl⟩) rfl rfl (Nat.le_of_ble_eq_true rfl) ⟨Nat.zero_le _, Nat.zero_le _⟩ d_VM_perform_252 ?_
    exact Go.iret hx hb hr hK hlk h d_VM_perform_255
  replace h := (if_neg c1_15).symm.trans h
  by_cases c1_16 : a0 = 16
  · replace h := (if_pos c1_16).symm.trans h
    refine Go.tin (tgt := 256) (off := 255) hx hb 16 c1_16 d_VM_perform_1 (by decide) (by decide) rfl rfl ?_
    refine Go.aload_n hx hb 0 rfl d_VM_perform_256 ?_
    refine Go.aload_n hx hb 0 rfl d_VM_perform_257 ?_
    refine Go.get (v := .long (gL st 0)) hx hb hts in_VM hown hK 0 (Xw_0 ad ca _) rfl 5 (by decide) (hts _ k_175) (fun _ h9 => h9) rfl d_VM_perform_258 ?_
    refine Go.ldc2 (v := 8589934592) hx hb hown (hts _ k_389) d_VM_perform_261 ?_
    refine Go.lcmp_ne (tgt := 272) hx hb d_VM_perform_264 d_VM_perform_265 rfl (fun c264 => ?_) (fun c264 => ?_)
    · replace h := (if_neg c264).symm.trans h
      refine Go.iconst (v := 0) hx hb (by decide) d_VM_perform_272 ?_
      refine Go.iload_n hx hb 2 rfl d_VM_perform_273 ?_
      obtain ⟨r18, s18, q18, h⟩ := gb_some h
      refine Go.callVi S hK hA 0 (Xw_0 ad ca _) rfl (fun sz9 => m_VM_goIf l D ad ca N _ sz9 _ _ r18 s18 q18) (cwV 2 hts (gwV k_473 k_475 k_18 k_62 k_476) rfl rfl rfl (by decide +kernel) ⟨Nat.le_of_ble_eq_true rfl, Nat.le_of_ble_eq_true rfl⟩) rfl rfl (Nat.le_of_ble_eq_true rfl) ⟨Nat.zero_le _, Nat.zero_le _⟩ d_VM_perform_274 ?_
      exact Go.iret hx hb hr hK hlk h d_VM_perform_277
    · replace h := (if_pos c264).symm.trans h
      refine Go.iconst (v := 1) hx hb (by decide) d_VM_perform_268 ?_
      refine Go.goto (tgt := 273) hx hb d_VM_perform_269 rfl ?_
      refine Go.iload_n hx hb 2 rfl d_VM_perform_273 ?_
      obtain ⟨r19, s19, q19, h⟩ := gb_some h
      refine Go.callVi S hK hA 0 (Xw_0 ad ca _) rfl (fun sz9 => m_VM_goIf l D ad ca N _ sz9 _ _ r19 s19 q19) (cwV 2 hts (gwV k_473 k_475 k_18 k_62 k_476) rfl rfl rfl (by decide +kernel) ⟨Nat.le_of_ble_eq_true rfl, Nat.le_of_ble_eq_true rfl⟩) rfl rfl (Nat.le_of_ble_eq_true rfl) ⟨Nat.zero_le _, Nat.zero_le _⟩ d_VM_perform_274 ?_
      exact Go.iret hx hb hr hK hlk h d_VM_perform_277
  replace h := (if_neg c1_16).symm.trans h
  by_cases c1_17 : a0 = 17
  · replace h := (if_pos c1_17).symm.trans h
    refine Go.tin (tgt := 278) (off := 277) hx hb 17 c1_17 d_VM_perform_1 (by decide) (by decide) rfl rfl ?_
    refine Go.aload_n hx hb 0 rfl d_VM_perform_278 ?_
    refine Go.aload_n hx hb 0 rfl d_VM_perform_279 ?_
    refine Go.get (v := .long (gL st 0)) hx hb hts in_VM hown hK 0 (Xw_0 ad ca _) rfl 5 (by decide) (hts _ k_175) (fun _ h9 => h9) rfl d_VM_perform_280 ?_
    refine Go.ldc2 (v := 8589934592) hx hb hown (hts _ k_389) d_VM_perform_283 ?_
    refine Go.lcmp_eq (tgt := 294) hx hb d_VM_perform_286 d_VM_perform_287 rfl (fun c286 => ?_) (fun c286 => ?_)
    · replace h := (if_pos c286).symm.trans h
      refine Go.iconst (v := 0) hx hb (by decide) d_VM_perform_294 ?_
      refine Go.iload_n hx hb 2 rfl d_VM_perform_295 ?_
      obtain ⟨r20, s20, q20, h⟩ := gb_some h
      refine Go.callVi S hK hA 0 (Xw_0 ad ca _) rfl (fun sz9 => m_VM_goIf l D ad ca N _ sz9 _ _ r20 s20 q20) (cwV 2 hts (gwV k_473 k_475 k_18 k_62 k_476) rfl rfl rfl (by decide +kernel) ⟨Nat.le_of_ble_eq_true rfl, Nat.le_of_ble_eq_true rfl⟩) rfl rfl (Nat.le_of_ble_eq_true rfl) ⟨Nat.zero_le _, Nat.zero_le _⟩ d_VM_perform_296 ?_
      exact Go.iret hx hb hr hK hlk h d_VM_perform_299
    · replace h := (if_neg c286).symm.trans h
      refine Go.iconst (v := 1) hx hb (by decide) d_VM_perform_290 ?_
      refine Go.goto (tgt := 295) hx hb d_VM_perform_291 rfl ?_
      refine Go.iload_n hx hb 2 rfl d_VM_perform_295 ?_
      obtain ⟨r21, s21, q21, h⟩ := gb_some h
      refine Go.callVi S hK hA 0 (Xw_0 ad ca _) rfl (fun sz9 => m_VM_goIf l D ad ca N _ sz9 _ _ r21 s21 q21) (cwV 2 hts (gwV k_473 k_475 k_18 k_62 k_476) rfl rfl rfl (by decide +kernel) ⟨Nat.le_of_ble_eq_true rfl, Nat.le_of_ble_eq_true rfl⟩) rfl rfl (Nat.le_of_ble_eq_true rfl) ⟨Nat.zero_le _, Nat.zero_le _⟩ d_VM_perform_296 ?_
      exact Go.iret hx hb hr hK hlk h d_VM_perform_299
  replace h := (if_neg c1_17).symm.trans h
  by_cases c1_18 : a0 = 18
  · replace h := (if_pos c1_18).symm.trans h
    refine Go.tin (tgt := 300) (off := 299) hx hb 18 c1_18 d_VM_perform_1 (by decide) (by decide) rfl rfl ?_
    refine Go.aload_n hx hb 0 rfl d_VM_perform_300 ?_
    obtain ⟨r22, s22, q22, h⟩ := gb_some h
    refine Go.callVi S hK hA 0 (Xw_0 ad ca _) rfl (fun sz9 => m_VM_compareSame l D ad ca N _ sz9 r22 s22 q22) (cwV 0 hts (gwV k_481 k_483 k_19 k_62 k_484) rfl rfl rfl (by decide +kernel) ⟨Nat.le_of_ble_eq_true rfl, Nat.le_of_ble_eq_true rfl⟩) rfl rfl (Nat.le_of_ble_eq_true rfl) ⟨Nat.zero_le _, Nat.zero_le _⟩ d_VM_perform_301 ?_
    exact Go.iret hx hb hr hK hlk h d_VM_perform_304
  replace h := (if_neg c1_18).symm.trans h
  by_cases c1_19 : a0 = 19
  · replace h := (if_pos c1_19).symm.trans h
    refine Go.tin (tgt := 305) (off := 304) hx hb 19 c1_19 d_VM_perform_1 (by decide) (by decide) rfl rfl ?_
    refine Go.aload_n hx hb 0 rfl d_VM_perform_305 ?_
    obtain ⟨r23, s23, q23, h⟩ := gb_some h
    refine Go.callVi S hK hA 0 (Xw_0 ad ca _) rfl (fun sz9 => m_VM_compareLess l D ad ca N _ sz9 r23 s23 q23) (cwV 0 hts (gwV k_490 k_492 k_20 k_62 k_493) rfl rfl rfl (by decide +kernel) ⟨Nat.le_of_ble_eq_true rfl, Nat.le_of_ble_eq_true rfl⟩) rfl rfl (Nat.le_of_ble_eq_true rfl) ⟨Nat.zero_le _, Nat.zero_le _⟩ d_VM_perform_306 ?_
    exact Go.iret hx hb hr hK hlk h d_VM_perform_309
  replace h := (if_neg c1_19).symm.trans h
  by_cases c1_20 : a0 = 20
  · replace h := (if_pos c1_20).symm.trans h
    refine Go.tin (tgt := 310) (off := 309) hx hb 20 c1_20 d_VM_perform_1 (by decide) (by decide) rfl rfl ?_
    refine Go.aload_n hx hb 0 rfl d_VM_perform_310 ?_
    refine Go.iload_n hx hb 1 rfl d_VM_perform_311 ?_
    obtain ⟨r24, s24, q24, h⟩ := gb_some h
    refine Go.callVi S hK hA 0 (Xw_0 ad ca _) rfl (fun sz9 => m_VM_calculate l D ad ca N _ sz9 _ r24 s24 q24) (cwV 1 hts (gwV k_498 k_500 k_22 k_62 k_501) rfl rfl rfl (by decide +kernel) ⟨Nat.le_of_ble_eq_true rfl, Nat.le_of_ble_eq_true rfl⟩) rfl rfl (Nat.le_of_ble_eq_true rfl) ⟨Nat.zero_le _, Nat.zero_le _⟩ d_VM_perform_312 ?_
    exact Go.iret hx hb hr hK hlk h d_VM_perform_315
  replace h := (if_neg c1_20).symm.trans h
  by_cases c1_21 : a0 = 21
  · replace h := (if_pos c1_21).symm.trans h
    refine Go.tin (tgt := 310) (off := 309) hx hb 21 c1_21 d_VM_perform_1 (by decide) (by decide) rfl rfl ?_
    refine Go.aload_n hx hb 0 rfl d_VM_perform_310 ?_
    refine Go.iload_n hx hb 1 rfl d_VM_perform_311 ?_
    obtain ⟨r25, s25, q25, h⟩ := gb_some h
    refine Go.callVi S hK hA 0 (Xw_0 ad ca _) rfl (fun sz9 => m_VM_calculate l D ad ca N _ sz9 _ r25 s25 q25) (cwV 1 hts (gwV k_498 k_500 k_22 k_62 k_501) rfl rfl rfl (by decide +kernel) ⟨Nat.le_of_ble_eq_true rfl, Nat.le_of_ble_eq_true rfl⟩) rfl rfl (Nat.le_of_ble_eq_true rfl) ⟨Nat.zero_le _, Nat.zero_le _⟩ d_VM_perform_312 ?_
    exact Go.iret hx hb hr hK hlk h d_VM_perform_315
  replace h := (if_neg c1_21).symm.trans h
  by_cases c1_22 : a0 = 22
  · replace h := (if_pos c1_22).symm.trans h
    refine Go.tin (tgt := 310) (off := 309) hx hb 22 c1_22 d_VM_perform_1 (by decide) (by decide) rfl rfl ?_
    refine Go.aload_n hx hb 0 rfl d_VM_perform_310 ?_
    refine Go.iload_n hx hb 1 rfl d_VM_perform_311 ?_
    obtain ⟨r26, s26, q26, h⟩ := gb_some h
    refine Go.callVi S hK hA 0 (Xw_0 ad ca _) rfl (fun sz9 => m_VM_calculate l D ad ca N _ sz9 _ r26 s26 q26) (cwV 1 hts (gwV k_498 k_500 k_22 k_62 k_501) rfl rfl rfl (by decide +kernel) ⟨Nat.le_of_ble_eq_true rfl, Nat.le_of_ble_eq_true rfl⟩) rfl rfl (Nat.le_of_ble_eq_true rfl) ⟨Nat.zero_le _, Nat.zero_le _⟩ d_VM_perform_312 ?_
    exact Go.iret hx hb hr hK hlk h d_VM_perform_315
  replace h := (if_neg c1_22).symm.trans h
  by_cases c1_23 : a0 = 23
  · replace h := (if_pos c1_23).symm.trans h
    refine Go.tin (tgt := 316) (off := 315) hx hb 23 c1_23 d_VM_perform_1 (by decide) (by decide) rfl rfl ?_
    refine Go.aload_n hx hb 0 rfl d_VM_perform_316 ?_
    refine Go.iload_n hx hb 1 rfl d_VM_perform_317 ?_
    obtain ⟨r27, s27, q27, h⟩ := gb_some h
    refine Go.callVi S hK hA 0 (Xw_0 ad ca _) rfl (fun sz9 => m_VM_divide l D ad ca N _ sz9 _ r27 s27 q27) (cwV 1 hts (gwV k_502 k_504 k_23 k_62 k_505) rfl rfl rfl (by decide +kernel) ⟨Nat.le_of_ble_eq_true rfl, Nat.le_of_ble_eq_true rfl⟩) rfl rfl (Nat.le_of_ble_eq_true rfl) ⟨Nat.zero_le _, Nat.zero_le _⟩ d_VM_perform_318 ?_
    exact Go.iret hx hb hr hK hlk h d_VM_perform_321
  replace h := (if_neg c1_23).symm.trans h
  by_cases c1_24 : a0 = 24
  · replace h := (if_pos c1_24).symm.trans h
    refine Go.tin (tgt := 316) (off := 315) hx hb 24 c1_24 d_VM_perform_1 (by decide) (by decide) rfl rfl ?_
    refine Go.aload_n hx hb 0 rfl d_VM_perform_316 ?_
    refine Go.iload_n hx hb 1 rfl d_VM_perform_317 ?_
    obtain ⟨r28, s28, q28, h⟩ := gb_some h
    refine Go.callVi S hK hA 0 (Xw_0 ad ca _) rfl (fun sz9 => m_VM_divide l D ad ca N _ sz9 _ r28 s28 q28) (cwV 1 hts (gwV k_502 k_504 k_23 k_62 k_505) rfl rfl rfl (by decide +kernel) ⟨Nat.le_of_ble_eq_true rfl, Nat.le_of_ble_eq_true rfl⟩) rfl rfl (Nat.le_of_ble_eq_true rfl) ⟨Nat.zero_le _, Nat.zero_le _⟩ d_VM_perform_318 ?_
    exact Go.iret hx hb hr hK hlk h d_VM_perform_321
  replace h := (if_neg c1_24).symm.trans h
  by_cases c1_25 : a0 = 25
  · replace h := (if_pos c1_25).symm.trans h
    refine Go.tin (tgt := 322) (off := 321) hx hb 25 c1_25 d_VM_perform_1 (by decide) (by decide) rfl rfl ?_
    refine Go.aload_n hx hb 0 rfl d_VM_perform_322 ?_
    refine Go.aload_n hx hb 0 rfl d_VM_perform_323 ?_
    refine Go.get (v := .long (gL st 0)) hx hb hts in_VM hown hK 0 (Xw_0 ad ca _) rfl 5 (by decide) (hts _ k_175) (fun _ h9 => h9) rfl d_VM_perform_324 ?_
    refine Go.ldc2 (v := 8589934592) hx hb hown (hts _ k_389) d_VM_perform_327 ?_
    refine Go.lcmp_eq (tgt := 338) hx hb d_VM_perform_330 d_VM_perform_331 rfl (fun c330 => ?_) (fun c330 => ?_)
    · replace h := (if_pos c330).symm.trans h
      refine Go.iconst (v := 0) hx hb (by decide) d_VM_perform_338 ?_
      obtain ⟨r29, s29, q29, h⟩ := gb_some h
      refine Go.callSl S hK hA (fun sz9 => m_Value_truth l D ad ca N _ sz9 _ r29 s29 q29) (va_cwS 1 hts (gwS k_485 k_486 k_72 k_487) rfl rfl rfl (by decide +kernel) ⟨Nat.le_of_ble_eq_true rfl, Nat.le_of_ble_eq_true rfl⟩) rfl rfl (Nat.le_of_ble_eq_true rfl) ⟨Nat.zero_le _, Nat.zero_le _⟩ d_VM_perform_339 ?_
      obtain ⟨r30, s30, q30, h⟩ := gb_some h
      refine Go.callVi S hK hA 0 (Xw_0 ad ca _) rfl (fun sz9 => m_VM_accept l D ad ca N _ sz9 _ r30 s30 q30) (cwV 1 hts (gwV k_384 k_386 k_4 k_62 k_387) rfl rfl rfl (by decide +kernel) ⟨Nat.le_of_ble_eq_true rfl, Nat.le_of_ble_eq_true rfl⟩) rfl rfl (Nat.le_of_ble_eq_true rfl) ⟨Nat.zero_le _, Nat.zero_le _⟩ d_VM_perform_342 ?_
      exact Go.iret hx hb hr hK hlk h d_VM_perform_345
    · replace h := (if_neg c330).symm.trans h
      refine Go.iconst (v := 1) hx hb (by decide) d_VM_perform_334 ?_
      refine Go.goto (tgt := 339) hx hb d_VM_perform_335 rfl ?_
      obtain ⟨r31, s31, q31, h⟩ := gb_some h
      refine Go.callSl S hK hA (fun sz9 => m_Value_truth l D ad ca N _ sz9 _ r31 s31 q31) (va_cwS 1 hts (gwS k_485 k_486 k_72 k_487) rfl rfl rfl (by decide +kernel) ⟨Nat.le_of_ble_eq_true rfl, Nat.le_of_ble_eq_true rfl⟩) rfl rfl (Nat.le_of_ble_eq_true rfl) ⟨Nat.zero_le _, Nat.zero_le _⟩ d_VM_perform_339 ?_
      obtain ⟨r32, s32, q32, h⟩ := gb_some h
      refine Go.callVi S hK hA 0 (Xw_0 ad ca _) rfl (fun sz9 => m_VM_accept l D ad ca N _ sz9 _ r32 s32 q32) (cwV 1 hts (gwV k_384 k_386 k_4 k_62 k_387) rfl rfl rfl (by decide +kernel) ⟨Nat.le_of_ble_eq_true rfl, Nat.le_of_ble_eq_true rfl⟩) rfl rfl (Nat.le_of_ble_eq_true rfl) ⟨Nat.zero_le _, Nat.zero_le _⟩ d_VM_perform_342 ?_
      exact Go.iret hx hb hr hK hlk h d_VM_perform_345
  replace h := (if_neg c1_25).symm.trans h
  by_cases c1_26 : a0 = 26
  · replace h := (if_pos c1_26).symm.trans h
    refine Go.tin (tgt := 346) (off := 345) hx hb 26 c1_26 d_VM_perform_1 (by decide) (by decide) rfl rfl ?_
    refine Go.aload_n hx hb 0 rfl d_VM_perform_346 ?_
    refine Go.aload_n hx hb 0 rfl d_VM_perform_347 ?_
    refine Go.get (v := .long (gL st 0)) hx hb hts in_VM hown hK 0 (Xw_0 ad ca _) rfl 5 (by decide) (hts _ k_175) (fun _ h9 => h9) rfl d_VM_perform_348 ?_
    obtain ⟨r33, s33, q33, h⟩ := gb_some h
    refine Go.callSi S hK hA (fun sz9 => m_Value_sortOf l D ad ca N _ sz9 _ r33 s33 q33) (va_cwS 1 hts (gwS k_235 k_236 k_72 k_237) rfl rfl rfl (by decide +kernel) ⟨Nat.le_of_ble_eq_true rfl, Nat.le_of_ble_eq_true rfl⟩) rfl rfl (Nat.le_of_ble_eq_true rfl) ⟨Nat.zero_le _, Nat.zero_le _⟩ d_VM_perform_351 ?_
    obtain ⟨r34, s34, q34, h⟩ := gb_some h
    refine Go.callSl S hK hA (fun sz9 => m_Value_integer l D ad ca N _ sz9 _ r34 s34 q34) (va_cwS 1 hts (gwS k_390 k_391 k_72 k_392) rfl rfl rfl (by decide +kernel) ⟨Nat.le_of_ble_eq_true rfl, Nat.le_of_ble_eq_true rfl⟩) rfl rfl (Nat.le_of_ble_eq_true rfl) ⟨Nat.zero_le _, Nat.zero_le _⟩ d_VM_perform_354 ?_
    obtain ⟨r35, s35, q35, h⟩ := gb_some h
    refine Go.callVi S hK hA 0 (Xw_0 ad ca _) rfl (fun sz9 => m_VM_accept l D ad ca N _ sz9 _ r35 s35 q35) (cwV 1 hts (gwV k_384 k_386 k_4 k_62 k_387) rfl rfl rfl (by decide +kernel) ⟨Nat.le_of_ble_eq_true rfl, Nat.le_of_ble_eq_true rfl⟩) rfl rfl (Nat.le_of_ble_eq_true rfl) ⟨Nat.zero_le _, Nat.zero_le _⟩ d_VM_perform_357 ?_
    exact Go.iret hx hb hr hK hlk h d_VM_perform_360
  replace h := (if_neg c1_26).symm.trans h
  by_cases c1_27 : a0 = 27
  · replace h := (if_pos c1_27).symm.trans h
    refine Go.tin (tgt := 361) (off := 360) hx hb 27 c1_27 d_VM_perform_1 (by decide) (by decide) rfl rfl ?_
    refine Go.aload_n hx hb 0 rfl d_VM_perform_361 ?_
    obtain ⟨r36, s36, q36, h⟩ := gb_some h
    refine Go.callVi S hK hA 0 (Xw_0 ad ca _) rfl (fun sz9 => m_VM_makeObject l D ad ca N _ sz9 r36 s36 q36) (cwV 0 hts (gwV k_506 k_508 k_24 k_62 k_509) rfl rfl rfl (by decide +kernel) ⟨Nat.le_of_ble_eq_true rfl, Nat.le_of_ble_eq_true rfl⟩) rfl rfl (Nat.le_of_ble_eq_true rfl) ⟨Nat.zero_le _, Nat.zero_le _⟩ d_VM_perform_362 ?_
    exact Go.iret hx hb hr hK hlk h d_VM_perform_365
  replace h := (if_neg c1_27).symm.trans h
  by_cases c1_28 : a0 = 28
  · replace h := (if_pos c1_28).symm.trans h
    refine Go.tin (tgt := 366) (off := 365) hx hb 28 c1_28 d_VM_perform_1 (by decide) (by decide) rfl rfl ?_
    refine Go.aload_n hx hb 0 rfl d_VM_perform_366 ?_
    refine Go.iload_n hx hb 2 rfl d_VM_perform_367 ?_
    obtain ⟨r37, s37, q37, h⟩ := gb_some h
    refine Go.callVi S hK hA 0 (Xw_0 ad ca _) rfl (fun sz9 => m_VM_makeArray l D ad ca N _ sz9 _ r37 s37 q37) (cwV 1 hts (gwV k_541 k_543 k_27 k_62 k_544) rfl rfl rfl (by decide +kernel) ⟨Nat.le_of_ble_eq_true rfl, Nat.le_of_ble_eq_true rfl⟩) rfl rfl (Nat.le_of_ble_eq_true rfl) ⟨Nat.zero_le _, Nat.zero_le _⟩ d_VM_perform_368 ?_
    exact Go.iret hx hb hr hK hlk h d_VM_perform_371
  replace h := (if_neg c1_28).symm.trans h
  by_cases c1_29 : a0 = 29
  · replace h := (if_pos c1_29).symm.trans h
    refine Go.tin (tgt := 372) (off := 371) hx hb 29 c1_29 d_VM_perform_1 (by decide) (by decide) rfl rfl ?_
    refine Go.aload_n hx hb 0 rfl d_VM_perform_372 ?_
    refine Go.iload_n hx hb 2 rfl d_VM_perform_373 ?_
    obtain ⟨r38, s38, q38, h⟩ := gb_some h
    refine Go.callVi S hK hA 0 (Xw_0 ad ca _) rfl (fun sz9 => m_VM_makeFunction l D ad ca N _ sz9 _ r38 s38 q38) (cwV 1 hts (gwV k_545 k_547 k_28 k_62 k_548) rfl rfl rfl (by decide +kernel) ⟨Nat.le_of_ble_eq_true rfl, Nat.le_of_ble_eq_true rfl⟩) rfl rfl (Nat.le_of_ble_eq_true rfl) ⟨Nat.zero_le _, Nat.zero_le _⟩ d_VM_perform_374 ?_
    exact Go.iret hx hb hr hK hlk h d_VM_perform_377
  replace h := (if_neg c1_29).symm.trans h
  by_cases c1_30 : a0 = 30
  · replace h := (if_pos c1_30).symm.trans h
    refine Go.tin (tgt := 378) (off := 377) hx hb 30 c1_30 d_VM_perform_1 (by decide) (by decide) rfl rfl ?_
    refine Go.aload_n hx hb 0 rfl d_VM_perform_378 ?_
    refine Go.iload_n hx hb 2 rfl d_VM_perform_379 ?_
    obtain ⟨r39, s39, q39, h⟩ := gb_some h
    refine Go.callVi S hK hA 0 (Xw_0 ad ca _) rfl (fun sz9 => m_VM_callFunction l D ad ca N _ sz9 _ r39 s39 q39) (cwV 1 hts (gwV k_550 k_552 k_29 k_62 k_553) rfl rfl rfl (by decide +kernel) ⟨Nat.le_of_ble_eq_true rfl, Nat.le_of_ble_eq_true rfl⟩) rfl rfl (Nat.le_of_ble_eq_true rfl) ⟨Nat.zero_le _, Nat.zero_le _⟩ d_VM_perform_380 ?_
    exact Go.iret hx hb hr hK hlk h d_VM_perform_383
  replace h := (if_neg c1_30).symm.trans h
  by_cases c1_31 : a0 = 31
  · replace h := (if_pos c1_31).symm.trans h
    refine Go.tin (tgt := 384) (off := 383) hx hb 31 c1_31 d_VM_perform_1 (by decide) (by decide) rfl rfl ?_
    refine Go.aload_n hx hb 0 rfl d_VM_perform_384 ?_
    refine Go.iload_n hx hb 2 rfl d_VM_perform_385 ?_
    obtain ⟨r40, s40, q40, h⟩ := gb_some h
    refine Go.callVi S hK hA 0 (Xw_0 ad ca _) rfl (fun sz9 => m_VM_returnFromCall l D ad ca N _ sz9 _ r40 s40 q40) (cwV 1 hts (gwV k_566 k_568 k_31 k_62 k_569) rfl rfl rfl (by decide +kernel) ⟨Nat.le_of_ble_eq_true rfl, Nat.le_of_ble_eq_true rfl⟩) rfl rfl (Nat.le_of_ble_eq_true rfl) ⟨Nat.zero_le _, Nat.zero_le _⟩ d_VM_perform_386 ?_
    exact Go.iret hx hb hr hK hlk h d_VM_perform_389
  replace h := (if_neg c1_31).symm.trans h
  by_cases c1_32 : a0 = 32
  · replace h := (if_pos c1_32).symm.trans h
    refine Go.tin (tgt := 390) (off := 389) hx hb 32 c1_32 d_VM_perform_1 (by decide) (by decide) rfl rfl ?_
    refine Go.aload_n hx hb 0 rfl d_VM_perform_390 ?_
    refine Go.iload_n hx hb 2 rfl d_VM_perform_391 ?_
    obtain ⟨r41, s41, q41, h⟩ := gb_some h
    refine Go.callVi S hK hA 0 (Xw_0 ad ca _) rfl (fun sz9 => m_VM_noteTrap l D ad ca N _ sz9 _ r41 s41 q41) (cwV 1 hts (gwV k_578 k_580 k_32 k_62 k_581) rfl rfl rfl (by decide +kernel) ⟨Nat.le_of_ble_eq_true rfl, Nat.le_of_ble_eq_true rfl⟩) rfl rfl (Nat.le_of_ble_eq_true rfl) ⟨Nat.zero_le _, Nat.zero_le _⟩ d_VM_perform_392 ?_
    exact Go.iret hx hb hr hK hlk h d_VM_perform_395
  replace h := (if_neg c1_32).symm.trans h
  by_cases c1_33 : a0 = 33
  · replace h := (if_pos c1_33).symm.trans h
    refine Go.tin (tgt := 396) (off := 395) hx hb 33 c1_33 d_VM_perform_1 (by decide) (by decide) rfl rfl ?_
    refine Go.aload_n hx hb 0 rfl d_VM_perform_396 ?_
    obtain ⟨r42, s42, q42, h⟩ := gb_some h
    refine Go.callVi S hK hA 0 (Xw_0 ad ca _) rfl (fun sz9 => m_VM_dropTrap l D ad ca N _ sz9 r42 s42 q42) (cwV 0 hts (gwV k_586 k_588 k_33 k_62 k_589) rfl rfl rfl (by decide +kernel) ⟨Nat.le_of_ble_eq_true rfl, Nat.le_of_ble_eq_true rfl⟩) rfl rfl (Nat.le_of_ble_eq_true rfl) ⟨Nat.zero_le _, Nat.zero_le _⟩ d_VM_perform_397 ?_
    exact Go.iret hx hb hr hK hlk h d_VM_perform_400
  replace h := (if_neg c1_33).symm.trans h
  by_cases c1_34 : a0 = 34
  · replace h := (if_pos c1_34).symm.trans h
    refine Go.tin (tgt := 401) (off := 400) hx hb 34 c1_34 d_VM_perform_1 (by decide) (by decide) rfl rfl ?_
    refine Go.bipush (v := 9) hx hb (by decide) d_VM_perform_401 ?_
    exact Go.iret hx hb hr hK hlk h d_VM_perform_403
  replace h := (if_neg c1_34).symm.trans h
  have n1_0 := lv_neT (a := 0) c1_0 (by decide)
  have n1_1 := lv_neT (a := 1) c1_1 (by decide)
  have n1_2 := lv_neT (a := 2) c1_2 (by decide)
  have n1_3 := lv_neT (a := 3) c1_3 (by decide)
  have n1_4 := lv_neT (a := 4) c1_4 (by decide)
  have n1_5 := lv_neT (a := 5) c1_5 (by decide)
  have n1_6 := lv_neT (a := 6) c1_6 (by decide)
  have n1_7 := lv_neT (a := 7) c1_7 (by decide)
  have n1_8 := lv_neT (a := 8) c1_8 (by decide)
  have n1_9 := lv_neT (a := 9) c1_9 (by decide)
  have n1_10 := lv_neT (a := 10) c1_10 (by decide)
  have n1_11 := lv_neT (a := 11) c1_11 (by decide)
  have n1_12 := lv_neT (a := 12) c1_12 (by decide)
  have n1_13 := lv_neT (a := 13) c1_13 (by decide)
  have n1_14 := lv_neT (a := 14) c1_14 (by decide)
  have n1_15 := lv_neT (a := 15) c1_15 (by decide)
  have n1_16 := lv_neT (a := 16) c1_16 (by decide)
  have n1_17 := lv_neT (a := 17) c1_17 (by decide)
  have n1_18 := lv_neT (a := 18) c1_18 (by decide)
  have n1_19 := lv_neT (a := 19) c1_19 (by decide)
  have n1_20 := lv_neT (a := 20) c1_20 (by decide)
  have n1_21 := lv_neT (a := 21) c1_21 (by decide)
  have n1_22 := lv_neT (a := 22) c1_22 (by decide)
  have n1_23 := lv_neT (a := 23) c1_23 (by decide)
  have n1_24 := lv_neT (a := 24) c1_24 (by decide)
  have n1_25 := lv_neT (a := 25) c1_25 (by decide)
  have n1_26 := lv_neT (a := 26) c1_26 (by decide)
  have n1_27 := lv_neT (a := 27) c1_27 (by decide)
  have n1_28 := lv_neT (a := 28) c1_28 (by decide)
  have n1_29 := lv_neT (a := 29) c1_29 (by decide)
  have n1_30 := lv_neT (a := 30) c1_30 (by decide)
  have n1_31 := lv_neT (a := 31) c1_31 (by decide)
  have n1_32 := lv_neT (a := 32) c1_32 (by decide)
  have n1_33 := lv_neT (a := 33) c1_33 (by decide)
  have n1_34 := lv_neT (a := 34) c1_34 (by decide)
  refine Go.tout (tgt := 401) hx hb d_VM_perform_1 (by omega) rfl ?_
  refine Go.bipush (v := 9) hx hb (by decide) d_VM_perform_401 ?_
  exact Go.iret hx hb hr hK hlk h d_VM_perform_403
