set_option maxHeartbeats 4000000 in
set_option maxRecDepth 100000 in
theorem m_Ref_notes (l : Launch) (D : va_G) (ad : Nat → Nat) (ca : Nat → ClassId) (N : Nat) (st : SG) (sz : Nat) (a0 : Int32) (a1 : Int32) (r : Unit) (u : SG) (h : fR_ValueMachineModel_notes N st a0 a1 = some (r, u)) : Met l y_Ref_notes (Cond.code y_Ref_notes c_Ref_notes 3 none :: tbl) ({ frames := 0, cells := 0, slots := 0, locals := 0 } : Room) (va_Pc [.ref (ad 0), .int a0, .int a1] (goPre (Rw ad ca) D vwCl (Rtys ca) sz st)) (va_Qv (fun u' => u' = u) (goPost (Rw ad ca) D vwCl (Rtys ca) (va_A (Rw ad ca st) sz)) (va_A (Rw ad ca st) sz)) 0 0 (va_A (Rw ad ca st) sz) := by
  refine go_met (Qc := fun A9 => va_Qv (fun u' => u' = u) (goPost (Rw ad ca) D vwCl (Rtys ca) A9) A9) (cc := c_Ref_notes) (maxL := 3) (ret := none) [(0, .ref (ad 0)), (1, .int a0), (2, .int a1)] (by decide) rfl (Nat.le_of_ble_eq_true rfl) rfl ?_
  intro p e s m below meth c A S hr hlk hK hA hsz
  obtain ⟨hx, hb, hml, hown, hts⟩ := id S
  unfold fR_ValueMachineModel_notes at h
  refine Go.aload_n hx hb 0 rfl d_Ref_notes_0 ?_
  refine Go.get (v := .ref (ad 7)) hx hb hts in_Ref hown hK 0 (Rw_0 ad ca _) rfl 11 (by decide) (hts _ k_626) (fun _ h9 => h9) rfl d_Ref_notes_1 ?_
  refine Go.aload_n hx hb 0 rfl d_Ref_notes_4 ?_
  refine Go.get (v := .int (gI st 5)) hx hb hts in_Ref hown hK 0 (Rw_0 ad ca _) rfl 13 (by decide) (hts _ k_628) (fun _ h9 => h9) rfl d_Ref_notes_5 ?_
  refine Go.iload_n hx hb 1 rfl d_Ref_notes_8 ?_
  obtain ⟨c9, h⟩ := gg_some h
  refine Go.iast hx hb hK 7 6 (Rw_7 ad ca _) rfl c9 (uA st 6 (upd (gA st 6) (gI st 5).toNatClampNeg a0)) (Rs_A6 ad ca _ _) d_Ref_notes_9 ?_
  refine Go.aload_n hx hb 0 rfl d_Ref_notes_10 ?_
  refine Go.get (v := .ref (ad 8)) hx hb hts in_Ref hown hK 0 (Rw_0 ad ca _) rfl 12 (by decide) (hts _ k_627) (fun _ h9 => h9) rfl d_Ref_notes_11 ?_
  refine Go.aload_n hx hb 0 rfl d_Ref_notes_14 ?_
  refine Go.get (v := .int (gI st 5)) hx hb hts in_Ref hown hK 0 (Rw_0 ad ca _) rfl 13 (by decide) (hts _ k_628) (fun _ h9 => h9) rfl d_Ref_notes_15 ?_
  refine Go.iload_n hx hb 2 rfl d_Ref_notes_18 ?_
  obtain ⟨c19, h⟩ := gg_some h
  refine Go.iast hx hb hK 8 7 (Rw_8 ad ca _) rfl c19 (uA (uA st 6 (upd (gA st 6) (gI st 5).toNatClampNeg a0)) 7 (upd (gA st 7) (gI st 5).toNatClampNeg a1)) (Rs_A7 ad ca _ _) d_Ref_notes_19 ?_
  refine Go.aload_n hx hb 0 rfl d_Ref_notes_20 ?_
  refine Go.dup hx hb rfl d_Ref_notes_21 ?_
  refine Go.get (v := .int (gI st 5)) hx hb hts in_Ref hown hK 0 (Rw_0 ad ca _) rfl 13 (by decide) (hts _ k_628) (fun _ h9 => h9) rfl d_Ref_notes_22 ?_
  refine Go.iconst (v := 1) hx hb (by decide) d_Ref_notes_25 ?_
  refine Go.iadd hx hb d_Ref_notes_26 ?_
  refine Go.put (ty := (.int)) hx hb hts in_Ref ty_Ref tyok_Ref nm_Ref hown hK 0 (Rw_0 ad ca _) rfl 13 (by decide) (hts _ k_628) (fun _ h9 => h9) rfl (by decide +kernel) rfl rfl (Nat.le_of_ble_eq_true rfl) (uI (uA (uA st 6 (upd (gA st 6) (gI st 5).toNatClampNeg a0)) 7 (upd (gA st 7) (gI st 5).toNatClampNeg a1)) 5 ((gI st 5) + 1)) (Rs_I5 ad ca _ _) d_Ref_notes_27 ?_
  exact Go.vret hx hb hr hK hlk h d_Ref_notes_30
set_option maxHeartbeats 4000000 in
set_option maxRecDepth 100000 in
theorem m_Ref_calls (l : Launch) (D : va_G) (ad : Nat → Nat) (ca : Nat → ClassId) (N : Nat) (st : SG) (sz : Nat) (a0 : Int32) (r : Unit) (u : SG) (h : fR_ValueMachineModel_calls N st a0 = some (r, u)) : Met l y_Ref_calls (Cond.code y_Ref_calls c_Ref_calls 2 none :: tbl) ({ frames := 2, cells := 0, slots := 0, locals := 43 } : Room) (va_Pc [.ref (ad 0), .int a0] (goPre (Rw ad ca) D vwCl (Rtys ca) sz st)) (va_Qv (fun u' => u' = u) (goPost (Rw ad ca) D vwCl (Rtys ca) (va_A (Rw ad ca st) sz)) (va_A (Rw ad ca st) sz)) 0 0 (va_A (Rw ad ca st) sz) := by
  refine go_met (Qc := fun A9 => va_Qv (fun u' => u' = u) (goPost (Rw ad ca) D vwCl (Rtys ca) A9) A9) (cc := c_Ref_calls) (maxL := 2) (ret := none) [(0, .ref (ad 0)), (1, .int a0)] (by decide) rfl (Nat.le_of_ble_eq_true rfl) rfl ?_
  intro p e s m below meth c A S hr hlk hK hA hsz
  obtain ⟨hx, hb, hml, hown, hts⟩ := id S
  unfold fR_ValueMachineModel_calls at h
  refine Go.aload_n hx hb 0 rfl d_Ref_calls_0 ?_
  refine Go.iload_n hx hb 1 rfl d_Ref_calls_1 ?_
  obtain ⟨r1, s1, q1, h⟩ := gb_some h
  refine Go.callVi S hK hA 0 (Rw_0 ad ca _) rfl (fun sz9 => m_Ref_has l D ad ca N _ sz9 _ r1 s1 q1) (cwV 1 hts (gwV k_763 k_765 k_44 k_67 k_766) rfl rfl rfl (by decide +kernel) ⟨Nat.le_of_ble_eq_true rfl, Nat.le_of_ble_eq_true rfl⟩) rfl rfl (Nat.le_of_ble_eq_true rfl) ⟨Nat.zero_le _, Nat.zero_le _⟩ d_Ref_calls_2 ?_
  refine Go.pop hx hb rfl d_Ref_calls_5 ?_
  refine Go.aload_n hx hb 0 rfl d_Ref_calls_6 ?_
  refine Go.bipush (v := 6) hx hb (by decide) d_Ref_calls_7 ?_
  obtain ⟨r2, s2, q2, h⟩ := gb_some h
  refine Go.callVi S hK hA 0 (Rw_0 ad ca _) rfl (fun sz9 => m_Ref_isAcc l D ad ca N _ sz9 _ r2 s2 q2) (cwV 1 hts (gwV k_755 k_757 k_42 k_67 k_758) rfl rfl rfl (by decide +kernel) ⟨Nat.le_of_ble_eq_true rfl, Nat.le_of_ble_eq_true rfl⟩) rfl rfl (Nat.le_of_ble_eq_true rfl) ⟨Nat.zero_le _, Nat.zero_le _⟩ d_Ref_calls_9 ?_
  refine Go.pop hx hb rfl d_Ref_calls_12 ?_
  refine Go.aload_n hx hb 0 rfl d_Ref_calls_13 ?_
  refine Go.aload_n hx hb 0 rfl d_Ref_calls_14 ?_
  refine Go.get (v := .int (gI s2 5)) hx hb hts in_Ref hown hK 0 (Rw_0 ad ca _) rfl 13 (by decide) (hts _ k_628) (fun _ h9 => h9) rfl d_Ref_calls_15 ?_
  refine Go.bipush (v := 40) hx hb (by decide) d_Ref_calls_18 ?_
  refine Go.icmp_ge (tgt := 27) hx hb d_Ref_calls_20 rfl (fun c20 => ?_) (fun c20 => ?_)
  · replace h := (if_pos c20).symm.trans h
    refine Go.iconst (v := 0) hx hb (by decide) d_Ref_calls_27 ?_
    refine Go.iconst (v := 4) hx hb (by decide) d_Ref_calls_28 ?_
    obtain ⟨r3, s3, q3, h⟩ := gb_some h
    refine Go.callVi S hK hA 0 (Rw_0 ad ca _) rfl (fun sz9 => m_Ref_needs l D ad ca N _ sz9 _ _ r3 s3 q3) (cwV 2 hts (gwV k_747 k_749 k_40 k_67 k_750) rfl rfl rfl (by decide +kernel) ⟨Nat.le_of_ble_eq_true rfl, Nat.le_of_ble_eq_true rfl⟩) rfl rfl (Nat.le_of_ble_eq_true rfl) ⟨Nat.zero_le _, Nat.zero_le _⟩ d_Ref_calls_29 ?_
    refine Go.pop hx hb rfl d_Ref_calls_32 ?_
    refine Go.aload_n hx hb 0 rfl d_Ref_calls_33 ?_
    refine Go.get (v := .int (gI s3 2)) hx hb hts in_Ref hown hK 0 (Rw_0 ad ca _) rfl 4 (by decide) (hts _ k_619) (fun _ h9 => h9) rfl d_Ref_calls_34 ?_
    refine Go.bipush (v := 6) hx hb (by decide) d_Ref_calls_37 ?_
    refine Go.icmp_ne (tgt := 64) hx hb d_Ref_calls_39 rfl (fun c39 => ?_) (fun c39 => ?_)
    · replace h := (if_neg c39).symm.trans h
      refine Go.aload_n hx hb 0 rfl d_Ref_calls_64 ?_
      refine Go.get (v := .int (gI s3 16)) hx hb hts in_Ref hown hK 0 (Rw_0 ad ca _) rfl 29 (by decide) (hts _ k_644) (fun _ h9 => h9) rfl d_Ref_calls_65 ?_
      refine Go.if_ne (tgt := 93) hx hb d_Ref_calls_68 rfl (fun c68 => ?_) (fun c68 => ?_)
      · replace h := (if_neg c68).symm.trans h
        exact Go.vret hx hb hr hK hlk h d_Ref_calls_93
      · replace h := (if_pos c68).symm.trans h
        refine Go.aload_n hx hb 0 rfl d_Ref_calls_71 ?_
        refine Go.aload_n hx hb 0 rfl d_Ref_calls_72 ?_
        refine Go.get (v := .int (gI s3 6)) hx hb hts in_Ref hown hK 0 (Rw_0 ad ca _) rfl 19 (by decide) (hts _ k_634) (fun _ h9 => h9) rfl d_Ref_calls_73 ?_
        refine Go.iconst (v := 1) hx hb (by decide) d_Ref_calls_76 ?_
        refine Go.iadd hx hb d_Ref_calls_77 ?_
        refine Go.iconst (v := (-1)) hx hb (by decide) d_Ref_calls_78 ?_
        obtain ⟨_, s4, q4, h⟩ := gb_some h
        refine Go.callVv S hK hA 0 (Rw_0 ad ca _) rfl (fun sz9 => m_Ref_notes l D ad ca N _ sz9 _ _ _ s4 q4) (cwV 2 hts (gwV k_826 k_828 k_59 k_67 k_829) rfl rfl rfl (by decide +kernel) ⟨Nat.le_of_ble_eq_true rfl, Nat.le_of_ble_eq_true rfl⟩) rfl rfl (Nat.le_of_ble_eq_true rfl) ⟨Nat.zero_le _, Nat.zero_le _⟩ d_Ref_calls_79 ?_
        refine Go.aload_n hx hb 0 rfl d_Ref_calls_82 ?_
        refine Go.aload_n hx hb 0 rfl d_Ref_calls_83 ?_
        refine Go.get (v := .int (gI s4 3)) hx hb hts in_Ref hown hK 0 (Rw_0 ad ca _) rfl 5 (by decide) (hts _ k_620) (fun _ h9 => h9) rfl d_Ref_calls_84 ?_
        refine Go.bipush (v := 8) hx hb (by decide) d_Ref_calls_87 ?_
        refine Go.idiv hx hb (by decide) d_Ref_calls_89 ?_
        refine Go.put (ty := (.int)) hx hb hts in_Ref ty_Ref tyok_Ref nm_Ref hown hK 0 (Rw_0 ad ca _) rfl 19 (by decide) (hts _ k_634) (fun _ h9 => h9) rfl (by decide +kernel) rfl rfl (Nat.le_of_ble_eq_true rfl) (uI s4 6 ((gI s4 3) / 8)) (Rs_I6 ad ca _ _) d_Ref_calls_90 ?_
        exact Go.vret hx hb hr hK hlk h d_Ref_calls_93
    · replace h := (if_pos c39).symm.trans h
      refine Go.aload_n hx hb 0 rfl d_Ref_calls_42 ?_
      refine Go.aload_n hx hb 0 rfl d_Ref_calls_43 ?_
      refine Go.get (v := .int (gI s3 3)) hx hb hts in_Ref hown hK 0 (Rw_0 ad ca _) rfl 5 (by decide) (hts _ k_620) (fun _ h9 => h9) rfl d_Ref_calls_44 ?_
      refine Go.bipush (v := 8) hx hb (by decide) d_Ref_calls_47 ?_
      refine Go.irem hx hb (by decide) d_Ref_calls_49 ?_
      refine Go.iload_n hx hb 1 rfl d_Ref_calls_50 ?_
      refine Go.icmp_ne (tgt := 58) hx hb d_Ref_calls_51 rfl (fun c51 => ?_) (fun c51 => ?_)
      · replace h := (if_neg c51).symm.trans h
        refine Go.iconst (v := 0) hx hb (by decide) d_Ref_calls_58 ?_
        refine Go.iconst (v := 1) hx hb (by decide) d_Ref_calls_59 ?_
        obtain ⟨r5, s5, q5, h⟩ := gb_some h
        refine Go.callVi S hK hA 0 (Rw_0 ad ca _) rfl (fun sz9 => m_Ref_needs l D ad ca N _ sz9 _ _ r5 s5 q5) (cwV 2 hts (gwV k_747 k_749 k_40 k_67 k_750) rfl rfl rfl (by decide +kernel) ⟨Nat.le_of_ble_eq_true rfl, Nat.le_of_ble_eq_true rfl⟩) rfl rfl (Nat.le_of_ble_eq_true rfl) ⟨Nat.zero_le _, Nat.zero_le _⟩ d_Ref_calls_60 ?_
        refine Go.pop hx hb rfl d_Ref_calls_63 ?_
        refine Go.aload_n hx hb 0 rfl d_Ref_calls_64 ?_
        refine Go.get (v := .int (gI s5 16)) hx hb hts in_Ref hown hK 0 (Rw_0 ad ca _) rfl 29 (by decide) (hts _ k_644) (fun _ h9 => h9) rfl d_Ref_calls_65 ?_
        refine Go.if_ne (tgt := 93) hx hb d_Ref_calls_68 rfl (fun c68 => ?_) (fun c68 => ?_)
        · replace h := (if_neg c68).symm.trans h
          exact Go.vret hx hb hr hK hlk h d_Ref_calls_93
        · replace h := (if_pos c68).symm.trans h
          refine Go.aload_n hx hb 0 rfl d_Ref_calls_71 ?_
          refine Go.aload_n hx hb 0 rfl d_Ref_calls_72 ?_
          refine Go.get (v := .int (gI s5 6)) hx hb hts in_Ref hown hK 0 (Rw_0 ad ca _) rfl 19 (by decide) (hts _ k_634) (fun _ h9 => h9) rfl d_Ref_calls_73 ?_
          refine Go.iconst (v := 1) hx hb (by decide) d_Ref_calls_76 ?_
          refine Go.iadd hx hb d_Ref_calls_77 ?_
          refine Go.iconst (v := (-1)) hx hb (by decide) d_Ref_calls_78 ?_
          obtain ⟨_, s6, q6, h⟩ := gb_some h
          refine Go.callVv S hK hA 0 (Rw_0 ad ca _) rfl (fun sz9 => m_Ref_notes l D ad ca N _ sz9 _ _ _ s6 q6) (cwV 2 hts (gwV k_826 k_828 k_59 k_67 k_829) rfl rfl rfl (by decide +kernel) ⟨Nat.le_of_ble_eq_true rfl, Nat.le_of_ble_eq_true rfl⟩) rfl rfl (Nat.le_of_ble_eq_true rfl) ⟨Nat.zero_le _, Nat.zero_le _⟩ d_Ref_calls_79 ?_
          refine Go.aload_n hx hb 0 rfl d_Ref_calls_82 ?_
          refine Go.aload_n hx hb 0 rfl d_Ref_calls_83 ?_
          refine Go.get (v := .int (gI s6 3)) hx hb hts in_Ref hown hK 0 (Rw_0 ad ca _) rfl 5 (by decide) (hts _ k_620) (fun _ h9 => h9) rfl d_Ref_calls_84 ?_
          refine Go.bipush (v := 8) hx hb (by decide) d_Ref_calls_87 ?_
          refine Go.idiv hx hb (by decide) d_Ref_calls_89 ?_
          refine Go.put (ty := (.int)) hx hb hts in_Ref ty_Ref tyok_Ref nm_Ref hown hK 0 (Rw_0 ad ca _) rfl 19 (by decide) (hts _ k_634) (fun _ h9 => h9) rfl (by decide +kernel) rfl rfl (Nat.le_of_ble_eq_true rfl) (uI s6 6 ((gI s6 3) / 8)) (Rs_I6 ad ca _ _) d_Ref_calls_90 ?_
          exact Go.vret hx hb hr hK hlk h d_Ref_calls_93
      · replace h := (if_pos c51).symm.trans h
        refine Go.iconst (v := 1) hx hb (by decide) d_Ref_calls_54 ?_
        refine Go.goto (tgt := 59) hx hb d_Ref_calls_55 rfl ?_
        refine Go.iconst (v := 1) hx hb (by decide) d_Ref_calls_59 ?_
        obtain ⟨r7, s7, q7, h⟩ := gb_some h
        refine Go.callVi S hK hA 0 (Rw_0 ad ca _) rfl (fun sz9 => m_Ref_needs l D ad ca N _ sz9 _ _ r7 s7 q7) (cwV 2 hts (gwV k_747 k_749 k_40 k_67 k_750) rfl rfl rfl (by decide +kernel) ⟨Nat.le_of_ble_eq_true rfl, Nat.le_of_ble_eq_true rfl⟩) rfl rfl (Nat.le_of_ble_eq_true rfl) ⟨Nat.zero_le _, Nat.zero_le _⟩ d_Ref_calls_60 ?_
        refine Go.pop hx hb rfl d_Ref_calls_63 ?_
        refine Go.aload_n hx hb 0 rfl d_Ref_calls_64 ?_
        refine Go.get (v := .int (gI s7 16)) hx hb hts in_Ref hown hK 0 (Rw_0 ad ca _) rfl 29 (by decide) (hts _ k_644) (fun _ h9 => h9) rfl d_Ref_calls_65 ?_
        refine Go.if_ne (tgt := 93) hx hb d_Ref_calls_68 rfl (fun c68 => ?_) (fun c68 => ?_)
        · replace h := (if_neg c68).symm.trans h
          exact Go.vret hx hb hr hK hlk h d_Ref_calls_93
        · replace h := (if_pos c68).symm.trans h
          refine Go.aload_n hx hb 0 rfl d_Ref_calls_71 ?_
          refine Go.aload_n hx hb 0 rfl d_Ref_calls_72 ?_
          refine Go.get (v := .int (gI s7 6)) hx hb hts in_Ref hown hK 0 (Rw_0 ad ca _) rfl 19 (by decide) (hts _ k_634) (fun _ h9 => h9) rfl d_Ref_calls_73 ?_
          refine Go.iconst (v := 1) hx hb (by decide) d_Ref_calls_76 ?_
          refine Go.iadd hx hb d_Ref_calls_77 ?_
          refine Go.iconst (v := (-1)) hx hb (by decide) d_Ref_calls_78 ?_
          obtain ⟨_, s8, q8, h⟩ := gb_some h
          refine Go.callVv S hK hA 0 (Rw_0 ad ca _) rfl (fun sz9 => m_Ref_notes l D ad ca N _ sz9 _ _ _ s8 q8) (cwV 2 hts (gwV k_826 k_828 k_59 k_67 k_829) rfl rfl rfl (by decide +kernel) ⟨Nat.le_of_ble_eq_true rfl, Nat.le_of_ble_eq_true rfl⟩) rfl rfl (Nat.le_of_ble_eq_true rfl) ⟨Nat.zero_le _, Nat.zero_le _⟩ d_Ref_calls_79 ?_
          refine Go.aload_n hx hb 0 rfl d_Ref_calls_82 ?_
          refine Go.aload_n hx hb 0 rfl d_Ref_calls_83 ?_
          refine Go.get (v := .int (gI s8 3)) hx hb hts in_Ref hown hK 0 (Rw_0 ad ca _) rfl 5 (by decide) (hts _ k_620) (fun _ h9 => h9) rfl d_Ref_calls_84 ?_
          refine Go.bipush (v := 8) hx hb (by decide) d_Ref_calls_87 ?_
          refine Go.idiv hx hb (by decide) d_Ref_calls_89 ?_
          refine Go.put (ty := (.int)) hx hb hts in_Ref ty_Ref tyok_Ref nm_Ref hown hK 0 (Rw_0 ad ca _) rfl 19 (by decide) (hts _ k_634) (fun _ h9 => h9) rfl (by decide +kernel) rfl rfl (Nat.le_of_ble_eq_true rfl) (uI s8 6 ((gI s8 3) / 8)) (Rs_I6 ad ca _ _) d_Ref_calls_90 ?_
          exact Go.vret hx hb hr hK hlk h d_Ref_calls_93
  · replace h := (if_neg c20).symm.trans h
    refine Go.iconst (v := 1) hx hb (by decide) d_Ref_calls_23 ?_
    refine Go.goto (tgt := 28) hx hb d_Ref_calls_24 rfl ?_
    refine Go.iconst (v := 4) hx hb (by decide) d_Ref_calls_28 ?_
    obtain ⟨r9, s9, q9, h⟩ := gb_some h
    refine Go.callVi S hK hA 0 (Rw_0 ad ca _) rfl (fun sz9 => m_Ref_needs l D ad ca N _ sz9 _ _ r9 s9 q9) (cwV 2 hts (gwV k_747 k_749 k_40 k_67 k_750) rfl rfl rfl (by decide +kernel) ⟨Nat.le_of_ble_eq_true rfl, Nat.le_of_ble_eq_true rfl⟩) rfl rfl (Nat.le_of_ble_eq_true rfl) ⟨Nat.zero_le _, Nat.zero_le _⟩ d_Ref_calls_29 ?_
    refine Go.pop hx hb rfl d_Ref_calls_32 ?_
    refine Go.aload_n hx hb 0 rfl d_Ref_calls_33 ?_
    refine Go.get (v := .int (gI s9 2)) hx hb hts in_Ref hown hK 0 (Rw_0 ad ca _) rfl 4 (by decide) (hts _ k_619) (fun _ h9 => h9) rfl d_Ref_calls_34 ?_
    refine Go.bipush (v := 6) hx hb (by decide) d_Ref_calls_37 ?_
    refine Go.icmp_ne (tgt := 64) hx hb d_Ref_calls_39 rfl (fun c39 => ?_) (fun c39 => ?_)
    · replace h := (if_neg c39).symm.trans h
      refine Go.aload_n hx hb 0 rfl d_Ref_calls_64 ?_
      refine Go.get (v := .int (gI s9 16)) hx hb hts in_Ref hown hK 0 (Rw_0 ad ca _) rfl 29 (by decide) (hts _ k_644) (fun _ h9 => h9) rfl d_Ref_calls_65 ?_
      refine Go.if_ne (tgt := 93) hx hb d_Ref_calls_68 rfl (fun c68 => ?_) (fun c68 => ?_)
      · replace h := (if_neg c68).symm.trans h
        exact Go.vret hx hb hr hK hlk h d_Ref_calls_93
      · replace h := (if_pos c68).symm.trans h
        refine Go.aload_n hx hb 0 rfl d_Ref_calls_71 ?_
        refine Go.aload_n hx hb 0 rfl d_Ref_calls_72 ?_
        refine Go.get (v := .int (gI s9 6)) hx hb hts in_Ref hown hK 0 (Rw_0 ad ca _) rfl 19 (by decide) (hts _ k_634) (fun _ h9 => h9) rfl d_Ref_calls_73 ?_
        refine Go.iconst (v := 1) hx hb (by decide) d_Ref_calls_76 ?_
        refine Go.iadd hx hb d_Ref_calls_77 ?_
        refine Go.iconst (v := (-1)) hx hb (by decide) d_Ref_calls_78 ?_
        obtain ⟨_, s10, q10, h⟩ := gb_some h
        refine Go.callVv S hK hA 0 (Rw_0 ad ca _) rfl (fun sz9 => m_Ref_notes l D ad ca N _ sz9 _ _ _ s10 q10) (cwV 2 hts (gwV k_826 k_828 k_59 k_67 k_829) rfl rfl rfl (by decide +kernel) ⟨Nat.le_of_ble_eq_true rfl, Nat.le_of_ble_eq_true rfl⟩) rfl rfl (Nat.le_of_ble_eq_true rfl) ⟨Nat.zero_le _, Nat.zero_le _⟩ d_Ref_calls_79 ?_
        refine Go.aload_n hx hb 0 rfl d_Ref_calls_82 ?_
        refine Go.aload_n hx hb 0 rfl d_Ref_calls_83 ?_
        refine Go.get (v := .int (gI s10 3)) hx hb hts in_Ref hown hK 0 (Rw_0 ad ca _) rfl 5 (by decide) (hts _ k_620) (fun _ h9 => h9) rfl d_Ref_calls_84 ?_
        refine Go.bipush (v := 8) hx hb (by decide) d_Ref_calls_87 ?_
        refine Go.idiv hx hb (by decide) d_Ref_calls_89 ?_
        refine Go.put (ty := (.int)) hx hb hts in_Ref ty_Ref tyok_Ref nm_Ref hown hK 0 (Rw_0 ad ca _) rfl 19 (by decide) (hts _ k_634) (fun _ h9 => h9) rfl (by decide +kernel) rfl rfl (Nat.le_of_ble_eq_true rfl) (uI s10 6 ((gI s10 3) / 8)) (Rs_I6 ad ca _ _) d_Ref_calls_90 ?_
        exact Go.vret hx hb hr hK hlk h d_Ref_calls_93
    · replace h := (if_pos c39).symm.trans h
      refine Go.aload_n hx hb 0 rfl d_Ref_calls_42 ?_
      refine Go.aload_n hx hb 0 rfl d_Ref_calls_43 ?_
      refine Go.get (v := .int (gI s9 3)) hx hb hts in_Ref hown hK 0 (Rw_0 ad ca _) rfl 5 (by decide) (hts _ k_620) (fun _ h9 => h9) rfl d_Ref_calls_44 ?_
      refine Go.bipush (v := 8) hx hb (by decide) d_Ref_calls_47 ?_
      refine Go.irem hx hb (by decide) d_Ref_calls_49 ?_
      refine Go.iload_n hx hb 1 rfl d_Ref_calls_50 ?_
      refine Go.icmp_ne (tgt := 58) hx hb d_Ref_calls_51 rfl (fun c51 => ?_) (fun c51 => ?_)
      · replace h := (if_neg c51).symm.trans h
        refine Go.iconst (v := 0) hx hb (by decide) d_Ref_calls_58 ?_
        refine Go.iconst (v := 1) hx hb (by decide) d_Ref_calls_59 ?_
        obtain ⟨r11, s11, q11, h⟩ := gb_some h
        refine Go.callVi S hK hA 0 (Rw_0 ad ca _) rfl (fun sz9 => m_Ref_needs l D ad ca N _ sz9 _ _ r11 s11 q11) (cwV 2 hts (gwV k_747 k_749 k_40 k_67 k_750) rfl rfl rfl (by decide +kernel) ⟨Nat.le_of_ble_eq_true rfl, Nat.le_of_ble_eq_true rfl⟩) rfl rfl (Nat.le_of_ble_eq_true rfl) ⟨Nat.zero_le _, Nat.zero_le _⟩ d_Ref_calls_60 ?_
        refine Go.pop hx hb rfl d_Ref_calls_63 ?_
        refine Go.aload_n hx hb 0 rfl d_Ref_calls_64 ?_
        refine Go.get (v := .int (gI s11 16)) hx hb hts in_Ref hown hK 0 (Rw_0 ad ca _) rfl 29 (by decide) (hts _ k_644) (fun _ h9 => h9) rfl d_Ref_calls_65 ?_
        refine Go.if_ne (tgt := 93) hx hb d_Ref_calls_68 rfl (fun c68 => ?_) (fun c68 => ?_)
        · replace h := (if_neg c68).symm.trans h
          exact Go.vret hx hb hr hK hlk h d_Ref_calls_93
        · replace h := (if_pos c68).symm.trans h
          refine Go.aload_n hx hb 0 rfl d_Ref_calls_71 ?_
          refine Go.aload_n hx hb 0 rfl d_Ref_calls_72 ?_
          refine Go.get (v := .int (gI s11 6)) hx hb hts in_Ref hown hK 0 (Rw_0 ad ca _) rfl 19 (by decide) (hts _ k_634) (fun _ h9 => h9) rfl d_Ref_calls_73 ?_
          refine Go.iconst (v := 1) hx hb (by decide) d_Ref_calls_76 ?_
          refine Go.iadd hx hb d_Ref_calls_77 ?_
          refine Go.iconst (v := (-1)) hx hb (by decide) d_Ref_calls_78 ?_
          obtain ⟨_, s12, q12, h⟩ := gb_some h
          refine Go.callVv S hK hA 0 (Rw_0 ad ca _) rfl (fun sz9 => m_Ref_notes l D ad ca N _ sz9 _ _ _ s12 q12) (cwV 2 hts (gwV k_826 k_828 k_59 k_67 k_829) rfl rfl rfl (by decide +kernel) ⟨Nat.le_of_ble_eq_true rfl, Nat.le_of_ble_eq_true rfl⟩) rfl rfl (Nat.le_of_ble_eq_true rfl) ⟨Nat.zero_le _, Nat.zero_le _⟩ d_Ref_calls_79 ?_
          refine Go.aload_n hx hb 0 rfl d_Ref_calls_82 ?_
          refine Go.aload_n hx hb 0 rfl d_Ref_calls_83 ?_
          refine Go.get (v := .int (gI s12 3)) hx hb hts in_Ref hown hK 0 (Rw_0 ad ca _) rfl 5 (by decide) (hts _ k_620) (fun _ h9 => h9) rfl d_Ref_calls_84 ?_
          refine Go.bipush (v := 8) hx hb (by decide) d_Ref_calls_87 ?_
          refine Go.idiv hx hb (by decide) d_Ref_calls_89 ?_
          refine Go.put (ty := (.int)) hx hb hts in_Ref ty_Ref tyok_Ref nm_Ref hown hK 0 (Rw_0 ad ca _) rfl 19 (by decide) (hts _ k_634) (fun _ h9 => h9) rfl (by decide +kernel) rfl rfl (Nat.le_of_ble_eq_true rfl) (uI s12 6 ((gI s12 3) / 8)) (Rs_I6 ad ca _ _) d_Ref_calls_90 ?_
          exact Go.vret hx hb hr hK hlk h d_Ref_calls_93
      · replace h := (if_pos c51).symm.trans h
        refine Go.iconst (v := 1) hx hb (by decide) d_Ref_calls_54 ?_
        refine Go.goto (tgt := 59) hx hb d_Ref_calls_55 rfl ?_
        refine Go.iconst (v := 1) hx hb (by decide) d_Ref_calls_59 ?_
        obtain ⟨r13, s13, q13, h⟩ := gb_some h
        refine Go.callVi S hK hA 0 (Rw_0 ad ca _) rfl (fun sz9 => m_Ref_needs l D ad ca N _ sz9 _ _ r13 s13 q13) (cwV 2 hts (gwV k_747 k_749 k_40 k_67 k_750) rfl rfl rfl (by decide +kernel) ⟨Nat.le_of_ble_eq_true rfl, Nat.le_of_ble_eq_true rfl⟩) rfl rfl (Nat.le_of_ble_eq_true rfl) ⟨Nat.zero_le _, Nat.zero_le _⟩ d_Ref_calls_60 ?_
        refine Go.pop hx hb rfl d_Ref_calls_63 ?_
        refine Go.aload_n hx hb 0 rfl d_Ref_calls_64 ?_
        refine Go.get (v := .int (gI s13 16)) hx hb hts in_Ref hown hK 0 (Rw_0 ad ca _) rfl 29 (by decide) (hts _ k_644) (fun _ h9 => h9) rfl d_Ref_calls_65 ?_
        refine Go.if_ne (tgt := 93) hx hb d_Ref_calls_68 rfl (fun c68 => ?_) (fun c68 => ?_)
        · replace h := (if_neg c68).symm.trans h
          exact Go.vret hx hb hr hK hlk h d_Ref_calls_93
        · replace h := (if_pos c68).symm.trans h
          refine Go.aload_n hx hb 0 rfl d_Ref_calls_71 ?_
          refine Go.aload_n hx hb 0 rfl d_Ref_calls_72 ?_
          refine Go.get (v := .int (gI s13 6)) hx hb hts in_Ref hown hK 0 (Rw_0 ad ca _) rfl 19 (by decide) (hts _ k_634) (fun _ h9 => h9) rfl d_Ref_calls_73 ?_
          refine Go.iconst (v := 1) hx hb (by decide) d_Ref_calls_76 ?_
          refine Go.iadd hx hb d_Ref_calls_77 ?_
          refine Go.iconst (v := (-1)) hx hb (by decide) d_Ref_calls_78 ?_
          obtain ⟨_, s14, q14, h⟩ := gb_some h
          refine Go.callVv S hK hA 0 (Rw_0 ad ca _) rfl (fun sz9 => m_Ref_notes l D ad ca N _ sz9 _ _ _ s14 q14) (cwV 2 hts (gwV k_826 k_828 k_59 k_67 k_829) rfl rfl rfl (by decide +kernel) ⟨Nat.le_of_ble_eq_true rfl, Nat.le_of_ble_eq_true rfl⟩) rfl rfl (Nat.le_of_ble_eq_true rfl) ⟨Nat.zero_le _, Nat.zero_le _⟩ d_Ref_calls_79 ?_
          refine Go.aload_n hx hb 0 rfl d_Ref_calls_82 ?_
          refine Go.aload_n hx hb 0 rfl d_Ref_calls_83 ?_
          refine Go.get (v := .int (gI s14 3)) hx hb hts in_Ref hown hK 0 (Rw_0 ad ca _) rfl 5 (by decide) (hts _ k_620) (fun _ h9 => h9) rfl d_Ref_calls_84 ?_
          refine Go.bipush (v := 8) hx hb (by decide) d_Ref_calls_87 ?_
          refine Go.idiv hx hb (by decide) d_Ref_calls_89 ?_
          refine Go.put (ty := (.int)) hx hb hts in_Ref ty_Ref tyok_Ref nm_Ref hown hK 0 (Rw_0 ad ca _) rfl 19 (by decide) (hts _ k_634) (fun _ h9 => h9) rfl (by decide +kernel) rfl rfl (Nat.le_of_ble_eq_true rfl) (uI s14 6 ((gI s14 3) / 8)) (Rs_I6 ad ca _ _) d_Ref_calls_90 ?_
          exact Go.vret hx hb hr hK hlk h d_Ref_calls_93
set_option maxHeartbeats 4000000 in
set_option maxRecDepth 100000 in
theorem m_Ref_goes (l : Launch) (D : va_G) (ad : Nat → Nat) (ca : Nat → ClassId) (N : Nat) (st : SG) (sz : Nat) (a0 : Int32) (a1 : Int32) (r : Int32) (u : SG) (h : fR_ValueMachineModel_goes N st a0 a1 = some (r, u)) : Met l y_Ref_goes (Cond.code y_Ref_goes c_Ref_goes 3 (some .boolean) :: tbl) ({ frames := 3, cells := 0, slots := 0, locals := 64 } : Room) (va_Pc [.ref (ad 0), .int a0, .int a1] (goPre (Rw ad ca) D vwCl (Rtys ca) sz st)) (va_Qi (fun r' u' => r' = r ∧ u' = u) (goPost (Rw ad ca) D vwCl (Rtys ca) (va_A (Rw ad ca st) sz)) (va_A (Rw ad ca st) sz)) 0 0 (va_A (Rw ad ca st) sz) := by
  refine go_met (Qc := fun A9 => va_Qi (fun r' u' => r' = r ∧ u' = u) (goPost (Rw ad ca) D vwCl (Rtys ca) A9) A9) (cc := c_Ref_goes) (maxL := 3) (ret := (some .boolean)) [(0, .ref (ad 0)), (1, .int a0), (2, .int a1)] (by decide) rfl (Nat.le_of_ble_eq_true rfl) rfl ?_
  intro p e s m below meth c A S hr hlk hK hA hsz
  obtain ⟨hx, hb, hml, hown, hts⟩ := id S
  unfold fR_ValueMachineModel_goes at h
  refine Go.iload_n hx hb 1 rfl d_Ref_goes_0 ?_
  by_cases c1_0 : a0 = 15
  · replace h := (if_pos c1_0).symm.trans h
    refine Go.tin (tgt := 88) (off := 87) hx hb 15 c1_0 d_Ref_goes_1 (by decide) (by decide) rfl rfl ?_
    refine Go.aload_n hx hb 0 rfl d_Ref_goes_88 ?_
    refine Go.iload_n hx hb 2 rfl d_Ref_goes_89 ?_
    obtain ⟨r1, s1, q1, h⟩ := gb_some h
    refine Go.callVi S hK hA 0 (Rw_0 ad ca _) rfl (fun sz9 => m_Ref_isPlace l D ad ca N _ sz9 _ r1 s1 q1) (cwV 1 hts (gwV k_818 k_820 k_57 k_67 k_821) rfl rfl rfl (by decide +kernel) ⟨Nat.le_of_ble_eq_true rfl, Nat.le_of_ble_eq_true rfl⟩) rfl rfl (Nat.le_of_ble_eq_true rfl) ⟨Nat.zero_le _, Nat.zero_le _⟩ d_Ref_goes_90 ?_
    refine Go.if_eq (tgt := 124) hx hb d_Ref_goes_93 rfl (fun c93 => ?_) (fun c93 => ?_)
    · replace h := (if_pos c93).symm.trans h
      refine Go.iconst (v := 0) hx hb (by decide) d_Ref_goes_124 ?_
      exact Go.zret hx hb hr hK hlk rfl h d_Ref_goes_125
    · replace h := (if_neg c93).symm.trans h
      refine Go.iload_n hx hb 1 rfl d_Ref_goes_96 ?_
      refine Go.bipush (v := 16) hx hb (by decide) d_Ref_goes_97 ?_
      refine Go.icmp_ne (tgt := 110) hx hb d_Ref_goes_99 rfl (fun c99 => ?_) (fun c99 => ?_)
      · replace h := (if_neg c99).symm.trans h
        refine Go.iload_n hx hb 1 rfl d_Ref_goes_110 ?_
        refine Go.bipush (v := 17) hx hb (by decide) d_Ref_goes_111 ?_
        refine Go.icmp_ne (tgt := 126) hx hb d_Ref_goes_113 rfl (fun c113 => ?_) (fun c113 => ?_)
        · replace h := (if_neg c113).symm.trans h
          refine Go.aload_n hx hb 0 rfl d_Ref_goes_126 ?_
          refine Go.iload_n hx hb 2 rfl d_Ref_goes_127 ?_
          refine Go.put (ty := (.int)) hx hb hts in_Ref ty_Ref tyok_Ref nm_Ref hown hK 0 (Rw_0 ad ca _) rfl 19 (by decide) (hts _ k_634) (fun _ h9 => h9) rfl (by decide +kernel) rfl rfl (Nat.le_of_ble_eq_true rfl) (uI s1 6 a1) (Rs_I6 ad ca _ _) d_Ref_goes_128 ?_
          refine Go.iconst (v := 1) hx hb (by decide) d_Ref_goes_131 ?_
          exact Go.zret hx hb hr hK hlk rfl h d_Ref_goes_132
        · replace h := (if_pos c113).symm.trans h
          refine Go.aload_n hx hb 0 rfl d_Ref_goes_116 ?_
          refine Go.get (v := .int (gI s1 2)) hx hb hts in_Ref hown hK 0 (Rw_0 ad ca _) rfl 4 (by decide) (hts _ k_619) (fun _ h9 => h9) rfl d_Ref_goes_117 ?_
          refine Go.iconst (v := 2) hx hb (by decide) d_Ref_goes_120 ?_
          refine Go.icmp_ne (tgt := 126) hx hb d_Ref_goes_121 rfl (fun c121 => ?_) (fun c121 => ?_)
          · replace h := (if_neg c121).symm.trans h
            refine Go.aload_n hx hb 0 rfl d_Ref_goes_126 ?_
            refine Go.iload_n hx hb 2 rfl d_Ref_goes_127 ?_
            refine Go.put (ty := (.int)) hx hb hts in_Ref ty_Ref tyok_Ref nm_Ref hown hK 0 (Rw_0 ad ca _) rfl 19 (by decide) (hts _ k_634) (fun _ h9 => h9) rfl (by decide +kernel) rfl rfl (Nat.le_of_ble_eq_true rfl) (uI s1 6 a1) (Rs_I6 ad ca _ _) d_Ref_goes_128 ?_
            refine Go.iconst (v := 1) hx hb (by decide) d_Ref_goes_131 ?_
            exact Go.zret hx hb hr hK hlk rfl h d_Ref_goes_132
          · replace h := (if_pos c121).symm.trans h
            refine Go.iconst (v := 0) hx hb (by decide) d_Ref_goes_124 ?_
            exact Go.zret hx hb hr hK hlk rfl h d_Ref_goes_125
      · replace h := (if_pos c99).symm.trans h
        refine Go.aload_n hx hb 0 rfl d_Ref_goes_102 ?_
        refine Go.get (v := .int (gI s1 2)) hx hb hts in_Ref hown hK 0 (Rw_0 ad ca _) rfl 4 (by decide) (hts _ k_619) (fun _ h9 => h9) rfl d_Ref_goes_103 ?_
        refine Go.iconst (v := 2) hx hb (by decide) d_Ref_goes_106 ?_
        refine Go.icmp_ne (tgt := 124) hx hb d_Ref_goes_107 rfl (fun c107 => ?_) (fun c107 => ?_)
        · replace h := (if_neg c107).symm.trans h
          refine Go.iconst (v := 0) hx hb (by decide) d_Ref_goes_124 ?_
          exact Go.zret hx hb hr hK hlk rfl h d_Ref_goes_125
        · replace h := (if_pos c107).symm.trans h
          refine Go.iload_n hx hb 1 rfl d_Ref_goes_110 ?_
          refine Go.bipush (v := 17) hx hb (by decide) d_Ref_goes_111 ?_
          refine Go.icmp_ne (tgt := 126) hx hb d_Ref_goes_113 rfl (fun c113 => ?_) (fun c113 => ?_)
          · replace h := (if_neg c113).symm.trans h
            refine Go.aload_n hx hb 0 rfl d_Ref_goes_126 ?_
            refine Go.iload_n hx hb 2 rfl d_Ref_goes_127 ?_
            refine Go.put (ty := (.int)) hx hb hts in_Ref ty_Ref tyok_Ref nm_Ref hown hK 0 (Rw_0 ad ca _) rfl 19 (by decide) (hts _ k_634) (fun _ h9 => h9) rfl (by decide +kernel) rfl rfl (Nat.le_of_ble_eq_true rfl) (uI s1 6 a1) (Rs_I6 ad ca _ _) d_Ref_goes_128 ?_
            refine Go.iconst (v := 1) hx hb (by decide) d_Ref_goes_131 ?_
            exact Go.zret hx hb hr hK hlk rfl h d_Ref_goes_132
          · replace h := (if_pos c113).symm.trans h
            refine Go.aload_n hx hb 0 rfl d_Ref_goes_116 ?_
            refine Go.get (v := .int (gI s1 2)) hx hb hts in_Ref hown hK 0 (Rw_0 ad ca _) rfl 4 (by decide) (hts _ k_619) (fun _ h9 => h9) rfl d_Ref_goes_117 ?_
            refine Go.iconst (v := 2) hx hb (by decide) d_Ref_goes_120 ?_
            refine Go.icmp_ne (tgt := 126) hx hb d_Ref_goes_121 rfl (fun c121 => ?_) (fun c121 => ?_)
            · replace h := (if_neg c121).symm.trans h
              refine Go.aload_n hx hb 0 rfl d_Ref_goes_126 ?_
              refine Go.iload_n hx hb 2 rfl d_Ref_goes_127 ?_
              refine Go.put (ty := (.int)) hx hb hts in_Ref ty_Ref tyok_Ref nm_Ref hown hK 0 (Rw_0 ad ca _) rfl 19 (by decide) (hts _ k_634) (fun _ h9 => h9) rfl (by decide +kernel) rfl rfl (Nat.le_of_ble_eq_true rfl) (uI s1 6 a1) (Rs_I6 ad ca _ _) d_Ref_goes_128 ?_
              refine Go.iconst (v := 1) hx hb (by decide) d_Ref_goes_131 ?_
              exact Go.zret hx hb hr hK hlk rfl h d_Ref_goes_132
            · replace h := (if_pos c121).symm.trans h
              refine Go.iconst (v := 0) hx hb (by decide) d_Ref_goes_124 ?_
              exact Go.zret hx hb hr hK hlk rfl h d_Ref_goes_125
  replace h := (if_neg c1_0).symm.trans h
  by_cases c1_1 : a0 = 16
  · replace h := (if_pos c1_1).symm.trans h
    refine Go.tin (tgt := 88) (off := 87) hx hb 16 c1_1 d_Ref_goes_1 (by decide) (by decide) rfl rfl ?_
    refine Go.aload_n hx hb 0 rfl d_Ref_goes_88 ?_
    refine Go.iload_n hx hb 2 rfl d_Ref_goes_89 ?_
    obtain ⟨r2, s2, q2, h⟩ := gb_some h
    refine Go.callVi S hK hA 0 (Rw_0 ad ca _) rfl (fun sz9 => m_Ref_isPlace l D ad ca N _ sz9 _ r2 s2 q2) (cwV 1 hts (gwV k_818 k_820 k_57 k_67 k_821) rfl rfl rfl (by decide +kernel) ⟨Nat.le_of_ble_eq_true rfl, Nat.le_of_ble_eq_true rfl⟩) rfl rfl (Nat.le_of_ble_eq_true rfl) ⟨Nat.zero_le _, Nat.zero_le _⟩ d_Ref_goes_90 ?_
    refine Go.if_eq (tgt := 124) hx hb d_Ref_goes_93 rfl (fun c93 => ?_) (fun c93 => ?_)
    · replace h := (if_pos c93).symm.trans h
      refine Go.iconst (v := 0) hx hb (by decide) d_Ref_goes_124 ?_
      exact Go.zret hx hb hr hK hlk rfl h d_Ref_goes_125
    · replace h := (if_neg c93).symm.trans h
      refine Go.iload_n hx hb 1 rfl d_Ref_goes_96 ?_
      refine Go.bipush (v := 16) hx hb (by decide) d_Ref_goes_97 ?_
      refine Go.icmp_ne (tgt := 110) hx hb d_Ref_goes_99 rfl (fun c99 => ?_) (fun c99 => ?_)
      · replace h := (if_neg c99).symm.trans h
        refine Go.iload_n hx hb 1 rfl d_Ref_goes_110 ?_
        refine Go.bipush (v := 17) hx hb (by decide) d_Ref_goes_111 ?_
        refine Go.icmp_ne (tgt := 126) hx hb d_Ref_goes_113 rfl (fun c113 => ?_) (fun c113 => ?_)
        · replace h := (if_neg c113).symm.trans h
          refine Go.aload_n hx hb 0 rfl d_Ref_goes_126 ?_
          refine Go.iload_n hx hb 2 rfl d_Ref_goes_127 ?_
          refine Go.put (ty := (.int)) hx hb hts in_Ref ty_Ref tyok_Ref nm_Ref hown hK 0 (Rw_0 ad ca _) rfl 19 (by decide) (hts _ k_634) (fun _ h9 => h9) rfl (by decide +kernel) rfl rfl (Nat.le_of_ble_eq_true rfl) (uI s2 6 a1) (Rs_I6 ad ca _ _) d_Ref_goes_128 ?_
          refine Go.iconst (v := 1) hx hb (by decide) d_Ref_goes_131 ?_
          exact Go.zret hx hb hr hK hlk rfl h d_Ref_goes_132
        · replace h := (if_pos c113).symm.trans h
          refine Go.aload_n hx hb 0 rfl d_Ref_goes_116 ?_
          refine Go.get (v := .int (gI s2 2)) hx hb hts in_Ref hown hK 0 (Rw_0 ad ca _) rfl 4 (by decide) (hts _ k_619) (fun _ h9 => h9) rfl d_Ref_goes_117 ?_
          refine Go.iconst (v := 2) hx hb (by decide) d_Ref_goes_120 ?_
          refine Go.icmp_ne (tgt := 126) hx hb d_Ref_goes_121 rfl (fun c121 => ?_) (fun c121 => ?_)
          · replace h := (if_neg c121).symm.trans h
            refine Go.aload_n hx hb 0 rfl d_Ref_goes_126 ?_
            refine Go.iload_n hx hb 2 rfl d_Ref_goes_127 ?_
            refine Go.put (ty := (.int)) hx hb hts in_Ref ty_Ref tyok_Ref nm_Ref hown hK 0 (Rw_0 ad ca _) rfl 19 (by decide) (hts _ k_634) (fun _ h9 => h9) rfl (by decide +kernel) rfl rfl (Nat.le_of_ble_eq_true rfl) (uI s2 6 a1) (Rs_I6 ad ca _ _) d_Ref_goes_128 ?_
            refine Go.iconst (v := 1) hx hb (by decide) d_Ref_goes_131 ?_
            exact Go.zret hx hb hr hK hlk rfl h d_Ref_goes_132
          · replace h := (if_pos c121).symm.trans h
            refine Go.iconst (v := 0) hx hb (by decide) d_Ref_goes_124 ?_
            exact Go.zret hx hb hr hK hlk rfl h d_Ref_goes_125
      · replace h := (if_pos c99).symm.trans h
        refine Go.aload_n hx hb 0 rfl d_Ref_goes_102 ?_
        refine Go.get (v := .int (gI s2 2)) hx hb hts in_Ref hown hK 0 (Rw_0 ad ca _) rfl 4 (by decide) (hts _ k_619) (fun _ h9 => h9) rfl d_Ref_goes_103 ?_
        refine Go.iconst (v := 2) hx hb (by decide) d_Ref_goes_106 ?_
        refine Go.icmp_ne (tgt := 124) hx hb d_Ref_goes_107 rfl (fun c107 => ?_) (fun c107 => ?_)
        · replace h := (if_neg c107).symm.trans h
          refine Go.iconst (v := 0) hx hb (by decide) d_Ref_goes_124 ?_
          exact Go.zret hx hb hr hK hlk rfl h d_Ref_goes_125
        · replace h := (if_pos c107).symm.trans h
          refine Go.iload_n hx hb 1 rfl d_Ref_goes_110 ?_
          refine Go.bipush (v := 17) hx hb (by decide) d_Ref_goes_111 ?_
          refine Go.icmp_ne (tgt := 126) hx hb d_Ref_goes_113 rfl (fun c113 => ?_) (fun c113 => ?_)
          · replace h := (if_neg c113).symm.trans h
            refine Go.aload_n hx hb 0 rfl d_Ref_goes_126 ?_
            refine Go.iload_n hx hb 2 rfl d_Ref_goes_127 ?_
            refine Go.put (ty := (.int)) hx hb hts in_Ref ty_Ref tyok_Ref nm_Ref hown hK 0 (Rw_0 ad ca _) rfl 19 (by decide) (hts _ k_634) (fun _ h9 => h9) rfl (by decide +kernel) rfl rfl (Nat.le_of_ble_eq_true rfl) (uI s2 6 a1) (Rs_I6 ad ca _ _) d_Ref_goes_128 ?_
            refine Go.iconst (v := 1) hx hb (by decide) d_Ref_goes_131 ?_
            exact Go.zret hx hb hr hK hlk rfl h d_Ref_goes_132
          · replace h := (if_pos c113).symm.trans h
            refine Go.aload_n hx hb 0 rfl d_Ref_goes_116 ?_
            refine Go.get (v := .int (gI s2 2)) hx hb hts in_Ref hown hK 0 (Rw_0 ad ca _) rfl 4 (by decide) (hts _ k_619) (fun _ h9 => h9) rfl d_Ref_goes_117 ?_
            refine Go.iconst (v := 2) hx hb (by decide) d_Ref_goes_120 ?_
            refine Go.icmp_ne (tgt := 126) hx hb d_Ref_goes_121 rfl (fun c121 => ?_) (fun c121 => ?_)
            · replace h := (if_neg c121).symm.trans h
              refine Go.aload_n hx hb 0 rfl d_Ref_goes_126 ?_
              refine Go.iload_n hx hb 2 rfl d_Ref_goes_127 ?_
              refine Go.put (ty := (.int)) hx hb hts in_Ref ty_Ref tyok_Ref nm_Ref hown hK 0 (Rw_0 ad ca _) rfl 19 (by decide) (hts _ k_634) (fun _ h9 => h9) rfl (by decide +kernel) rfl rfl (Nat.le_of_ble_eq_true rfl) (uI s2 6 a1) (Rs_I6 ad ca _ _) d_Ref_goes_128 ?_
              refine Go.iconst (v := 1) hx hb (by decide) d_Ref_goes_131 ?_
              exact Go.zret hx hb hr hK hlk rfl h d_Ref_goes_132
            · replace h := (if_pos c121).symm.trans h
              refine Go.iconst (v := 0) hx hb (by decide) d_Ref_goes_124 ?_
              exact Go.zret hx hb hr hK hlk rfl h d_Ref_goes_125
  replace h := (if_neg c1_1).symm.trans h
  by_cases c1_2 : a0 = 17
  · replace h := (if_pos c1_2).symm.trans h
    refine Go.tin (tgt := 88) (off := 87) hx hb 17 c1_2 d_Ref_goes_1 (by decide) (by decide) rfl rfl ?_
    refine Go.aload_n hx hb 0 rfl d_Ref_goes_88 ?_
    refine Go.iload_n hx hb 2 rfl d_Ref_goes_89 ?_
    obtain ⟨r3, s3, q3, h⟩ := gb_some h
    refine Go.callVi S hK hA 0 (Rw_0 ad ca _) rfl (fun sz9 => m_Ref_isPlace l D ad ca N _ sz9 _ r3 s3 q3) (cwV 1 hts (gwV k_818 k_820 k_57 k_67 k_821) rfl rfl rfl (by decide +kernel) ⟨Nat.le_of_ble_eq_true rfl, Nat.le_of_ble_eq_true rfl⟩) rfl rfl (Nat.le_of_ble_eq_true rfl) ⟨Nat.zero_le _, Nat.zero_le _⟩ d_Ref_goes_90 ?_
    refine Go.if_eq (tgt := 124) hx hb d_Ref_goes_93 rfl (fun c93 => ?_) (fun c93 => ?_)
    · replace h := (if_pos c93).symm.trans h
      refine Go.iconst (v := 0) hx hb (by decide) d_Ref_goes_124 ?_
      exact Go.zret hx hb hr hK hlk rfl h d_Ref_goes_125
    · replace h := (if_neg c93).symm.trans h
      refine Go.iload_n hx hb 1 rfl d_Ref_goes_96 ?_
      refine Go.bipush (v := 16) hx hb (by decide) d_Ref_goes_97 ?_
      refine Go.icmp_ne (tgt := 110) hx hb d_Ref_goes_99 rfl (fun c99 => ?_) (fun c99 => ?_)
      · replace h := (if_neg c99).symm.trans h
        refine Go.iload_n hx hb 1 rfl d_Ref_goes_110 ?_
        refine Go.bipush (v := 17) hx hb (by decide) d_Ref_goes_111 ?_
        refine Go.icmp_ne (tgt := 126) hx hb d_Ref_goes_113 rfl (fun c113 => ?_) (fun c113 => ?_)
        · replace h := (if_neg c113).symm.trans h
          refine Go.aload_n hx hb 0 rfl d_Ref_goes_126 ?_
          refine Go.iload_n hx hb 2 rfl d_Ref_goes_127 ?_
          refine Go.put (ty := (.int)) hx hb hts in_Ref ty_Ref tyok_Ref nm_Ref hown hK 0 (Rw_0 ad ca _) rfl 19 (by decide) (hts _ k_634) (fun _ h9 => h9) rfl (by decide +kernel) rfl rfl (Nat.le_of_ble_eq_true rfl) (uI s3 6 a1) (Rs_I6 ad ca _ _) d_Ref_goes_128 ?_
          refine Go.iconst (v := 1) hx hb (by decide) d_Ref_goes_131 ?_
          exact Go.zret hx hb hr hK hlk rfl h d_Ref_goes_132
        · replace h := (if_pos c113).symm.trans h
          refine Go.aload_n hx hb 0 rfl d_Ref_goes_116 ?_
          refine Go.get (v := .int (gI s3 2)) hx hb hts in_Ref hown hK 0 (Rw_0 ad ca _) rfl 4 (by decide) (hts _ k_619) (fun _ h9 => h9) rfl d_Ref_goes_117 ?_
          refine Go.iconst (v := 2) hx hb (by decide) d_Ref_goes_120 ?_
          refine Go.icmp_ne (tgt := 126) hx hb d_Ref_goes_121 rfl (fun c121 => ?_) (fun c121 => ?_)
          · replace h := (if_neg c121).symm.trans h
            refine Go.aload_n hx hb 0 rfl d_Ref_goes_126 ?_
            refine Go.iload_n hx hb 2 rfl d_Ref_goes_127 ?_
            refine Go.put (ty := (.int)) hx hb hts in_Ref ty_Ref tyok_Ref nm_Ref hown hK 0 (Rw_0 ad ca _) rfl 19 (by decide) (hts _ k_634) (fun _ h9 => h9) rfl (by decide +kernel) rfl rfl (Nat.le_of_ble_eq_true rfl) (uI s3 6 a1) (Rs_I6 ad ca _ _) d_Ref_goes_128 ?_
            refine Go.iconst (v := 1) hx hb (by decide) d_Ref_goes_131 ?_
            exact Go.zret hx hb hr hK hlk rfl h d_Ref_goes_132
          · replace h := (if_pos c121).symm.trans h
            refine Go.iconst (v := 0) hx hb (by decide) d_Ref_goes_124 ?_
            exact Go.zret hx hb hr hK hlk rfl h d_Ref_goes_125
      · replace h := (if_pos c99).symm.trans h
        refine Go.aload_n hx hb 0 rfl d_Ref_goes_102 ?_
        refine Go.get (v := .int (gI s3 2)) hx hb hts in_Ref hown hK 0 (Rw_0 ad ca _) rfl 4 (by decide) (hts _ k_619) (fun _ h9 => h9) rfl d_Ref_goes_103 ?_
        refine Go.iconst (v := 2) hx hb (by decide) d_Ref_goes_106 ?_
        refine Go.icmp_ne (tgt := 124) hx hb d_Ref_goes_107 rfl (fun c107 => ?_) (fun c107 => ?_)
        · replace h := (if_neg c107).symm.trans h
          refine Go.iconst (v := 0) hx hb (by decide) d_Ref_goes_124 ?_
          exact Go.zret hx hb hr hK hlk rfl h d_Ref_goes_125
        · replace h := (if_pos c107).symm.trans h
          refine Go.iload_n hx hb 1 rfl d_Ref_goes_110 ?_
          refine Go.bipush (v := 17) hx hb (by decide) d_Ref_goes_111 ?_
          refine Go.icmp_ne (tgt := 126) hx hb d_Ref_goes_113 rfl (fun c113 => ?_) (fun c113 => ?_)
          · replace h := (if_neg c113).symm.trans h
            refine Go.aload_n hx hb 0 rfl d_Ref_goes_126 ?_
            refine Go.iload_n hx hb 2 rfl d_Ref_goes_127 ?_
            refine Go.put (ty := (.int)) hx hb hts in_Ref ty_Ref tyok_Ref nm_Ref hown hK 0 (Rw_0 ad ca _) rfl 19 (by decide) (hts _ k_634) (fun _ h9 => h9) rfl (by decide +kernel) rfl rfl (Nat.le_of_ble_eq_true rfl) (uI s3 6 a1) (Rs_I6 ad ca _ _) d_Ref_goes_128 ?_
            refine Go.iconst (v := 1) hx hb (by decide) d_Ref_goes_131 ?_
            exact Go.zret hx hb hr hK hlk rfl h d_Ref_goes_132
          · replace h := (if_pos c113).symm.trans h
            refine Go.aload_n hx hb 0 rfl d_Ref_goes_116 ?_
            refine Go.get (v := .int (gI s3 2)) hx hb hts in_Ref hown hK 0 (Rw_0 ad ca _) rfl 4 (by decide) (hts _ k_619) (fun _ h9 => h9) rfl d_Ref_goes_117 ?_
            refine Go.iconst (v := 2) hx hb (by decide) d_Ref_goes_120 ?_
            refine Go.icmp_ne (tgt := 126) hx hb d_Ref_goes_121 rfl (fun c121 => ?_) (fun c121 => ?_)
            · replace h := (if_neg c121).symm.trans h
              refine Go.aload_n hx hb 0 rfl d_Ref_goes_126 ?_
              refine Go.iload_n hx hb 2 rfl d_Ref_goes_127 ?_
              refine Go.put (ty := (.int)) hx hb hts in_Ref ty_Ref tyok_Ref nm_Ref hown hK 0 (Rw_0 ad ca _) rfl 19 (by decide) (hts _ k_634) (fun _ h9 => h9) rfl (by decide +kernel) rfl rfl (Nat.le_of_ble_eq_true rfl) (uI s3 6 a1) (Rs_I6 ad ca _ _) d_Ref_goes_128 ?_
              refine Go.iconst (v := 1) hx hb (by decide) d_Ref_goes_131 ?_
              exact Go.zret hx hb hr hK hlk rfl h d_Ref_goes_132
            · replace h := (if_pos c121).symm.trans h
              refine Go.iconst (v := 0) hx hb (by decide) d_Ref_goes_124 ?_
              exact Go.zret hx hb hr hK hlk rfl h d_Ref_goes_125
  replace h := (if_neg c1_2).symm.trans h
  by_cases c1_3 : a0 = 18
  · replace h := (if_pos c1_3).symm.trans h
    refine Go.tin (tgt := 288) (off := 287) hx hb 18 c1_3 d_Ref_goes_1 (by decide) (by decide) rfl rfl ?_
    refine Go.aload_n hx hb 0 rfl d_Ref_goes_288 ?_
    refine Go.aload_n hx hb 0 rfl d_Ref_goes_289 ?_
    refine Go.get (v := .int (gI st 5)) hx hb hts in_Ref hown hK 0 (Rw_0 ad ca _) rfl 13 (by decide) (hts _ k_628) (fun _ h9 => h9) rfl d_Ref_goes_290 ?_
    refine Go.if_le (tgt := 315) hx hb d_Ref_goes_293 rfl (fun c293 => ?_) (fun c293 => ?_)
    · replace h := (if_pos c293).symm.trans h
      refine Go.iconst (v := 0) hx hb (by decide) d_Ref_goes_315 ?_
      refine Go.bipush (v := 7) hx hb (by decide) d_Ref_goes_316 ?_
      obtain ⟨r4, s4, q4, h⟩ := gb_some h
      refine Go.callVi S hK hA 0 (Rw_0 ad ca _) rfl (fun sz9 => m_Ref_needs l D ad ca N _ sz9 _ _ r4 s4 q4) (cwV 2 hts (gwV k_747 k_749 k_40 k_67 k_750) rfl rfl rfl (by decide +kernel) ⟨Nat.le_of_ble_eq_true rfl, Nat.le_of_ble_eq_true rfl⟩) rfl rfl (Nat.le_of_ble_eq_true rfl) ⟨Nat.zero_le _, Nat.zero_le _⟩ d_Ref_goes_318 ?_
      refine Go.if_eq (tgt := 334) hx hb d_Ref_goes_321 rfl (fun c321 => ?_) (fun c321 => ?_)
      · replace h := (if_pos c321).symm.trans h
        refine Go.iconst (v := 0) hx hb (by decide) d_Ref_goes_334 ?_
        exact Go.zret hx hb hr hK hlk rfl h d_Ref_goes_335
      · replace h := (if_neg c321).symm.trans h
        refine Go.aload_n hx hb 0 rfl d_Ref_goes_324 ?_
        refine Go.dup hx hb rfl d_Ref_goes_325 ?_
        refine Go.get (v := .int (gI s4 5)) hx hb hts in_Ref hown hK 0 (Rw_0 ad ca _) rfl 13 (by decide) (hts _ k_628) (fun _ h9 => h9) rfl d_Ref_goes_326 ?_
        refine Go.iconst (v := 1) hx hb (by decide) d_Ref_goes_329 ?_
        refine Go.isub hx hb d_Ref_goes_330 ?_
        refine Go.put (ty := (.int)) hx hb hts in_Ref ty_Ref tyok_Ref nm_Ref hown hK 0 (Rw_0 ad ca _) rfl 13 (by decide) (hts _ k_628) (fun _ h9 => h9) rfl (by decide +kernel) rfl rfl (Nat.le_of_ble_eq_true rfl) (uI s4 5 ((gI s4 5) - 1)) (Rs_I5 ad ca _ _) d_Ref_goes_331 ?_
        refine Go.iconst (v := 0) hx hb (by decide) d_Ref_goes_334 ?_
        exact Go.zret hx hb hr hK hlk rfl h d_Ref_goes_335
    · replace h := (if_neg c293).symm.trans h
      refine Go.aload_n hx hb 0 rfl d_Ref_goes_296 ?_
      refine Go.get (v := .ref (ad 8)) hx hb hts in_Ref hown hK 0 (Rw_0 ad ca _) rfl 12 (by decide) (hts _ k_627) (fun _ h9 => h9) rfl d_Ref_goes_297 ?_
      refine Go.aload_n hx hb 0 rfl d_Ref_goes_300 ?_
      refine Go.get (v := .int (gI st 5)) hx hb hts in_Ref hown hK 0 (Rw_0 ad ca _) rfl 13 (by decide) (hts _ k_628) (fun _ h9 => h9) rfl d_Ref_goes_301 ?_
      refine Go.iconst (v := 1) hx hb (by decide) d_Ref_goes_304 ?_
      refine Go.isub hx hb d_Ref_goes_305 ?_
      obtain ⟨c306, h⟩ := gg_some h
      refine Go.iald (v := gA st 7 ((gI st 5) - 1).toNatClampNeg) hx hb hK 8 7 (Rw_8 ad ca _) rfl c306 rfl d_Ref_goes_306 ?_
      refine Go.iconst (v := (-1)) hx hb (by decide) d_Ref_goes_307 ?_
      refine Go.icmp_eq (tgt := 315) hx hb d_Ref_goes_308 rfl (fun c308 => ?_) (fun c308 => ?_)
      · replace h := (if_pos c308).symm.trans h
        refine Go.iconst (v := 0) hx hb (by decide) d_Ref_goes_315 ?_
        refine Go.bipush (v := 7) hx hb (by decide) d_Ref_goes_316 ?_
        obtain ⟨r5, s5, q5, h⟩ := gb_some h
        refine Go.callVi S hK hA 0 (Rw_0 ad ca _) rfl (fun sz9 => m_Ref_needs l D ad ca N _ sz9 _ _ r5 s5 q5) (cwV 2 hts (gwV k_747 k_749 k_40 k_67 k_750) rfl rfl rfl (by decide +kernel) ⟨Nat.le_of_ble_eq_true rfl, Nat.le_of_ble_eq_true rfl⟩) rfl rfl (Nat.le_of_ble_eq_true rfl) ⟨Nat.zero_le _, Nat.zero_le _⟩ d_Ref_goes_318 ?_
        refine Go.if_eq (tgt := 334) hx hb d_Ref_goes_321 rfl (fun c321 => ?_) (fun c321 => ?_)
        · replace h := (if_pos c321).symm.trans h
          refine Go.iconst (v := 0) hx hb (by decide) d_Ref_goes_334 ?_
          exact Go.zret hx hb hr hK hlk rfl h d_Ref_goes_335
        · replace h := (if_neg c321).symm.trans h
          refine Go.aload_n hx hb 0 rfl d_Ref_goes_324 ?_
          refine Go.dup hx hb rfl d_Ref_goes_325 ?_
          refine Go.get (v := .int (gI s5 5)) hx hb hts in_Ref hown hK 0 (Rw_0 ad ca _) rfl 13 (by decide) (hts _ k_628) (fun _ h9 => h9) rfl d_Ref_goes_326 ?_
          refine Go.iconst (v := 1) hx hb (by decide) d_Ref_goes_329 ?_
          refine Go.isub hx hb d_Ref_goes_330 ?_
          refine Go.put (ty := (.int)) hx hb hts in_Ref ty_Ref tyok_Ref nm_Ref hown hK 0 (Rw_0 ad ca _) rfl 13 (by decide) (hts _ k_628) (fun _ h9 => h9) rfl (by decide +kernel) rfl rfl (Nat.le_of_ble_eq_true rfl) (uI s5 5 ((gI s5 5) - 1)) (Rs_I5 ad ca _ _) d_Ref_goes_331 ?_
          refine Go.iconst (v := 0) hx hb (by decide) d_Ref_goes_334 ?_
          exact Go.zret hx hb hr hK hlk rfl h d_Ref_goes_335
      · replace h := (if_neg c308).symm.trans h
        refine Go.iconst (v := 1) hx hb (by decide) d_Ref_goes_311 ?_
        refine Go.goto (tgt := 316) hx hb d_Ref_goes_312 rfl ?_
        refine Go.bipush (v := 7) hx hb (by decide) d_Ref_goes_316 ?_
        obtain ⟨r6, s6, q6, h⟩ := gb_some h
        refine Go.callVi S hK hA 0 (Rw_0 ad ca _) rfl (fun sz9 => m_Ref_needs l D ad ca N _ sz9 _ _ r6 s6 q6) (cwV 2 hts (gwV k_747 k_749 k_40 k_67 k_750) rfl rfl rfl (by decide +kernel) ⟨Nat.le_of_ble_eq_true rfl, Nat.le_of_ble_eq_true rfl⟩) rfl rfl (Nat.le_of_ble_eq_true rfl) ⟨Nat.zero_le _, Nat.zero_le _⟩ d_Ref_goes_318 ?_
        refine Go.if_eq (tgt := 334) hx hb d_Ref_goes_321 rfl (fun c321 => ?_) (fun c321 => ?_)
        · replace h := (if_pos c321).symm.trans h
          refine Go.iconst (v := 0) hx hb (by decide) d_Ref_goes_334 ?_
          exact Go.zret hx hb hr hK hlk rfl h d_Ref_goes_335
        · replace h := (if_neg c321).symm.trans h
          refine Go.aload_n hx hb 0 rfl d_Ref_goes_324 ?_
          refine Go.dup hx hb rfl d_Ref_goes_325 ?_
          refine Go.get (v := .int (gI s6 5)) hx hb hts in_Ref hown hK 0 (Rw_0 ad ca _) rfl 13 (by decide) (hts _ k_628) (fun _ h9 => h9) rfl d_Ref_goes_326 ?_
          refine Go.iconst (v := 1) hx hb (by decide) d_Ref_goes_329 ?_
          refine Go.isub hx hb d_Ref_goes_330 ?_
          refine Go.put (ty := (.int)) hx hb hts in_Ref ty_Ref tyok_Ref nm_Ref hown hK 0 (Rw_0 ad ca _) rfl 13 (by decide) (hts _ k_628) (fun _ h9 => h9) rfl (by decide +kernel) rfl rfl (Nat.le_of_ble_eq_true rfl) (uI s6 5 ((gI s6 5) - 1)) (Rs_I5 ad ca _ _) d_Ref_goes_331 ?_
          refine Go.iconst (v := 0) hx hb (by decide) d_Ref_goes_334 ?_
          exact Go.zret hx hb hr hK hlk rfl h d_Ref_goes_335
  replace h := (if_neg c1_3).symm.trans h
  by_cases c1_4 : a0 = 19
  · replace h := (if_pos c1_4).symm.trans h
    refine Go.tin (tgt := 288) (off := 287) hx hb 19 c1_4 d_Ref_goes_1 (by decide) (by decide) rfl rfl ?_
    refine Go.aload_n hx hb 0 rfl d_Ref_goes_288 ?_
    refine Go.aload_n hx hb 0 rfl d_Ref_goes_289 ?_
    refine Go.get (v := .int (gI st 5)) hx hb hts in_Ref hown hK 0 (Rw_0 ad ca _) rfl 13 (by decide) (hts _ k_628) (fun _ h9 => h9) rfl d_Ref_goes_290 ?_
    refine Go.if_le (tgt := 315) hx hb d_Ref_goes_293 rfl (fun c293 => ?_) (fun c293 => ?_)
    · replace h := (if_pos c293).symm.trans h
      refine Go.iconst (v := 0) hx hb (by decide) d_Ref_goes_315 ?_
      refine Go.bipush (v := 7) hx hb (by decide) d_Ref_goes_316 ?_
      obtain ⟨r7, s7, q7, h⟩ := gb_some h
      refine Go.callVi S hK hA 0 (Rw_0 ad ca _) rfl (fun sz9 => m_Ref_needs l D ad ca N _ sz9 _ _ r7 s7 q7) (cwV 2 hts (gwV k_747 k_749 k_40 k_67 k_750) rfl rfl rfl (by decide +kernel) ⟨Nat.le_of_ble_eq_true rfl, Nat.le_of_ble_eq_true rfl⟩) rfl rfl (Nat.le_of_ble_eq_true rfl) ⟨Nat.zero_le _, Nat.zero_le _⟩ d_Ref_goes_318 ?_
      refine Go.if_eq (tgt := 334) hx hb d_Ref_goes_321 rfl (fun c321 => ?_) (fun c321 => ?_)
      · replace h := (if_pos c321).symm.trans h
        refine Go.iconst (v := 0) hx hb (by decide) d_Ref_goes_334 ?_
        exact Go.zret hx hb hr hK hlk rfl h d_Ref_goes_335
      · replace h := (if_neg c321).symm.trans h
        refine Go.aload_n hx hb 0 rfl d_Ref_goes_324 ?_
        refine Go.dup hx hb rfl d_Ref_goes_325 ?_
        refine Go.get (v := .int (gI s7 5)) hx hb hts in_Ref hown hK 0 (Rw_0 ad ca _) rfl 13 (by decide) (hts _ k_628) (fun _ h9 => h9) rfl d_Ref_goes_326 ?_
        refine Go.iconst (v := 1) hx hb (by decide) d_Ref_goes_329 ?_
        refine Go.isub hx hb d_Ref_goes_330 ?_
        refine Go.put (ty := (.int)) hx hb hts in_Ref ty_Ref tyok_Ref nm_Ref hown hK 0 (Rw_0 ad ca _) rfl 13 (by decide) (hts _ k_628) (fun _ h9 => h9) rfl (by decide +kernel) rfl rfl (Nat.le_of_ble_eq_true rfl) (uI s7 5 ((gI s7 5) - 1)) (Rs_I5 ad ca _ _) d_Ref_goes_331 ?_
        refine Go.iconst (v := 0) hx hb (by decide) d_Ref_goes_334 ?_
        exact Go.zret hx hb hr hK hlk rfl h d_Ref_goes_335
    · replace h := (if_neg c293).symm.trans h
      refine Go.aload_n hx hb 0 rfl d_Ref_goes_296 ?_
      refine Go.get (v := .ref (ad 8)) hx hb hts in_Ref hown hK 0 (Rw_0 ad ca _) rfl 12 (by decide) (hts _ k_627) (fun _ h9 => h9) rfl d_Ref_goes_297 ?_
      refine Go.aload_n hx hb 0 rfl d_Ref_goes_300 ?_
      refine Go.get (v := .int (gI st 5)) hx hb hts in_Ref hown hK 0 (Rw_0 ad ca _) rfl 13 (by decide) (hts _ k_628) (fun _ h9 => h9) rfl d_Ref_goes_301 ?_
      refine Go.iconst (v := 1) hx hb (by decide) d_Ref_goes_304 ?_
      refine Go.isub hx hb d_Ref_goes_305 ?_
      obtain ⟨c306, h⟩ := gg_some h
      refine Go.iald (v := gA st 7 ((gI st 5) - 1).toNatClampNeg) hx hb hK 8 7 (Rw_8 ad ca _) rfl c306 rfl d_Ref_goes_306 ?_
      refine Go.iconst (v := (-1)) hx hb (by decide) d_Ref_goes_307 ?_
      refine Go.icmp_eq (tgt := 315) hx hb d_Ref_goes_308 rfl (fun c308 => ?_) (fun c308 => ?_)
      · replace h := (if_pos c308).symm.trans h
        refine Go.iconst (v := 0) hx hb (by decide) d_Ref_goes_315 ?_
        refine Go.bipush (v := 7) hx hb (by decide) d_Ref_goes_316 ?_
        obtain ⟨r8, s8, q8, h⟩ := gb_some h
        refine Go.callVi S hK hA 0 (Rw_0 ad ca _) rfl (fun sz9 => m_Ref_needs l D ad ca N _ sz9 _ _ r8 s8 q8) (cwV 2 hts (gwV k_747 k_749 k_40 k_67 k_750) rfl rfl rfl (by decide +kernel) ⟨Nat.le_of_ble_eq_true rfl, Nat.le_of_ble_eq_true rfl⟩) rfl rfl (Nat.le_of_ble_eq_true rfl) ⟨Nat.zero_le _, Nat.zero_le _⟩ d_Ref_goes_318 ?_
        refine Go.if_eq (tgt := 334) hx hb d_Ref_goes_321 rfl (fun c321 => ?_) (fun c321 => ?_)
        · replace h := (if_pos c321).symm.trans h
          refine Go.iconst (v := 0) hx hb (by decide) d_Ref_goes_334 ?_
          exact Go.zret hx hb hr hK hlk rfl h d_Ref_goes_335
        · replace h := (if_neg c321).symm.trans h
          refine Go.aload_n hx hb 0 rfl d_Ref_goes_324 ?_
          refine Go.dup hx hb rfl d_Ref_goes_325 ?_
          refine Go.get (v := .int (gI s8 5)) hx hb hts in_Ref hown hK 0 (Rw_0 ad ca _) rfl 13 (by decide) (hts _ k_628) (fun _ h9 => h9) rfl d_Ref_goes_326 ?_
          refine Go.iconst (v := 1) hx hb (by decide) d_Ref_goes_329 ?_
          refine Go.isub hx hb d_Ref_goes_330 ?_
          refine Go.put (ty := (.int)) hx hb hts in_Ref ty_Ref tyok_Ref nm_Ref hown hK 0 (Rw_0 ad ca _) rfl 13 (by decide) (hts _ k_628) (fun _ h9 => h9) rfl (by decide +kernel) rfl rfl (Nat.le_of_ble_eq_true rfl) (uI s8 5 ((gI s8 5) - 1)) (Rs_I5 ad ca _ _) d_Ref_goes_331 ?_
          refine Go.iconst (v := 0) hx hb (by decide) d_Ref_goes_334 ?_
          exact Go.zret hx hb hr hK hlk rfl h d_Ref_goes_335
      · replace h := (if_neg c308).symm.trans h
        refine Go.iconst (v := 1) hx hb (by decide) d_Ref_goes_311 ?_
        refine Go.goto (tgt := 316) hx hb d_Ref_goes_312 rfl ?_
        refine Go.bipush (v := 7) hx hb (by decide) d_Ref_goes_316 ?_
        obtain ⟨r9, s9, q9, h⟩ := gb_some h
        refine Go.callVi S hK hA 0 (Rw_0 ad ca _) rfl (fun sz9 => m_Ref_needs l D ad ca N _ sz9 _ _ r9 s9 q9) (cwV 2 hts (gwV k_747 k_749 k_40 k_67 k_750) rfl rfl rfl (by decide +kernel) ⟨Nat.le_of_ble_eq_true rfl, Nat.le_of_ble_eq_true rfl⟩) rfl rfl (Nat.le_of_ble_eq_true rfl) ⟨Nat.zero_le _, Nat.zero_le _⟩ d_Ref_goes_318 ?_
        refine Go.if_eq (tgt := 334) hx hb d_Ref_goes_321 rfl (fun c321 => ?_) (fun c321 => ?_)
        · replace h := (if_pos c321).symm.trans h
          refine Go.iconst (v := 0) hx hb (by decide) d_Ref_goes_334 ?_
          exact Go.zret hx hb hr hK hlk rfl h d_Ref_goes_335
        · replace h := (if_neg c321).symm.trans h
          refine Go.aload_n hx hb 0 rfl d_Ref_goes_324 ?_
          refine Go.dup hx hb rfl d_Ref_goes_325 ?_
          refine Go.get (v := .int (gI s9 5)) hx hb hts in_Ref hown hK 0 (Rw_0 ad ca _) rfl 13 (by decide) (hts _ k_628) (fun _ h9 => h9) rfl d_Ref_goes_326 ?_
          refine Go.iconst (v := 1) hx hb (by decide) d_Ref_goes_329 ?_
          refine Go.isub hx hb d_Ref_goes_330 ?_
          refine Go.put (ty := (.int)) hx hb hts in_Ref ty_Ref tyok_Ref nm_Ref hown hK 0 (Rw_0 ad ca _) rfl 13 (by decide) (hts _ k_628) (fun _ h9 => h9) rfl (by decide +kernel) rfl rfl (Nat.le_of_ble_eq_true rfl) (uI s9 5 ((gI s9 5) - 1)) (Rs_I5 ad ca _ _) d_Ref_goes_331 ?_
          refine Go.iconst (v := 0) hx hb (by decide) d_Ref_goes_334 ?_
          exact Go.zret hx hb hr hK hlk rfl h d_Ref_goes_335
  replace h := (if_neg c1_4).symm.trans h
  by_cases c1_5 : a0 = 20
  · replace h := (if_pos c1_5).symm.trans h
    refine Go.tin (tgt := 288) (off := 287) hx hb 20 c1_5 d_Ref_goes_1 (by decide) (by decide) rfl rfl ?_
    refine Go.aload_n hx hb 0 rfl d_Ref_goes_288 ?_
    refine Go.aload_n hx hb 0 rfl d_Ref_goes_289 ?_
    refine Go.get (v := .int (gI st 5)) hx hb hts in_Ref hown hK 0 (Rw_0 ad ca _) rfl 13 (by decide) (hts _ k_628) (fun _ h9 => h9) rfl d_Ref_goes_290 ?_
    refine Go.if_le (tgt := 315) hx hb d_Ref_goes_293 rfl (fun c293 => ?_) (fun c293 => ?_)
    · replace h := (if_pos c293).symm.trans h
      refine Go.iconst (v := 0) hx hb (by decide) d_Ref_goes_315 ?_
      refine Go.bipush (v := 7) hx hb (by decide) d_Ref_goes_316 ?_
      obtain ⟨r10, s10, q10, h⟩ := gb_some h
      refine Go.callVi S hK hA 0 (Rw_0 ad ca _) rfl (fun sz9 => m_Ref_needs l D ad ca N _ sz9 _ _ r10 s10 q10) (cwV 2 hts (gwV k_747 k_749 k_40 k_67 k_750) rfl rfl rfl (by decide +kernel) ⟨Nat.le_of_ble_eq_true rfl, Nat.le_of_ble_eq_true rfl⟩) rfl rfl (Nat.le_of_ble_eq_true rfl) ⟨Nat.zero_le _, Nat.zero_le _⟩ d_Ref_goes_318 ?_
      refine Go.if_eq (tgt := 334) hx hb d_Ref_goes_321 rfl (fun c321 => ?_) (fun c321 => ?_)
      · replace h := (if_pos c321).symm.trans h
        refine Go.iconst (v := 0) hx hb (by decide) d_Ref_goes_334 ?_
        exact Go.zret hx hb hr hK hlk rfl h d_Ref_goes_335
      · replace h := (if_neg c321).symm.trans h
        refine Go.aload_n hx hb 0 rfl d_Ref_goes_324 ?_
        refine Go.dup hx hb rfl d_Ref_goes_325 ?_
        refine Go.get (v := .int (gI s10 5)) hx hb hts in_Ref hown hK 0 (Rw_0 ad ca _) rfl 13 (by decide) (hts _ k_628) (fun _ h9 => h9) rfl d_Ref_goes_326 ?_
        refine Go.iconst (v := 1) hx hb (by decide) d_Ref_goes_329 ?_
        refine Go.isub hx hb d_Ref_goes_330 ?_
        refine Go.put (ty := (.int)) hx hb hts in_Ref ty_Ref tyok_Ref nm_Ref hown hK 0 (Rw_0 ad ca _) rfl 13 (by decide) (hts _ k_628) (fun _ h9 => h9) rfl (by decide +kernel) rfl rfl (Nat.le_of_ble_eq_true rfl) (uI s10 5 ((gI s10 5) - 1)) (Rs_I5 ad ca _ _) d_Ref_goes_331 ?_
        refine Go.iconst (v := 0) hx hb (by decide) d_Ref_goes_334 ?_
        exact Go.zret hx hb hr hK hlk rfl h d_Ref_goes_335
    · replace h := (if_neg c293).symm.trans h
      refine Go.aload_n hx hb 0 rfl d_Ref_goes_296 ?_
      refine Go.get (v := .ref (ad 8)) hx hb hts in_Ref hown hK 0 (Rw_0 ad ca _) rfl 12 (by decide) (hts _ k_627) (fun _ h9 => h9) rfl d_Ref_goes_297 ?_
      refine Go.aload_n hx hb 0 rfl d_Ref_goes_300 ?_
      refine Go.get (v := .int (gI st 5)) hx hb hts in_Ref hown hK 0 (Rw_0 ad ca _) rfl 13 (by decide) (hts _ k_628) (fun _ h9 => h9) rfl d_Ref_goes_301 ?_
      refine Go.iconst (v := 1) hx hb (by decide) d_Ref_goes_304 ?_
      refine Go.isub hx hb d_Ref_goes_305 ?_
      obtain ⟨c306, h⟩ := gg_some h
      refine Go.iald (v := gA st 7 ((gI st 5) - 1).toNatClampNeg) hx hb hK 8 7 (Rw_8 ad ca _) rfl c306 rfl d_Ref_goes_306 ?_
      refine Go.iconst (v := (-1)) hx hb (by decide) d_Ref_goes_307 ?_
      refine Go.icmp_eq (tgt := 315) hx hb d_Ref_goes_308 rfl (fun c308 => ?_) (fun c308 => ?_)
      · replace h := (if_pos c308).symm.trans h
        refine Go.iconst (v := 0) hx hb (by decide) d_Ref_goes_315 ?_
        refine Go.bipush (v := 7) hx hb (by decide) d_Ref_goes_316 ?_
        obtain ⟨r11, s11, q11, h⟩ := gb_some h
        refine Go.callVi S hK hA 0 (Rw_0 ad ca _) rfl (fun sz9 => m_Ref_needs l D ad ca N _ sz9 _ _ r11 s11 q11) (cwV 2 hts (gwV k_747 k_749 k_40 k_67 k_750) rfl rfl rfl (by decide +kernel) ⟨Nat.le_of_ble_eq_true rfl, Nat.le_of_ble_eq_true rfl⟩) rfl rfl (Nat.le_of_ble_eq_true rfl) ⟨Nat.zero_le _, Nat.zero_le _⟩ d_Ref_goes_318 ?_
        refine Go.if_eq (tgt := 334) hx hb d_Ref_goes_321 rfl (fun c321 => ?_) (fun c321 => ?_)
        · replace h := (if_pos c321).symm.trans h
          refine Go.iconst (v := 0) hx hb (by decide) d_Ref_goes_334 ?_
          exact Go.zret hx hb hr hK hlk rfl h d_Ref_goes_335
        · replace h := (if_neg c321).symm.trans h
          refine Go.aload_n hx hb 0 rfl d_Ref_goes_324 ?_
          refine Go.dup hx hb rfl d_Ref_goes_325 ?_
          refine Go.get (v := .int (gI s11 5)) hx hb hts in_Ref hown hK 0 (Rw_0 ad ca _) rfl 13 (by decide) (hts _ k_628) (fun _ h9 => h9) rfl d_Ref_goes_326 ?_
          refine Go.iconst (v := 1) hx hb (by decide) d_Ref_goes_329 ?_
          refine Go.isub hx hb d_Ref_goes_330 ?_
          refine Go.put (ty := (.int)) hx hb hts in_Ref ty_Ref tyok_Ref nm_Ref hown hK 0 (Rw_0 ad ca _) rfl 13 (by decide) (hts _ k_628) (fun _ h9 => h9) rfl (by decide +kernel) rfl rfl (Nat.le_of_ble_eq_true rfl) (uI s11 5 ((gI s11 5) - 1)) (Rs_I5 ad ca _ _) d_Ref_goes_331 ?_
          refine Go.iconst (v := 0) hx hb (by decide) d_Ref_goes_334 ?_
          exact Go.zret hx hb hr hK hlk rfl h d_Ref_goes_335
      · replace h := (if_neg c308).symm.trans h
        refine Go.iconst (v := 1) hx hb (by decide) d_Ref_goes_311 ?_
        refine Go.goto (tgt := 316) hx hb d_Ref_goes_312 rfl ?_
        refine Go.bipush (v := 7) hx hb (by decide) d_Ref_goes_316 ?_
        obtain ⟨r12, s12, q12, h⟩ := gb_some h
        refine Go.callVi S hK hA 0 (Rw_0 ad ca _) rfl (fun sz9 => m_Ref_needs l D ad ca N _ sz9 _ _ r12 s12 q12) (cwV 2 hts (gwV k_747 k_749 k_40 k_67 k_750) rfl rfl rfl (by decide +kernel) ⟨Nat.le_of_ble_eq_true rfl, Nat.le_of_ble_eq_true rfl⟩) rfl rfl (Nat.le_of_ble_eq_true rfl) ⟨Nat.zero_le _, Nat.zero_le _⟩ d_Ref_goes_318 ?_
        refine Go.if_eq (tgt := 334) hx hb d_Ref_goes_321 rfl (fun c321 => ?_) (fun c321 => ?_)
        · replace h := (if_pos c321).symm.trans h
          refine Go.iconst (v := 0) hx hb (by decide) d_Ref_goes_334 ?_
          exact Go.zret hx hb hr hK hlk rfl h d_Ref_goes_335
        · replace h := (if_neg c321).symm.trans h
          refine Go.aload_n hx hb 0 rfl d_Ref_goes_324 ?_
          refine Go.dup hx hb rfl d_Ref_goes_325 ?_
          refine Go.get (v := .int (gI s12 5)) hx hb hts in_Ref hown hK 0 (Rw_0 ad ca _) rfl 13 (by decide) (hts _ k_628) (fun _ h9 => h9) rfl d_Ref_goes_326 ?_
          refine Go.iconst (v := 1) hx hb (by decide) d_Ref_goes_329 ?_
          refine Go.isub hx hb d_Ref_goes_330 ?_
          refine Go.put (ty := (.int)) hx hb hts in_Ref ty_Ref tyok_Ref nm_Ref hown hK 0 (Rw_0 ad ca _) rfl 13 (by decide) (hts _ k_628) (fun _ h9 => h9) rfl (by decide +kernel) rfl rfl (Nat.le_of_ble_eq_true rfl) (uI s12 5 ((gI s12 5) - 1)) (Rs_I5 ad ca _ _) d_Ref_goes_331 ?_
          refine Go.iconst (v := 0) hx hb (by decide) d_Ref_goes_334 ?_
          exact Go.zret hx hb hr hK hlk rfl h d_Ref_goes_335
  replace h := (if_neg c1_5).symm.trans h
  by_cases c1_6 : a0 = 21
  · replace h := (if_pos c1_6).symm.trans h
    refine Go.tin (tgt := 288) (off := 287) hx hb 21 c1_6 d_Ref_goes_1 (by decide) (by decide) rfl rfl ?_
    refine Go.aload_n hx hb 0 rfl d_Ref_goes_288 ?_
    refine Go.aload_n hx hb 0 rfl d_Ref_goes_289 ?_
    refine Go.get (v := .int (gI st 5)) hx hb hts in_Ref hown hK 0 (Rw_0 ad ca _) rfl 13 (by decide) (hts _ k_628) (fun _ h9 => h9) rfl d_Ref_goes_290 ?_
    refine Go.if_le (tgt := 315) hx hb d_Ref_goes_293 rfl (fun c293 => ?_) (fun c293 => ?_)
    · replace h := (if_pos c293).symm.trans h
      refine Go.iconst (v := 0) hx hb (by decide) d_Ref_goes_315 ?_
      refine Go.bipush (v := 7) hx hb (by decide) d_Ref_goes_316 ?_
      obtain ⟨r13, s13, q13, h⟩ := gb_some h
      refine Go.callVi S hK hA 0 (Rw_0 ad ca _) rfl (fun sz9 => m_Ref_needs l D ad ca N _ sz9 _ _ r13 s13 q13) (cwV 2 hts (gwV k_747 k_749 k_40 k_67 k_750) rfl rfl rfl (by decide +kernel) ⟨Nat.le_of_ble_eq_true rfl, Nat.le_of_ble_eq_true rfl⟩) rfl rfl (Nat.le_of_ble_eq_true rfl) ⟨Nat.zero_le _, Nat.zero_le _⟩ d_Ref_goes_318 ?_
      refine Go.if_eq (tgt := 334) hx hb d_Ref_goes_321 rfl (fun c321 => ?_) (fun c321 => ?_)
      · replace h := (if_pos c321).symm.trans h
        refine Go.iconst (v := 0) hx hb (by decide) d_Ref_goes_334 ?_
        exact Go.zret hx hb hr hK hlk rfl h d_Ref_goes_335
      · replace h := (if_neg c321).symm.trans h
        refine Go.aload_n hx hb 0 rfl d_Ref_goes_324 ?_
        refine Go.dup hx hb rfl d_Ref_goes_325 ?_
        refine Go.get (v := .int (gI s13 5)) hx hb hts in_Ref hown hK 0 (Rw_0 ad ca _) rfl 13 (by decide) (hts _ k_628) (fun _ h9 => h9) rfl d_Ref_goes_326 ?_
        refine Go.iconst (v := 1) hx hb (by decide) d_Ref_goes_329 ?_
        refine Go.isub hx hb d_Ref_goes_330 ?_
        refine Go.put (ty := (.int)) hx hb hts in_Ref ty_Ref tyok_Ref nm_Ref hown hK 0 (Rw_0 ad ca _) rfl 13 (by decide) (hts _ k_628) (fun _ h9 => h9) rfl (by decide +kernel) rfl rfl (Nat.le_of_ble_eq_true rfl) (uI s13 5 ((gI s13 5) - 1)) (Rs_I5 ad ca _ _) d_Ref_goes_331 ?_
        refine Go.iconst (v := 0) hx hb (by decide) d_Ref_goes_334 ?_
        exact Go.zret hx hb hr hK hlk rfl h d_Ref_goes_335
    · replace h := (if_neg c293).symm.trans h
      refine Go.aload_n hx hb 0 rfl d_Ref_goes_296 ?_
      refine Go.get (v := .ref (ad 8)) hx hb hts in_Ref hown hK 0 (Rw_0 ad ca _) rfl 12 (by decide) (hts _ k_627) (fun _ h9 => h9) rfl d_Ref_goes_297 ?_
      refine Go.aload_n hx hb 0 rfl d_Ref_goes_300 ?_
      refine Go.get (v := .int (gI st 5)) hx hb hts in_Ref hown hK 0 (Rw_0 ad ca _) rfl 13 (by decide) (hts _ k_628) (fun _ h9 => h9) rfl d_Ref_goes_301 ?_
      refine Go.iconst (v := 1) hx hb (by decide) d_Ref_goes_304 ?_
      refine Go.isub hx hb d_Ref_goes_305 ?_
      obtain ⟨c306, h⟩ := gg_some h
      refine Go.iald (v := gA st 7 ((gI st 5) - 1).toNatClampNeg) hx hb hK 8 7 (Rw_8 ad ca _) rfl c306 rfl d_Ref_goes_306 ?_
      refine Go.iconst (v := (-1)) hx hb (by decide) d_Ref_goes_307 ?_
      refine Go.icmp_eq (tgt := 315) hx hb d_Ref_goes_308 rfl (fun c308 => ?_) (fun c308 => ?_)
      · replace h := (if_pos c308).symm.trans h
        refine Go.iconst (v := 0) hx hb (by decide) d_Ref_goes_315 ?_
        refine Go.bipush (v := 7) hx hb (by decide) d_Ref_goes_316 ?_
        obtain ⟨r14, s14, q14, h⟩ := gb_some h
        refine Go.callVi S hK hA 0 (Rw_0 ad ca _) rfl (fun sz9 => m_Ref_needs l D ad ca N _ sz9 _ _ r14 s14 q14) (cwV 2 hts (gwV k_747 k_749 k_40 k_67 k_750) rfl rfl rfl (by decide +kernel) ⟨Nat.le_of_ble_eq_true rfl, Nat.le_of_ble_eq_true rfl⟩) rfl rfl (Nat.le_of_ble_eq_true rfl) ⟨Nat.zero_le _, Nat.zero_le _⟩ d_Ref_goes_318 ?_
        refine Go.if_eq (tgt := 334) hx hb d_Ref_goes_321 rfl (fun c321 => ?_) (fun c321 => ?_)
        · replace h := (if_pos c321).symm.trans h
          refine Go.iconst (v := 0) hx hb (by decide) d_Ref_goes_334 ?_
          exact Go.zret hx hb hr hK hlk rfl h d_Ref_goes_335
        · replace h := (if_neg c321).symm.trans h
          refine Go.aload_n hx hb 0 rfl d_Ref_goes_324 ?_
          refine Go.dup hx hb rfl d_Ref_goes_325 ?_
          refine Go.get (v := .int (gI s14 5)) hx hb hts in_Ref hown hK 0 (Rw_0 ad ca _) rfl 13 (by decide) (hts _ k_628) (fun _ h9 => h9) rfl d_Ref_goes_326 ?_
          refine Go.iconst (v := 1) hx hb (by decide) d_Ref_goes_329 ?_
          refine Go.isub hx hb d_Ref_goes_330 ?_
          refine Go.put (ty := (.int)) hx hb hts in_Ref ty_Ref tyok_Ref nm_Ref hown hK 0 (Rw_0 ad ca _) rfl 13 (by decide) (hts _ k_628) (fun _ h9 => h9) rfl (by decide +kernel) rfl rfl (Nat.le_of_ble_eq_true rfl) (uI s14 5 ((gI s14 5) - 1)) (Rs_I5 ad ca _ _) d_Ref_goes_331 ?_
          refine Go.iconst (v := 0) hx hb (by decide) d_Ref_goes_334 ?_
          exact Go.zret hx hb hr hK hlk rfl h d_Ref_goes_335
      · replace h := (if_neg c308).symm.trans h
        refine Go.iconst (v := 1) hx hb (by decide) d_Ref_goes_311 ?_
        refine Go.goto (tgt := 316) hx hb d_Ref_goes_312 rfl ?_
        refine Go.bipush (v := 7) hx hb (by decide) d_Ref_goes_316 ?_
        obtain ⟨r15, s15, q15, h⟩ := gb_some h
        refine Go.callVi S hK hA 0 (Rw_0 ad ca _) rfl (fun sz9 => m_Ref_needs l D ad ca N _ sz9 _ _ r15 s15 q15) (cwV 2 hts (gwV k_747 k_749 k_40 k_67 k_750) rfl rfl rfl (by decide +kernel) ⟨Nat.le_of_ble_eq_true rfl, Nat.le_of_ble_eq_true rfl⟩) rfl rfl (Nat.le_of_ble_eq_true rfl) ⟨Nat.zero_le _, Nat.zero_le _⟩ d_Ref_goes_318 ?_
        refine Go.if_eq (tgt := 334) hx hb d_Ref_goes_321 rfl (fun c321 => ?_) (fun c321 => ?_)
        · replace h := (if_pos c321).symm.trans h
          refine Go.iconst (v := 0) hx hb (by decide) d_Ref_goes_334 ?_
          exact Go.zret hx hb hr hK hlk rfl h d_Ref_goes_335
        · replace h := (if_neg c321).symm.trans h
          refine Go.aload_n hx hb 0 rfl d_Ref_goes_324 ?_
          refine Go.dup hx hb rfl d_Ref_goes_325 ?_
          refine Go.get (v := .int (gI s15 5)) hx hb hts in_Ref hown hK 0 (Rw_0 ad ca _) rfl 13 (by decide) (hts _ k_628) (fun _ h9 => h9) rfl d_Ref_goes_326 ?_
          refine Go.iconst (v := 1) hx hb (by decide) d_Ref_goes_329 ?_
          refine Go.isub hx hb d_Ref_goes_330 ?_
          refine Go.put (ty := (.int)) hx hb hts in_Ref ty_Ref tyok_Ref nm_Ref hown hK 0 (Rw_0 ad ca _) rfl 13 (by decide) (hts _ k_628) (fun _ h9 => h9) rfl (by decide +kernel) rfl rfl (Nat.le_of_ble_eq_true rfl) (uI s15 5 ((gI s15 5) - 1)) (Rs_I5 ad ca _ _) d_Ref_goes_331 ?_
          refine Go.iconst (v := 0) hx hb (by decide) d_Ref_goes_334 ?_
          exact Go.zret hx hb hr hK hlk rfl h d_Ref_goes_335
  replace h := (if_neg c1_6).symm.trans h
  by_cases c1_7 : a0 = 22
  · replace h := (if_pos c1_7).symm.trans h
    refine Go.tin (tgt := 288) (off := 287) hx hb 22 c1_7 d_Ref_goes_1 (by decide) (by decide) rfl rfl ?_
    refine Go.aload_n hx hb 0 rfl d_Ref_goes_288 ?_
    refine Go.aload_n hx hb 0 rfl d_Ref_goes_289 ?_
    refine Go.get (v := .int (gI st 5)) hx hb hts in_Ref hown hK 0 (Rw_0 ad ca _) rfl 13 (by decide) (hts _ k_628) (fun _ h9 => h9) rfl d_Ref_goes_290 ?_
    refine Go.if_le (tgt := 315) hx hb d_Ref_goes_293 rfl (fun c293 => ?_) (fun c293 => ?_)
    · replace h := (if_pos c293).symm.trans h
      refine Go.iconst (v := 0) hx hb (by decide) d_Ref_goes_315 ?_
      refine Go.bipush (v := 7) hx hb (by decide) d_Ref_goes_316 ?_
      obtain ⟨r16, s16, q16, h⟩ := gb_some h
      refine Go.callVi S hK hA 0 (Rw_0 ad ca _) rfl (fun sz9 => m_Ref_needs l D ad ca N _ sz9 _ _ r16 s16 q16) (cwV 2 hts (gwV k_747 k_749 k_40 k_67 k_750) rfl rfl rfl (by decide +kernel) ⟨Nat.le_of_ble_eq_true rfl, Nat.le_of_ble_eq_true rfl⟩) rfl rfl (Nat.le_of_ble_eq_true rfl) ⟨Nat.zero_le _, Nat.zero_le _⟩ d_Ref_goes_318 ?_
      refine Go.if_eq (tgt := 334) hx hb d_Ref_goes_321 rfl (fun c321 => ?_) (fun c321 => ?_)
      · replace h := (if_pos c321).symm.trans h
        refine Go.iconst (v := 0) hx hb (by decide) d_Ref_goes_334 ?_
        exact Go.zret hx hb hr hK hlk rfl h d_Ref_goes_335
      · replace h := (if_neg c321).symm.trans h
        refine Go.aload_n hx hb 0 rfl d_Ref_goes_324 ?_
        refine Go.dup hx hb rfl d_Ref_goes_325 ?_
        refine Go.get (v := .int (gI s16 5)) hx hb hts in_Ref hown hK 0 (Rw_0 ad ca _) rfl 13 (by decide) (hts _ k_628) (fun _ h9 => h9) rfl d_Ref_goes_326 ?_
        refine Go.iconst (v := 1) hx hb (by decide) d_Ref_goes_329 ?_
        refine Go.isub hx hb d_Ref_goes_330 ?_
        refine Go.put (ty := (.int)) hx hb hts in_Ref ty_Ref tyok_Ref nm_Ref hown hK 0 (Rw_0 ad ca _) rfl 13 (by decide) (hts _ k_628) (fun _ h9 => h9) rfl (by decide +kernel) rfl rfl (Nat.le_of_ble_eq_true rfl) (uI s16 5 ((gI s16 5) - 1)) (Rs_I5 ad ca _ _) d_Ref_goes_331 ?_
        refine Go.iconst (v := 0) hx hb (by decide) d_Ref_goes_334 ?_
        exact Go.zret hx hb hr hK hlk rfl h d_Ref_goes_335
    · replace h := (if_neg c293).symm.trans h
      refine Go.aload_n hx hb 0 rfl d_Ref_goes_296 ?_
      refine Go.get (v := .ref (ad 8)) hx hb hts in_Ref hown hK 0 (Rw_0 ad ca _) rfl 12 (by decide) (hts _ k_627) (fun _ h9 => h9) rfl d_Ref_goes_297 ?_
      refine Go.aload_n hx hb 0 rfl d_Ref_goes_300 ?_
      refine Go.get (v := .int (gI st 5)) hx hb hts in_Ref hown hK 0 (Rw_0 ad ca _) rfl 13 (by decide) (hts _ k_628) (fun _ h9 => h9) rfl d_Ref_goes_301 ?_
      refine Go.iconst (v := 1) hx hb (by decide) d_Ref_goes_304 ?_
      refine Go.isub hx hb d_Ref_goes_305 ?_
      obtain ⟨c306, h⟩ := gg_some h
      refine Go.iald (v := gA st 7 ((gI st 5) - 1).toNatClampNeg) hx hb hK 8 7 (Rw_8 ad ca _) rfl c306 rfl d_Ref_goes_306 ?_
      refine Go.iconst (v := (-1)) hx hb (by decide) d_Ref_goes_307 ?_
      refine Go.icmp_eq (tgt := 315) hx hb d_Ref_goes_308 rfl (fun c308 => ?_) (fun c308 => ?_)
      · replace h := (if_pos c308).symm.trans h
        refine Go.iconst (v := 0) hx hb (by decide) d_Ref_goes_315 ?_
        refine Go.bipush (v := 7) hx hb (by decide) d_Ref_goes_316 ?_
        obtain ⟨r17, s17, q17, h⟩ := gb_some h
        refine Go.callVi S hK hA 0 (Rw_0 ad ca _) rfl (fun sz9 => m_Ref_needs l D ad ca N _ sz9 _ _ r17 s17 q17) (cwV 2 hts (gwV k_747 k_749 k_40 k_67 k_750) rfl rfl rfl (by decide +kernel) ⟨Nat.le_of_ble_eq_true rfl, Nat.le_of_ble_eq_true rfl⟩) rfl rfl (Nat.le_of_ble_eq_true rfl) ⟨Nat.zero_le _, Nat.zero_le _⟩ d_Ref_goes_318 ?_
        refine Go.if_eq (tgt := 334) hx hb d_Ref_goes_321 rfl (fun c321 => ?_) (fun c321 => ?_)
        · replace h := (if_pos c321).symm.trans h
          refine Go.iconst (v := 0) hx hb (by decide) d_Ref_goes_334 ?_
          exact Go.zret hx hb hr hK hlk rfl h d_Ref_goes_335
        · replace h := (if_neg c321).symm.trans h
          refine Go.aload_n hx hb 0 rfl d_Ref_goes_324 ?_
          refine Go.dup hx hb rfl d_Ref_goes_325 ?_
          refine Go.get (v := .int (gI s17 5)) hx hb hts in_Ref hown hK 0 (Rw_0 ad ca _) rfl 13 (by decide) (hts _ k_628) (fun _ h9 => h9) rfl d_Ref_goes_326 ?_
          refine Go.iconst (v := 1) hx hb (by decide) d_Ref_goes_329 ?_
          refine Go.isub hx hb d_Ref_goes_330 ?_
          refine Go.put (ty := (.int)) hx hb hts in_Ref ty_Ref tyok_Ref nm_Ref hown hK 0 (Rw_0 ad ca _) rfl 13 (by decide) (hts _ k_628) (fun _ h9 => h9) rfl (by decide +kernel) rfl rfl (Nat.le_of_ble_eq_true rfl) (uI s17 5 ((gI s17 5) - 1)) (Rs_I5 ad ca _ _) d_Ref_goes_331 ?_
          refine Go.iconst (v := 0) hx hb (by decide) d_Ref_goes_334 ?_
          exact Go.zret hx hb hr hK hlk rfl h d_Ref_goes_335
      · replace h := (if_neg c308).symm.trans h
        refine Go.iconst (v := 1) hx hb (by decide) d_Ref_goes_311 ?_
        refine Go.goto (tgt := 316) hx hb d_Ref_goes_312 rfl ?_
        refine Go.bipush (v := 7) hx hb (by decide) d_Ref_goes_316 ?_
        obtain ⟨r18, s18, q18, h⟩ := gb_some h
        refine Go.callVi S hK hA 0 (Rw_0 ad ca _) rfl (fun sz9 => m_Ref_needs l D ad ca N _ sz9 _ _ r18 s18 q18) (cwV 2 hts (gwV k_747 k_749 k_40 k_67 k_750) rfl rfl rfl (by decide +kernel) ⟨Nat.le_of_ble_eq_true rfl, Nat.le_of_ble_eq_true rfl⟩) rfl rfl (Nat.le_of_ble_eq_true rfl) ⟨Nat.zero_le _, Nat.zero_le _⟩ d_Ref_goes_318 ?_
        refine Go.if_eq (tgt := 334) hx hb d_Ref_goes_321 rfl (fun c321 => ?_) (fun c321 => ?_)
        · replace h := (if_pos c321).symm.trans h
          refine Go.iconst (v := 0) hx hb (by decide) d_Ref_goes_334 ?_
          exact Go.zret hx hb hr hK hlk rfl h d_Ref_goes_335
        · replace h := (if_neg c321).symm.trans h
          refine Go.aload_n hx hb 0 rfl d_Ref_goes_324 ?_
          refine Go.dup hx hb rfl d_Ref_goes_325 ?_
          refine Go.get (v := .int (gI s18 5)) hx hb hts in_Ref hown hK 0 (Rw_0 ad ca _) rfl 13 (by decide) (hts _ k_628) (fun _ h9 => h9) rfl d_Ref_goes_326 ?_
          refine Go.iconst (v := 1) hx hb (by decide) d_Ref_goes_329 ?_
          refine Go.isub hx hb d_Ref_goes_330 ?_
          refine Go.put (ty := (.int)) hx hb hts in_Ref ty_Ref tyok_Ref nm_Ref hown hK 0 (Rw_0 ad ca _) rfl 13 (by decide) (hts _ k_628) (fun _ h9 => h9) rfl (by decide +kernel) rfl rfl (Nat.le_of_ble_eq_true rfl) (uI s18 5 ((gI s18 5) - 1)) (Rs_I5 ad ca _ _) d_Ref_goes_331 ?_
          refine Go.iconst (v := 0) hx hb (by decide) d_Ref_goes_334 ?_
          exact Go.zret hx hb hr hK hlk rfl h d_Ref_goes_335
  replace h := (if_neg c1_7).symm.trans h
  by_cases c1_8 : a0 = 23
  · replace h := (if_pos c1_8).symm.trans h
    refine Go.tin (tgt := 288) (off := 287) hx hb 23 c1_8 d_Ref_goes_1 (by decide) (by decide) rfl rfl ?_
    refine Go.aload_n hx hb 0 rfl d_Ref_goes_288 ?_
    refine Go.aload_n hx hb 0 rfl d_Ref_goes_289 ?_
    refine Go.get (v := .int (gI st 5)) hx hb hts in_Ref hown hK 0 (Rw_0 ad ca _) rfl 13 (by decide) (hts _ k_628) (fun _ h9 => h9) rfl d_Ref_goes_290 ?_
    refine Go.if_le (tgt := 315) hx hb d_Ref_goes_293 rfl (fun c293 => ?_) (fun c293 => ?_)
    · replace h := (if_pos c293).symm.trans h
      refine Go.iconst (v := 0) hx hb (by decide) d_Ref_goes_315 ?_
      refine Go.bipush (v := 7) hx hb (by decide) d_Ref_goes_316 ?_
      obtain ⟨r19, s19, q19, h⟩ := gb_some h
      refine Go.callVi S hK hA 0 (Rw_0 ad ca _) rfl (fun sz9 => m_Ref_needs l D ad ca N _ sz9 _ _ r19 s19 q19) (cwV 2 hts (gwV k_747 k_749 k_40 k_67 k_750) rfl rfl rfl (by decide +kernel) ⟨Nat.le_of_ble_eq_true rfl, Nat.le_of_ble_eq_true rfl⟩) rfl rfl (Nat.le_of_ble_eq_true rfl) ⟨Nat.zero_le _, Nat.zero_le _⟩ d_Ref_goes_318 ?_
      refine Go.if_eq (tgt := 334) hx hb d_Ref_goes_321 rfl (fun c321 => ?_) (fun c321 => ?_)
      · replace h := (if_pos c321).symm.trans h
        refine Go.iconst (v := 0) hx hb (by decide) d_Ref_goes_334 ?_
        exact Go.zret hx hb hr hK hlk rfl h d_Ref_goes_335
      · replace h := (if_neg c321).symm.trans h
        refine Go.aload_n hx hb 0 rfl d_Ref_goes_324 ?_
        refine Go.dup hx hb rfl d_Ref_goes_325 ?_
        refine Go.get (v := .int (gI s19 5)) hx hb hts in_Ref hown hK 0 (Rw_0 ad ca _) rfl 13 (by decide) (hts _ k_628) (fun _ h9 => h9) rfl d_Ref_goes_326 ?_
        refine Go.iconst (v := 1) hx hb (by decide) d_Ref_goes_329 ?_
        refine Go.isub hx hb d_Ref_goes_330 ?_
        refine Go.put (ty := (.int)) hx hb hts in_Ref ty_Ref tyok_Ref nm_Ref hown hK 0 (Rw_0 ad ca _) rfl 13 (by decide) (hts _ k_628) (fun _ h9 => h9) rfl (by decide +kernel) rfl rfl (Nat.le_of_ble_eq_true rfl) (uI s19 5 ((gI s19 5) - 1)) (Rs_I5 ad ca _ _) d_Ref_goes_331 ?_
        refine Go.iconst (v := 0) hx hb (by decide) d_Ref_goes_334 ?_
        exact Go.zret hx hb hr hK hlk rfl h d_Ref_goes_335
    · replace h := (if_neg c293).symm.trans h
      refine Go.aload_n hx hb 0 rfl d_Ref_goes_296 ?_
      refine Go.get (v := .ref (ad 8)) hx hb hts in_Ref hown hK 0 (Rw_0 ad ca _) rfl 12 (by decide) (hts _ k_627) (fun _ h9 => h9) rfl d_Ref_goes_297 ?_
      refine Go.aload_n hx hb 0 rfl d_Ref_goes_300 ?_
      refine Go.get (v := .int (gI st 5)) hx hb hts in_Ref hown hK 0 (Rw_0 ad ca _) rfl 13 (by decide) (hts _ k_628) (fun _ h9 => h9) rfl d_Ref_goes_301 ?_
      refine Go.iconst (v := 1) hx hb (by decide) d_Ref_goes_304 ?_
      refine Go.isub hx hb d_Ref_goes_305 ?_
      obtain ⟨c306, h⟩ := gg_some h
      refine Go.iald (v := gA st 7 ((gI st 5) - 1).toNatClampNeg) hx hb hK 8 7 (Rw_8 ad ca _) rfl c306 rfl d_Ref_goes_306 ?_
      refine Go.iconst (v := (-1)) hx hb (by decide) d_Ref_goes_307 ?_
      refine Go.icmp_eq (tgt := 315) hx hb d_Ref_goes_308 rfl (fun c308 => ?_) (fun c308 => ?_)
      · replace h := (if_pos c308).symm.trans h
        refine Go.iconst (v := 0) hx hb (by decide) d_Ref_goes_315 ?_
        refine Go.bipush (v := 7) hx hb (by decide) d_Ref_goes_316 ?_
        obtain ⟨r20, s20, q20, h⟩ := gb_some h
        refine Go.callVi S hK hA 0 (Rw_0 ad ca _) rfl (fun sz9 => m_Ref_needs l D ad ca N _ sz9 _ _ r20 s20 q20) (cwV 2 hts (gwV k_747 k_749 k_40 k_67 k_750) rfl rfl rfl (by decide +kernel) ⟨Nat.le_of_ble_eq_true rfl, Nat.le_of_ble_eq_true rfl⟩) rfl rfl (Nat.le_of_ble_eq_true rfl) ⟨Nat.zero_le _, Nat.zero_le _⟩ d_Ref_goes_318 ?_
        refine Go.if_eq (tgt := 334) hx hb d_Ref_goes_321 rfl (fun c321 => ?_) (fun c321 => ?_)
        · replace h := (if_pos c321).symm.trans h
          refine Go.iconst (v := 0) hx hb (by decide) d_Ref_goes_334 ?_
          exact Go.zret hx hb hr hK hlk rfl h d_Ref_goes_335
        · replace h := (if_neg c321).symm.trans h
          refine Go.aload_n hx hb 0 rfl d_Ref_goes_324 ?_
          refine Go.dup hx hb rfl d_Ref_goes_325 ?_
          refine Go.get (v := .int (gI s20 5)) hx hb hts in_Ref hown hK 0 (Rw_0 ad ca _) rfl 13 (by decide) (hts _ k_628) (fun _ h9 => h9) rfl d_Ref_goes_326 ?_
          refine Go.iconst (v := 1) hx hb (by decide) d_Ref_goes_329 ?_
          refine Go.isub hx hb d_Ref_goes_330 ?_
          refine Go.put (ty := (.int)) hx hb hts in_Ref ty_Ref tyok_Ref nm_Ref hown hK 0 (Rw_0 ad ca _) rfl 13 (by decide) (hts _ k_628) (fun _ h9 => h9) rfl (by decide +kernel) rfl rfl (Nat.le_of_ble_eq_true rfl) (uI s20 5 ((gI s20 5) - 1)) (Rs_I5 ad ca _ _) d_Ref_goes_331 ?_
          refine Go.iconst (v := 0) hx hb (by decide) d_Ref_goes_334 ?_
          exact Go.zret hx hb hr hK hlk rfl h d_Ref_goes_335
      · replace h := (if_neg c308).symm.trans h
        refine Go.iconst (v := 1) hx hb (by decide) d_Ref_goes_311 ?_
        refine Go.goto (tgt := 316) hx hb d_Ref_goes_312 rfl ?_
        refine Go.bipush (v := 7) hx hb (by decide) d_Ref_goes_316 ?_
        obtain ⟨r21, s21, q21, h⟩ := gb_some h
        refine Go.callVi S hK hA 0 (Rw_0 ad ca _) rfl (fun sz9 => m_Ref_needs l D ad ca N _ sz9 _ _ r21 s21 q21) (cwV 2 hts (gwV k_747 k_749 k_40 k_67 k_750) rfl rfl rfl (by decide +kernel) ⟨Nat.le_of_ble_eq_true rfl, Nat.le_of_ble_eq_true rfl⟩) rfl rfl (Nat.le_of_ble_eq_true rfl) ⟨Nat.zero_le _, Nat.zero_le _⟩ d_Ref_goes_318 ?_
        refine Go.if_eq (tgt := 334) hx hb d_Ref_goes_321 rfl (fun c321 => ?_) (fun c321 => ?_)
        · replace h := (if_pos c321).symm.trans h
          refine Go.iconst (v := 0) hx hb (by decide) d_Ref_goes_334 ?_
          exact Go.zret hx hb hr hK hlk rfl h d_Ref_goes_335
        · replace h := (if_neg c321).symm.trans h
          refine Go.aload_n hx hb 0 rfl d_Ref_goes_324 ?_
          refine Go.dup hx hb rfl d_Ref_goes_325 ?_
          refine Go.get (v := .int (gI s21 5)) hx hb hts in_Ref hown hK 0 (Rw_0 ad ca _) rfl 13 (by decide) (hts _ k_628) (fun _ h9 => h9) rfl d_Ref_goes_326 ?_
          refine Go.iconst (v := 1) hx hb (by decide) d_Ref_goes_329 ?_
          refine Go.isub hx hb d_Ref_goes_330 ?_
          refine Go.put (ty := (.int)) hx hb hts in_Ref ty_Ref tyok_Ref nm_Ref hown hK 0 (Rw_0 ad ca _) rfl 13 (by decide) (hts _ k_628) (fun _ h9 => h9) rfl (by decide +kernel) rfl rfl (Nat.le_of_ble_eq_true rfl) (uI s21 5 ((gI s21 5) - 1)) (Rs_I5 ad ca _ _) d_Ref_goes_331 ?_
          refine Go.iconst (v := 0) hx hb (by decide) d_Ref_goes_334 ?_
          exact Go.zret hx hb hr hK hlk rfl h d_Ref_goes_335
  replace h := (if_neg c1_8).symm.trans h
  by_cases c1_9 : a0 = 24
  · replace h := (if_pos c1_9).symm.trans h
    refine Go.tin (tgt := 288) (off := 287) hx hb 24 c1_9 d_Ref_goes_1 (by decide) (by decide) rfl rfl ?_
    refine Go.aload_n hx hb 0 rfl d_Ref_goes_288 ?_
    refine Go.aload_n hx hb 0 rfl d_Ref_goes_289 ?_
    refine Go.get (v := .int (gI st 5)) hx hb hts in_Ref hown hK 0 (Rw_0 ad ca _) rfl 13 (by decide) (hts _ k_628) (fun _ h9 => h9) rfl d_Ref_goes_290 ?_
    refine Go.if_le (tgt := 315) hx hb d_Ref_goes_293 rfl (fun c293 => ?_) (fun c293 => ?_)
    · replace h := (if_pos c293).symm.trans h
      refine Go.iconst (v := 0) hx hb (by decide) d_Ref_goes_315 ?_
      refine Go.bipush (v := 7) hx hb (by decide) d_Ref_goes_316 ?_
      obtain ⟨r22, s22, q22, h⟩ := gb_some h
      refine Go.callVi S hK hA 0 (Rw_0 ad ca _) rfl (fun sz9 => m_Ref_needs l D ad ca N _ sz9 _ _ r22 s22 q22) (cwV 2 hts (gwV k_747 k_749 k_40 k_67 k_750) rfl rfl rfl (by decide +kernel) ⟨Nat.le_of_ble_eq_true rfl, Nat.le_of_ble_eq_true rfl⟩) rfl rfl (Nat.le_of_ble_eq_true rfl) ⟨Nat.zero_le _, Nat.zero_le _⟩ d_Ref_goes_318 ?_
      refine Go.if_eq (tgt := 334) hx hb d_Ref_goes_321 rfl (fun c321 => ?_) (fun c321 => ?_)
      · replace h := (if_pos c321).symm.trans h
        refine Go.iconst (v := 0) hx hb (by decide) d_Ref_goes_334 ?_
        exact Go.zret hx hb hr hK hlk rfl h d_Ref_goes_335
      · replace h := (if_neg c321).symm.trans h
        refine Go.aload_n hx hb 0 rfl d_Ref_goes_324 ?_
        refine Go.dup hx hb rfl d_Ref_goes_325 ?_
        refine Go.get (v := .int (gI s22 5)) hx hb hts in_Ref hown hK 0 (Rw_0 ad ca _) rfl 13 (by decide) (hts _ k_628) (fun _ h9 => h9) rfl d_Ref_goes_326 ?_
        refine Go.iconst (v := 1) hx hb (by decide) d_Ref_goes_329 ?_
        refine Go.isub hx hb d_Ref_goes_330 ?_
        refine Go.put (ty := (.int)) hx hb hts in_Ref ty_Ref tyok_Ref nm_Ref hown hK 0 (Rw_0 ad ca _) rfl 13 (by decide) (hts _ k_628) (fun _ h9 => h9) rfl (by decide +kernel) rfl rfl (Nat.le_of_ble_eq_true rfl) (uI s22 5 ((gI s22 5) - 1)) (Rs_I5 ad ca _ _) d_Ref_goes_331 ?_
        refine Go.iconst (v := 0) hx hb (by decide) d_Ref_goes_334 ?_
        exact Go.zret hx hb hr hK hlk rfl h d_Ref_goes_335
    · replace h := (if_neg c293).symm.trans h
      refine Go.aload_n hx hb 0 rfl d_Ref_goes_296 ?_
      refine Go.get (v := .ref (ad 8)) hx hb hts in_Ref hown hK 0 (Rw_0 ad ca _) rfl 12 (by decide) (hts _ k_627) (fun _ h9 => h9) rfl d_Ref_goes_297 ?_
      refine Go.aload_n hx hb 0 rfl d_Ref_goes_300 ?_
      refine Go.get (v := .int (gI st 5)) hx hb hts in_Ref hown hK 0 (Rw_0 ad ca _) rfl 13 (by decide) (hts _ k_628) (fun _ h9 => h9) rfl d_Ref_goes_301 ?_
      refine Go.iconst (v := 1) hx hb (by decide) d_Ref_goes_304 ?_
      refine Go.isub hx hb d_Ref_goes_305 ?_
      obtain ⟨c306, h⟩ := gg_some h
      refine Go.iald (v := gA st 7 ((gI st 5) - 1).toNatClampNeg) hx hb hK 8 7 (Rw_8 ad ca _) rfl c306 rfl d_Ref_goes_306 ?_
      refine Go.iconst (v := (-1)) hx hb (by decide) d_Ref_goes_307 ?_
      refine Go.icmp_eq (tgt := 315) hx hb d_Ref_goes_308 rfl (fun c308 => ?_) (fun c308 => ?_)
      · replace h := (if_pos c308).symm.trans h
        refine Go.iconst (v := 0) hx hb (by decide) d_Ref_goes_315 ?_
        refine Go.bipush (v := 7) hx hb (by decide) d_Ref_goes_316 ?_
        obtain ⟨r23, s23, q23, h⟩ := gb_some h
        refine Go.callVi S hK hA 0 (Rw_0 ad ca _) rfl (fun sz9 => m_Ref_needs l D ad ca N _ sz9 _ _ r23 s23 q23) (cwV 2 hts (gwV k_747 k_749 k_40 k_67 k_750) rfl rfl rfl (by decide +kernel) ⟨Nat.le_of_ble_eq_true rfl, Nat.le_of_ble_eq_true rfl⟩) rfl rfl (Nat.le_of_ble_eq_true rfl) ⟨Nat.zero_le _, Nat.zero_le _⟩ d_Ref_goes_318 ?_
        refine Go.if_eq (tgt := 334) hx hb d_Ref_goes_321 rfl (fun c321 => ?_) (fun c321 => ?_)
        · replace h := (if_pos c321).symm.trans h
          refine Go.iconst (v := 0) hx hb (by decide) d_Ref_goes_334 ?_
          exact Go.zret hx hb hr hK hlk rfl h d_Ref_goes_335
        · replace h := (if_neg c321).symm.trans h
          refine Go.aload_n hx hb 0 rfl d_Ref_goes_324 ?_
          refine Go.dup hx hb rfl d_Ref_goes_325 ?_
          refine Go.get (v := .int (gI s23 5)) hx hb hts in_Ref hown hK 0 (Rw_0 ad ca _) rfl 13 (by decide) (hts _ k_628) (fun _ h9 => h9) rfl d_Ref_goes_326 ?_
          refine Go.iconst (v := 1) hx hb (by decide) d_Ref_goes_329 ?_
          refine Go.isub hx hb d_Ref_goes_330 ?_
          refine Go.put (ty := (.int)) hx hb hts in_Ref ty_Ref tyok_Ref nm_Ref hown hK 0 (Rw_0 ad ca _) rfl 13 (by decide) (hts _ k_628) (fun _ h9 => h9) rfl (by decide +kernel) rfl rfl (Nat.le_of_ble_eq_true rfl) (uI s23 5 ((gI s23 5) - 1)) (Rs_I5 ad ca _ _) d_Ref_goes_331 ?_
          refine Go.iconst (v := 0) hx hb (by decide) d_Ref_goes_334 ?_
          exact Go.zret hx hb hr hK hlk rfl h d_Ref_goes_335
      · replace h := (if_neg c308).symm.trans h
        refine Go.iconst (v := 1) hx hb (by decide) d_Ref_goes_311 ?_
        refine Go.goto (tgt := 316) hx hb d_Ref_goes_312 rfl ?_
        refine Go.bipush (v := 7) hx hb (by decide) d_Ref_goes_316 ?_
        obtain ⟨r24, s24, q24, h⟩ := gb_some h
        refine Go.callVi S hK hA 0 (Rw_0 ad ca _) rfl (fun sz9 => m_Ref_needs l D ad ca N _ sz9 _ _ r24 s24 q24) (cwV 2 hts (gwV k_747 k_749 k_40 k_67 k_750) rfl rfl rfl (by decide +kernel) ⟨Nat.le_of_ble_eq_true rfl, Nat.le_of_ble_eq_true rfl⟩) rfl rfl (Nat.le_of_ble_eq_true rfl) ⟨Nat.zero_le _, Nat.zero_le _⟩ d_Ref_goes_318 ?_
        refine Go.if_eq (tgt := 334) hx hb d_Ref_goes_321 rfl (fun c321 => ?_) (fun c321 => ?_)
        · replace h := (if_pos c321).symm.trans h
          refine Go.iconst (v := 0) hx hb (by decide) d_Ref_goes_334 ?_
          exact Go.zret hx hb hr hK hlk rfl h d_Ref_goes_335
        · replace h := (if_neg c321).symm.trans h
          refine Go.aload_n hx hb 0 rfl d_Ref_goes_324 ?_
          refine Go.dup hx hb rfl d_Ref_goes_325 ?_
          refine Go.get (v := .int (gI s24 5)) hx hb hts in_Ref hown hK 0 (Rw_0 ad ca _) rfl 13 (by decide) (hts _ k_628) (fun _ h9 => h9) rfl d_Ref_goes_326 ?_
          refine Go.iconst (v := 1) hx hb (by decide) d_Ref_goes_329 ?_
          refine Go.isub hx hb d_Ref_goes_330 ?_
          refine Go.put (ty := (.int)) hx hb hts in_Ref ty_Ref tyok_Ref nm_Ref hown hK 0 (Rw_0 ad ca _) rfl 13 (by decide) (hts _ k_628) (fun _ h9 => h9) rfl (by decide +kernel) rfl rfl (Nat.le_of_ble_eq_true rfl) (uI s24 5 ((gI s24 5) - 1)) (Rs_I5 ad ca _ _) d_Ref_goes_331 ?_
          refine Go.iconst (v := 0) hx hb (by decide) d_Ref_goes_334 ?_
          exact Go.zret hx hb hr hK hlk rfl h d_Ref_goes_335
  replace h := (if_neg c1_9).symm.trans h
  by_cases c1_10 : a0 = 25
  · replace h := (if_pos c1_10).symm.trans h
    refine Go.tin (tgt := 288) (off := 287) hx hb 25 c1_10 d_Ref_goes_1 (by decide) (by decide) rfl rfl ?_
    refine Go.aload_n hx hb 0 rfl d_Ref_goes_288 ?_
    refine Go.aload_n hx hb 0 rfl d_Ref_goes_289 ?_
    refine Go.get (v := .int (gI st 5)) hx hb hts in_Ref hown hK 0 (Rw_0 ad ca _) rfl 13 (by decide) (hts _ k_628) (fun _ h9 => h9) rfl d_Ref_goes_290 ?_
    refine Go.if_le (tgt := 315) hx hb d_Ref_goes_293 rfl (fun c293 => ?_) (fun c293 => ?_)
    · replace h := (if_pos c293).symm.trans h
      refine Go.iconst (v := 0) hx hb (by decide) d_Ref_goes_315 ?_
      refine Go.bipush (v := 7) hx hb (by decide) d_Ref_goes_316 ?_
      obtain ⟨r25, s25, q25, h⟩ := gb_some h
      refine Go.callVi S hK hA 0 (Rw_0 ad ca _) rfl (fun sz9 => m_Ref_needs l D ad ca N _ sz9 _ _ r25 s25 q25) (cwV 2 hts (gwV k_747 k_749 k_40 k_67 k_750) rfl rfl rfl (by decide +kernel) ⟨Nat.le_of_ble_eq_true rfl, Nat.le_of_ble_eq_true rfl⟩) rfl rfl (Nat.le_of_ble_eq_true rfl) ⟨Nat.zero_le _, Nat.zero_le _⟩ d_Ref_goes_318 ?_
      refine Go.if_eq (tgt := 334) hx hb d_Ref_goes_321 rfl (fun c321 => ?_) (fun c321 => ?_)
      · replace h := (if_pos c321).symm.trans h
        refine Go.iconst (v := 0) hx hb (by decide) d_Ref_goes_334 ?_
        exact Go.zret hx hb hr hK hlk rfl h d_Ref_goes_335
      · replace h := (if_neg c321).symm.trans h
        refine Go.aload_n hx hb 0 rfl d_Ref_goes_324 ?_
        refine Go.dup hx hb rfl d_Ref_goes_325 ?_
        refine Go.get (v := .int (gI s25 5)) hx hb hts in_Ref hown hK 0 (Rw_0 ad ca _) rfl 13 (by decide) (hts _ k_628) (fun _ h9 => h9) rfl d_Ref_goes_326 ?_
        refine Go.iconst (v := 1) hx hb (by decide) d_Ref_goes_329 ?_
        refine Go.isub hx hb d_Ref_goes_330 ?_
        refine Go.put (ty := (.int)) hx hb hts in_Ref ty_Ref tyok_Ref nm_Ref hown hK 0 (Rw_0 ad ca _) rfl 13 (by decide) (hts _ k_628) (fun _ h9 => h9) rfl (by decide +kernel) rfl rfl (Nat.le_of_ble_eq_true rfl) (uI s25 5 ((gI s25 5) - 1)) (Rs_I5 ad ca _ _) d_Ref_goes_331 ?_
        refine Go.iconst (v := 0) hx hb (by decide) d_Ref_goes_334 ?_
        exact Go.zret hx hb hr hK hlk rfl h d_Ref_goes_335
    · replace h := (if_neg c293).symm.trans h
      refine Go.aload_n hx hb 0 rfl d_Ref_goes_296 ?_
      refine Go.get (v := .ref (ad 8)) hx hb hts in_Ref hown hK 0 (Rw_0 ad ca _) rfl 12 (by decide) (hts _ k_627) (fun _ h9 => h9) rfl d_Ref_goes_297 ?_
      refine Go.aload_n hx hb 0 rfl d_Ref_goes_300 ?_
      refine Go.get (v := .int (gI st 5)) hx hb hts in_Ref hown hK 0 (Rw_0 ad ca _) rfl 13 (by decide) (hts _ k_628) (fun _ h9 => h9) rfl d_Ref_goes_301 ?_
      refine Go.iconst (v := 1) hx hb (by decide) d_Ref_goes_304 ?_
      refine Go.isub hx hb d_Ref_goes_305 ?_
      obtain ⟨c306, h⟩ := gg_some h
      refine Go.iald (v := gA st 7 ((gI st 5) - 1).toNatClampNeg) hx hb hK 8 7 (Rw_8 ad ca _) rfl c306 rfl d_Ref_goes_306 ?_
      refine Go.iconst (v := (-1)) hx hb (by decide) d_Ref_goes_307 ?_
      refine Go.icmp_eq (tgt := 315) hx hb d_Ref_goes_308 rfl (fun c308 => ?_) (fun c308 => ?_)
      · replace h := (if_pos c308).symm.trans h
        refine Go.iconst (v := 0) hx hb (by decide) d_Ref_goes_315 ?_
        refine Go.bipush (v := 7) hx hb (by decide) d_Ref_goes_316 ?_
        obtain ⟨r26, s26, q26, h⟩ := gb_some h
        refine Go.callVi S hK hA 0 (Rw_0 ad ca _) rfl (fun sz9 => m_Ref_needs l D ad ca N _ sz9 _ _ r26 s26 q26) (cwV 2 hts (gwV k_747 k_749 k_40 k_67 k_750) rfl rfl rfl (by decide +kernel) ⟨Nat.le_of_ble_eq_true rfl, Nat.le_of_ble_eq_true rfl⟩) rfl rfl (Nat.le_of_ble_eq_true rfl) ⟨Nat.zero_le _, Nat.zero_le _⟩ d_Ref_goes_318 ?_
        refine Go.if_eq (tgt := 334) hx hb d_Ref_goes_321 rfl (fun c321 => ?_) (fun c321 => ?_)
        · replace h := (if_pos c321).symm.trans h
          refine Go.iconst (v := 0) hx hb (by decide) d_Ref_goes_334 ?_
          exact Go.zret hx hb hr hK hlk rfl h d_Ref_goes_335
        · replace h := (if_neg c321).symm.trans h
          refine Go.aload_n hx hb 0 rfl d_Ref_goes_324 ?_
          refine Go.dup hx hb rfl d_Ref_goes_325 ?_
          refine Go.get (v := .int (gI s26 5)) hx hb hts in_Ref hown hK 0 (Rw_0 ad ca _) rfl 13 (by decide) (hts _ k_628) (fun _ h9 => h9) rfl d_Ref_goes_326 ?_
          refine Go.iconst (v := 1) hx hb (by decide) d_Ref_goes_329 ?_
          refine Go.isub hx hb d_Ref_goes_330 ?_
          refine Go.put (ty := (.int)) hx hb hts in_Ref ty_Ref tyok_Ref nm_Ref hown hK 0 (Rw_0 ad ca _) rfl 13 (by decide) (hts _ k_628) (fun _ h9 => h9) rfl (by decide +kernel) rfl rfl (Nat.le_of_ble_eq_true rfl) (uI s26 5 ((gI s26 5) - 1)) (Rs_I5 ad ca _ _) d_Ref_goes_331 ?_
          refine Go.iconst (v := 0) hx hb (by decide) d_Ref_goes_334 ?_
          exact Go.zret hx hb hr hK hlk rfl h d_Ref_goes_335
      · replace h := (if_neg c308).symm.trans h
        refine Go.iconst (v := 1) hx hb (by decide) d_Ref_goes_311 ?_
        refine Go.goto (tgt := 316) hx hb d_Ref_goes_312 rfl ?_
        refine Go.bipush (v := 7) hx hb (by decide) d_Ref_goes_316 ?_
        obtain ⟨r27, s27, q27, h⟩ := gb_some h
        refine Go.callVi S hK hA 0 (Rw_0 ad ca _) rfl (fun sz9 => m_Ref_needs l D ad ca N _ sz9 _ _ r27 s27 q27) (cwV 2 hts (gwV k_747 k_749 k_40 k_67 k_750) rfl rfl rfl (by decide +kernel) ⟨Nat.le_of_ble_eq_true rfl, Nat.le_of_ble_eq_true rfl⟩) rfl rfl (Nat.le_of_ble_eq_true rfl) ⟨Nat.zero_le _, Nat.zero_le _⟩ d_Ref_goes_318 ?_
        refine Go.if_eq (tgt := 334) hx hb d_Ref_goes_321 rfl (fun c321 => ?_) (fun c321 => ?_)
        · replace h := (if_pos c321).symm.trans h
          refine Go.iconst (v := 0) hx hb (by decide) d_Ref_goes_334 ?_
          exact Go.zret hx hb hr hK hlk rfl h d_Ref_goes_335
        · replace h := (if_neg c321).symm.trans h
          refine Go.aload_n hx hb 0 rfl d_Ref_goes_324 ?_
          refine Go.dup hx hb rfl d_Ref_goes_325 ?_
          refine Go.get (v := .int (gI s27 5)) hx hb hts in_Ref hown hK 0 (Rw_0 ad ca _) rfl 13 (by decide) (hts _ k_628) (fun _ h9 => h9) rfl d_Ref_goes_326 ?_
          refine Go.iconst (v := 1) hx hb (by decide) d_Ref_goes_329 ?_
          refine Go.isub hx hb d_Ref_goes_330 ?_
          refine Go.put (ty := (.int)) hx hb hts in_Ref ty_Ref tyok_Ref nm_Ref hown hK 0 (Rw_0 ad ca _) rfl 13 (by decide) (hts _ k_628) (fun _ h9 => h9) rfl (by decide +kernel) rfl rfl (Nat.le_of_ble_eq_true rfl) (uI s27 5 ((gI s27 5) - 1)) (Rs_I5 ad ca _ _) d_Ref_goes_331 ?_
          refine Go.iconst (v := 0) hx hb (by decide) d_Ref_goes_334 ?_
          exact Go.zret hx hb hr hK hlk rfl h d_Ref_goes_335
  replace h := (if_neg c1_10).symm.trans h
  by_cases c1_11 : a0 = 26
  · replace h := (if_pos c1_11).symm.trans h
    refine Go.tin (tgt := 288) (off := 287) hx hb 26 c1_11 d_Ref_goes_1 (by decide) (by decide) rfl rfl ?_
    refine Go.aload_n hx hb 0 rfl d_Ref_goes_288 ?_
    refine Go.aload_n hx hb 0 rfl d_Ref_goes_289 ?_
    refine Go.get (v := .int (gI st 5)) hx hb hts in_Ref hown hK 0 (Rw_0 ad ca _) rfl 13 (by decide) (hts _ k_628) (fun _ h9 => h9) rfl d_Ref_goes_290 ?_
    refine Go.if_le (tgt := 315) hx hb d_Ref_goes_293 rfl (fun c293 => ?_) (fun c293 => ?_)
    · replace h := (if_pos c293).symm.trans h
      refine Go.iconst (v := 0) hx hb (by decide) d_Ref_goes_315 ?_
      refine Go.bipush (v := 7) hx hb (by decide) d_Ref_goes_316 ?_
      obtain ⟨r28, s28, q28, h⟩ := gb_some h
      refine Go.callVi S hK hA 0 (Rw_0 ad ca _) rfl (fun sz9 => m_Ref_needs l D ad ca N _ sz9 _ _ r28 s28 q28) (cwV 2 hts (gwV k_747 k_749 k_40 k_67 k_750) rfl rfl rfl (by decide +kernel) ⟨Nat.le_of_ble_eq_true rfl, Nat.le_of_ble_eq_true rfl⟩) rfl rfl (Nat.le_of_ble_eq_true rfl) ⟨Nat.zero_le _, Nat.zero_le _⟩ d_Ref_goes_318 ?_
      refine Go.if_eq (tgt := 334) hx hb d_Ref_goes_321 rfl (fun c321 => ?_) (fun c321 => ?_)
      · replace h := (if_pos c321).symm.trans h
        refine Go.iconst (v := 0) hx hb (by decide) d_Ref_goes_334 ?_
        exact Go.zret hx hb hr hK hlk rfl h d_Ref_goes_335
      · replace h := (if_neg c321).symm.trans h
        refine Go.aload_n hx hb 0 rfl d_Ref_goes_324 ?_
        refine Go.dup hx hb rfl d_Ref_goes_325 ?_
        refine Go.get (v := .int (gI s28 5)) hx hb hts in_Ref hown hK 0 (Rw_0 ad ca _) rfl 13 (by decide) (hts _ k_628) (fun _ h9 => h9) rfl d_Ref_goes_326 ?_
        refine Go.iconst (v := 1) hx hb (by decide) d_Ref_goes_329 ?_
        refine Go.isub hx hb d_Ref_goes_330 ?_
        refine Go.put (ty := (.int)) hx hb hts in_Ref ty_Ref tyok_Ref nm_Ref hown hK 0 (Rw_0 ad ca _) rfl 13 (by decide) (hts _ k_628) (fun _ h9 => h9) rfl (by decide +kernel) rfl rfl (Nat.le_of_ble_eq_true rfl) (uI s28 5 ((gI s28 5) - 1)) (Rs_I5 ad ca _ _) d_Ref_goes_331 ?_
        refine Go.iconst (v := 0) hx hb (by decide) d_Ref_goes_334 ?_
        exact Go.zret hx hb hr hK hlk rfl h d_Ref_goes_335
    · replace h := (if_neg c293).symm.trans h
      refine Go.aload_n hx hb 0 rfl d_Ref_goes_296 ?_
      refine Go.get (v := .ref (ad 8)) hx hb hts in_Ref hown hK 0 (Rw_0 ad ca _) rfl 12 (by decide) (hts _ k_627) (fun _ h9 => h9) rfl d_Ref_goes_297 ?_
      refine Go.aload_n hx hb 0 rfl d_Ref_goes_300 ?_
      refine Go.get (v := .int (gI st 5)) hx hb hts in_Ref hown hK 0 (Rw_0 ad ca _) rfl 13 (by decide) (hts _ k_628) (fun _ h9 => h9) rfl d_Ref_goes_301 ?_
      refine Go.iconst (v := 1) hx hb (by decide) d_Ref_goes_304 ?_
      refine Go.isub hx hb d_Ref_goes_305 ?_
      obtain ⟨c306, h⟩ := gg_some h
      refine Go.iald (v := gA st 7 ((gI st 5) - 1).toNatClampNeg) hx hb hK 8 7 (Rw_8 ad ca _) rfl c306 rfl d_Ref_goes_306 ?_
      refine Go.iconst (v := (-1)) hx hb (by decide) d_Ref_goes_307 ?_
      refine Go.icmp_eq (tgt := 315) hx hb d_Ref_goes_308 rfl (fun c308 => ?_) (fun c308 => ?_)
      · replace h := (if_pos c308).symm.trans h
        refine Go.iconst (v := 0) hx hb (by decide) d_Ref_goes_315 ?_
        refine Go.bipush (v := 7) hx hb (by decide) d_Ref_goes_316 ?_
        obtain ⟨r29, s29, q29, h⟩ := gb_some h
        refine Go.callVi S hK hA 0 (Rw_0 ad ca _) rfl (fun sz9 => m_Ref_needs l D ad ca N _ sz9 _ _ r29 s29 q29) (cwV 2 hts (gwV k_747 k_749 k_40 k_67 k_750) rfl rfl rfl (by decide +kernel) ⟨Nat.le_of_ble_eq_true rfl, Nat.le_of_ble_eq_true rfl⟩) rfl rfl (Nat.le_of_ble_eq_true rfl) ⟨Nat.zero_le _, Nat.zero_le _⟩ d_Ref_goes_318 ?_
        refine Go.if_eq (tgt := 334) hx hb d_Ref_goes_321 rfl (fun c321 => ?_) (fun c321 => ?_)
        · replace h := (if_pos c321).symm.trans h
          refine Go.iconst (v := 0) hx hb (by decide) d_Ref_goes_334 ?_
          exact Go.zret hx hb hr hK hlk rfl h d_Ref_goes_335
        · replace h := (if_neg c321).symm.trans h
          refine Go.aload_n hx hb 0 rfl d_Ref_goes_324 ?_
          refine Go.dup hx hb rfl d_Ref_goes_325 ?_
          refine Go.get (v := .int (gI s29 5)) hx hb hts in_Ref hown hK 0 (Rw_0 ad ca _) rfl 13 (by decide) (hts _ k_628) (fun _ h9 => h9) rfl d_Ref_goes_326 ?_
          refine Go.iconst (v := 1) hx hb (by decide) d_Ref_goes_329 ?_
          refine Go.isub hx hb d_Ref_goes_330 ?_
          refine Go.put (ty := (.int)) hx hb hts in_Ref ty_Ref tyok_Ref nm_Ref hown hK 0 (Rw_0 ad ca _) rfl 13 (by decide) (hts _ k_628) (fun _ h9 => h9) rfl (by decide +kernel) rfl rfl (Nat.le_of_ble_eq_true rfl) (uI s29 5 ((gI s29 5) - 1)) (Rs_I5 ad ca _ _) d_Ref_goes_331 ?_
          refine Go.iconst (v := 0) hx hb (by decide) d_Ref_goes_334 ?_
          exact Go.zret hx hb hr hK hlk rfl h d_Ref_goes_335
      · replace h := (if_neg c308).symm.trans h
        refine Go.iconst (v := 1) hx hb (by decide) d_Ref_goes_311 ?_
        refine Go.goto (tgt := 316) hx hb d_Ref_goes_312 rfl ?_
        refine Go.bipush (v := 7) hx hb (by decide) d_Ref_goes_316 ?_
        obtain ⟨r30, s30, q30, h⟩ := gb_some h
        refine Go.callVi S hK hA 0 (Rw_0 ad ca _) rfl (fun sz9 => m_Ref_needs l D ad ca N _ sz9 _ _ r30 s30 q30) (cwV 2 hts (gwV k_747 k_749 k_40 k_67 k_750) rfl rfl rfl (by decide +kernel) ⟨Nat.le_of_ble_eq_true rfl, Nat.le_of_ble_eq_true rfl⟩) rfl rfl (Nat.le_of_ble_eq_true rfl) ⟨Nat.zero_le _, Nat.zero_le _⟩ d_Ref_goes_318 ?_
        refine Go.if_eq (tgt := 334) hx hb d_Ref_goes_321 rfl (fun c321 => ?_) (fun c321 => ?_)
        · replace h := (if_pos c321).symm.trans h
          refine Go.iconst (v := 0) hx hb (by decide) d_Ref_goes_334 ?_
          exact Go.zret hx hb hr hK hlk rfl h d_Ref_goes_335
        · replace h := (if_neg c321).symm.trans h
          refine Go.aload_n hx hb 0 rfl d_Ref_goes_324 ?_
          refine Go.dup hx hb rfl d_Ref_goes_325 ?_
          refine Go.get (v := .int (gI s30 5)) hx hb hts in_Ref hown hK 0 (Rw_0 ad ca _) rfl 13 (by decide) (hts _ k_628) (fun _ h9 => h9) rfl d_Ref_goes_326 ?_
          refine Go.iconst (v := 1) hx hb (by decide) d_Ref_goes_329 ?_
          refine Go.isub hx hb d_Ref_goes_330 ?_
          refine Go.put (ty := (.int)) hx hb hts in_Ref ty_Ref tyok_Ref nm_Ref hown hK 0 (Rw_0 ad ca _) rfl 13 (by decide) (hts _ k_628) (fun _ h9 => h9) rfl (by decide +kernel) rfl rfl (Nat.le_of_ble_eq_true rfl) (uI s30 5 ((gI s30 5) - 1)) (Rs_I5 ad ca _ _) d_Ref_goes_331 ?_
          refine Go.iconst (v := 0) hx hb (by decide) d_Ref_goes_334 ?_
          exact Go.zret hx hb hr hK hlk rfl h d_Ref_goes_335
  replace h := (if_neg c1_11).symm.trans h
  by_cases c1_12 : a0 = 27
  · replace h := (if_pos c1_12).symm.trans h
    refine Go.tin (tgt := 288) (off := 287) hx hb 27 c1_12 d_Ref_goes_1 (by decide) (by decide) rfl rfl ?_
    refine Go.aload_n hx hb 0 rfl d_Ref_goes_288 ?_
    refine Go.aload_n hx hb 0 rfl d_Ref_goes_289 ?_
    refine Go.get (v := .int (gI st 5)) hx hb hts in_Ref hown hK 0 (Rw_0 ad ca _) rfl 13 (by decide) (hts _ k_628) (fun _ h9 => h9) rfl d_Ref_goes_290 ?_
    refine Go.if_le (tgt := 315) hx hb d_Ref_goes_293 rfl (fun c293 => ?_) (fun c293 => ?_)
    · replace h := (if_pos c293).symm.trans h
      refine Go.iconst (v := 0) hx hb (by decide) d_Ref_goes_315 ?_
      refine Go.bipush (v := 7) hx hb (by decide) d_Ref_goes_316 ?_
      obtain ⟨r31, s31, q31, h⟩ := gb_some h
      refine Go.callVi S hK hA 0 (Rw_0 ad ca _) rfl (fun sz9 => m_Ref_needs l D ad ca N _ sz9 _ _ r31 s31 q31) (cwV 2 hts (gwV k_747 k_749 k_40 k_67 k_750) rfl rfl rfl (by decide +kernel) ⟨Nat.le_of_ble_eq_true rfl, Nat.le_of_ble_eq_true rfl⟩) rfl rfl (Nat.le_of_ble_eq_true rfl) ⟨Nat.zero_le _, Nat.zero_le _⟩ d_Ref_goes_318 ?_
      refine Go.if_eq (tgt := 334) hx hb d_Ref_goes_321 rfl (fun c321 => ?_) (fun c321 => ?_)
      · replace h := (if_pos c321).symm.trans h
        refine Go.iconst (v := 0) hx hb (by decide) d_Ref_goes_334 ?_
        exact Go.zret hx hb hr hK hlk rfl h d_Ref_goes_335
      · replace h := (if_neg c321).symm.trans h
        refine Go.aload_n hx hb 0 rfl d_Ref_goes_324 ?_
        refine Go.dup hx hb rfl d_Ref_goes_325 ?_
        refine Go.get (v := .int (gI s31 5)) hx hb hts in_Ref hown hK 0 (Rw_0 ad ca _) rfl 13 (by decide) (hts _ k_628) (fun _ h9 => h9) rfl d_Ref_goes_326 ?_
        refine Go.iconst (v := 1) hx hb (by decide) d_Ref_goes_329 ?_
        refine Go.isub hx hb d_Ref_goes_330 ?_
        refine Go.put (ty := (.int)) hx hb hts in_Ref ty_Ref tyok_Ref nm_Ref hown hK 0 (Rw_0 ad ca _) rfl 13 (by decide) (hts _ k_628) (fun _ h9 => h9) rfl (by decide +kernel) rfl rfl (Nat.le_of_ble_eq_true rfl) (uI s31 5 ((gI s31 5) - 1)) (Rs_I5 ad ca _ _) d_Ref_goes_331 ?_
        refine Go.iconst (v := 0) hx hb (by decide) d_Ref_goes_334 ?_
        exact Go.zret hx hb hr hK hlk rfl h d_Ref_goes_335
    · replace h := (if_neg c293).symm.trans h
      refine Go.aload_n hx hb 0 rfl d_Ref_goes_296 ?_
      refine Go.get (v := .ref (ad 8)) hx hb hts in_Ref hown hK 0 (Rw_0 ad ca _) rfl 12 (by decide) (hts _ k_627) (fun _ h9 => h9) rfl d_Ref_goes_297 ?_
      refine Go.aload_n hx hb 0 rfl d_Ref_goes_300 ?_
      refine Go.get (v := .int (gI st 5)) hx hb hts in_Ref hown hK 0 (Rw_0 ad ca _) rfl 13 (by decide) (hts _ k_628) (fun _ h9 => h9) rfl d_Ref_goes_301 ?_
      refine Go.iconst (v := 1) hx hb (by decide) d_Ref_goes_304 ?_
      refine Go.isub hx hb d_Ref_goes_305 ?_
      obtain ⟨c306, h⟩ := gg_some h
      refine Go.iald (v := gA st 7 ((gI st 5) - 1).toNatClampNeg) hx hb hK 8 7 (Rw_8 ad ca _) rfl c306 rfl d_Ref_goes_306 ?_
      refine Go.iconst (v := (-1)) hx hb (by decide) d_Ref_goes_307 ?_
      refine Go.icmp_eq (tgt := 315) hx hb d_Ref_goes_308 rfl (fun c308 => ?_) (fun c308 => ?_)
      · replace h := (if_pos c308).symm.trans h
        refine Go.iconst (v := 0) hx hb (by decide) d_Ref_goes_315 ?_
        refine Go.bipush (v := 7) hx hb (by decide) d_Ref_goes_316 ?_
        obtain ⟨r32, s32, q32, h⟩ := gb_some h
        refine Go.callVi S hK hA 0 (Rw_0 ad ca _) rfl (fun sz9 => m_Ref_needs l D ad ca N _ sz9 _ _ r32 s32 q32) (cwV 2 hts (gwV k_747 k_749 k_40 k_67 k_750) rfl rfl rfl (by decide +kernel) ⟨Nat.le_of_ble_eq_true rfl, Nat.le_of_ble_eq_true rfl⟩) rfl rfl (Nat.le_of_ble_eq_true rfl) ⟨Nat.zero_le _, Nat.zero_le _⟩ d_Ref_goes_318 ?_
        refine Go.if_eq (tgt := 334) hx hb d_Ref_goes_321 rfl (fun c321 => ?_) (fun c321 => ?_)
        · replace h := (if_pos c321).symm.trans h
          refine Go.iconst (v := 0) hx hb (by decide) d_Ref_goes_334 ?_
          exact Go.zret hx hb hr hK hlk rfl h d_Ref_goes_335
        · replace h := (if_neg c321).symm.trans h
          refine Go.aload_n hx hb 0 rfl d_Ref_goes_324 ?_
          refine Go.dup hx hb rfl d_Ref_goes_325 ?_
          refine Go.get (v := .int (gI s32 5)) hx hb hts in_Ref hown hK 0 (Rw_0 ad ca _) rfl 13 (by decide) (hts _ k_628) (fun _ h9 => h9) rfl d_Ref_goes_326 ?_
          refine Go.iconst (v := 1) hx hb (by decide) d_Ref_goes_329 ?_
          refine Go.isub hx hb d_Ref_goes_330 ?_
          refine Go.put (ty := (.int)) hx hb hts in_Ref ty_Ref tyok_Ref nm_Ref hown hK 0 (Rw_0 ad ca _) rfl 13 (by decide) (hts _ k_628) (fun _ h9 => h9) rfl (by decide +kernel) rfl rfl (Nat.le_of_ble_eq_true rfl) (uI s32 5 ((gI s32 5) - 1)) (Rs_I5 ad ca _ _) d_Ref_goes_331 ?_
          refine Go.iconst (v := 0) hx hb (by decide) d_Ref_goes_334 ?_
          exact Go.zret hx hb hr hK hlk rfl h d_Ref_goes_335
      · replace h := (if_neg c308).symm.trans h
        refine Go.iconst (v := 1) hx hb (by decide) d_Ref_goes_311 ?_
        refine Go.goto (tgt := 316) hx hb d_Ref_goes_312 rfl ?_
        refine Go.bipush (v := 7) hx hb (by decide) d_Ref_goes_316 ?_
        obtain ⟨r33, s33, q33, h⟩ := gb_some h
        refine Go.callVi S hK hA 0 (Rw_0 ad ca _) rfl (fun sz9 => m_Ref_needs l D ad ca N _ sz9 _ _ r33 s33 q33) (cwV 2 hts (gwV k_747 k_749 k_40 k_67 k_750) rfl rfl rfl (by decide +kernel) ⟨Nat.le_of_ble_eq_true rfl, Nat.le_of_ble_eq_true rfl⟩) rfl rfl (Nat.le_of_ble_eq_true rfl) ⟨Nat.zero_le _, Nat.zero_le _⟩ d_Ref_goes_318 ?_
        refine Go.if_eq (tgt := 334) hx hb d_Ref_goes_321 rfl (fun c321 => ?_) (fun c321 => ?_)
        · replace h := (if_pos c321).symm.trans h
          refine Go.iconst (v := 0) hx hb (by decide) d_Ref_goes_334 ?_
          exact Go.zret hx hb hr hK hlk rfl h d_Ref_goes_335
        · replace h := (if_neg c321).symm.trans h
          refine Go.aload_n hx hb 0 rfl d_Ref_goes_324 ?_
          refine Go.dup hx hb rfl d_Ref_goes_325 ?_
          refine Go.get (v := .int (gI s33 5)) hx hb hts in_Ref hown hK 0 (Rw_0 ad ca _) rfl 13 (by decide) (hts _ k_628) (fun _ h9 => h9) rfl d_Ref_goes_326 ?_
          refine Go.iconst (v := 1) hx hb (by decide) d_Ref_goes_329 ?_
          refine Go.isub hx hb d_Ref_goes_330 ?_
          refine Go.put (ty := (.int)) hx hb hts in_Ref ty_Ref tyok_Ref nm_Ref hown hK 0 (Rw_0 ad ca _) rfl 13 (by decide) (hts _ k_628) (fun _ h9 => h9) rfl (by decide +kernel) rfl rfl (Nat.le_of_ble_eq_true rfl) (uI s33 5 ((gI s33 5) - 1)) (Rs_I5 ad ca _ _) d_Ref_goes_331 ?_
          refine Go.iconst (v := 0) hx hb (by decide) d_Ref_goes_334 ?_
          exact Go.zret hx hb hr hK hlk rfl h d_Ref_goes_335
  replace h := (if_neg c1_12).symm.trans h
  by_cases c1_13 : a0 = 28
  · replace h := (if_pos c1_13).symm.trans h
    refine Go.tin (tgt := 288) (off := 287) hx hb 28 c1_13 d_Ref_goes_1 (by decide) (by decide) rfl rfl ?_
    refine Go.aload_n hx hb 0 rfl d_Ref_goes_288 ?_
    refine Go.aload_n hx hb 0 rfl d_Ref_goes_289 ?_
    refine Go.get (v := .int (gI st 5)) hx hb hts in_Ref hown hK 0 (Rw_0 ad ca _) rfl 13 (by decide) (hts _ k_628) (fun _ h9 => h9) rfl d_Ref_goes_290 ?_
    refine Go.if_le (tgt := 315) hx hb d_Ref_goes_293 rfl (fun c293 => ?_) (fun c293 => ?_)
    · replace h := (if_pos c293).symm.trans h
      refine Go.iconst (v := 0) hx hb (by decide) d_Ref_goes_315 ?_
      refine Go.bipush (v := 7) hx hb (by decide) d_Ref_goes_316 ?_
      obtain ⟨r34, s34, q34, h⟩ := gb_some h
      refine Go.callVi S hK hA 0 (Rw_0 ad ca _) rfl (fun sz9 => m_Ref_needs l D ad ca N _ sz9 _ _ r34 s34 q34) (cwV 2 hts (gwV k_747 k_749 k_40 k_67 k_750) rfl rfl rfl (by decide +kernel) ⟨Nat.le_of_ble_eq_true rfl, Nat.le_of_ble_eq_true rfl⟩) rfl rfl (Nat.le_of_ble_eq_true rfl) ⟨Nat.zero_le _, Nat.zero_le _⟩ d_Ref_goes_318 ?_
      refine Go.if_eq (tgt := 334) hx hb d_Ref_goes_321 rfl (fun c321 => ?_) (fun c321 => ?_)
      · replace h := (if_pos c321).symm.trans h
        refine Go.iconst (v := 0) hx hb (by decide) d_Ref_goes_334 ?_
        exact Go.zret hx hb hr hK hlk rfl h d_Ref_goes_335
      · replace h := (if_neg c321).symm.trans h
        refine Go.aload_n hx hb 0 rfl d_Ref_goes_324 ?_
        refine Go.dup hx hb rfl d_Ref_goes_325 ?_
        refine Go.get (v := .int (gI s34 5)) hx hb hts in_Ref hown hK 0 (Rw_0 ad ca _) rfl 13 (by decide) (hts _ k_628) (fun _ h9 => h9) rfl d_Ref_goes_326 ?_
        refine Go.iconst (v := 1) hx hb (by decide) d_Ref_goes_329 ?_
        refine Go.isub hx hb d_Ref_goes_330 ?_
        refine Go.put (ty := (.int)) hx hb hts in_Ref ty_Ref tyok_Ref nm_Ref hown hK 0 (Rw_0 ad ca _) rfl 13 (by decide) (hts _ k_628) (fun _ h9 => h9) rfl (by decide +kernel) rfl rfl (Nat.le_of_ble_eq_true rfl) (uI s34 5 ((gI s34 5) - 1)) (Rs_I5 ad ca _ _) d_Ref_goes_331 ?_
        refine Go.iconst (v := 0) hx hb (by decide) d_Ref_goes_334 ?_
        exact Go.zret hx hb hr hK hlk rfl h d_Ref_goes_335
    · replace h := (if_neg c293).symm.trans h
      refine Go.aload_n hx hb 0 rfl d_Ref_goes_296 ?_
      refine Go.get (v := .ref (ad 8)) hx hb hts in_Ref hown hK 0 (Rw_0 ad ca _) rfl 12 (by decide) (hts _ k_627) (fun _ h9 => h9) rfl d_Ref_goes_297 ?_
      refine Go.aload_n hx hb 0 rfl d_Ref_goes_300 ?_
      refine Go.get (v := .int (gI st 5)) hx hb hts in_Ref hown hK 0 (Rw_0 ad ca _) rfl 13 (by decide) (hts _ k_628) (fun _ h9 => h9) rfl d_Ref_goes_301 ?_
      refine Go.iconst (v := 1) hx hb (by decide) d_Ref_goes_304 ?_
      refine Go.isub hx hb d_Ref_goes_305 ?_
      obtain ⟨c306, h⟩ := gg_some h
      refine Go.iald (v := gA st 7 ((gI st 5) - 1).toNatClampNeg) hx hb hK 8 7 (Rw_8 ad ca _) rfl c306 rfl d_Ref_goes_306 ?_
      refine Go.iconst (v := (-1)) hx hb (by decide) d_Ref_goes_307 ?_
      refine Go.icmp_eq (tgt := 315) hx hb d_Ref_goes_308 rfl (fun c308 => ?_) (fun c308 => ?_)
      · replace h := (if_pos c308).symm.trans h
        refine Go.iconst (v := 0) hx hb (by decide) d_Ref_goes_315 ?_
        refine Go.bipush (v := 7) hx hb (by decide) d_Ref_goes_316 ?_
        obtain ⟨r35, s35, q35, h⟩ := gb_some h
        refine Go.callVi S hK hA 0 (Rw_0 ad ca _) rfl (fun sz9 => m_Ref_needs l D ad ca N _ sz9 _ _ r35 s35 q35) (cwV 2 hts (gwV k_747 k_749 k_40 k_67 k_750) rfl rfl rfl (by decide +kernel) ⟨Nat.le_of_ble_eq_true rfl, Nat.le_of_ble_eq_true rfl⟩) rfl rfl (Nat.le_of_ble_eq_true rfl) ⟨Nat.zero_le _, Nat.zero_le _⟩ d_Ref_goes_318 ?_
        refine Go.if_eq (tgt := 334) hx hb d_Ref_goes_321 rfl (fun c321 => ?_) (fun c321 => ?_)
        · replace h := (if_pos c321).symm.trans h
          refine Go.iconst (v := 0) hx hb (by decide) d_Ref_goes_334 ?_
          exact Go.zret hx hb hr hK hlk rfl h d_Ref_goes_335
        · replace h := (if_neg c321).symm.trans h
          refine Go.aload_n hx hb 0 rfl d_Ref_goes_324 ?_
          refine Go.dup hx hb rfl d_Ref_goes_325 ?_
          refine Go.get (v := .int (gI s35 5)) hx hb hts in_Ref hown hK 0 (Rw_0 ad ca _) rfl 13 (by decide) (hts _ k_628) (fun _ h9 => h9) rfl d_Ref_goes_326 ?_
          refine Go.iconst (v := 1) hx hb (by decide) d_Ref_goes_329 ?_
          refine Go.isub hx hb d_Ref_goes_330 ?_
          refine Go.put (ty := (.int)) hx hb hts in_Ref ty_Ref tyok_Ref nm_Ref hown hK 0 (Rw_0 ad ca _) rfl 13 (by decide) (hts _ k_628) (fun _ h9 => h9) rfl (by decide +kernel) rfl rfl (Nat.le_of_ble_eq_true rfl) (uI s35 5 ((gI s35 5) - 1)) (Rs_I5 ad ca _ _) d_Ref_goes_331 ?_
          refine Go.iconst (v := 0) hx hb (by decide) d_Ref_goes_334 ?_
          exact Go.zret hx hb hr hK hlk rfl h d_Ref_goes_335
      · replace h := (if_neg c308).symm.trans h
        refine Go.iconst (v := 1) hx hb (by decide) d_Ref_goes_311 ?_
        refine Go.goto (tgt := 316) hx hb d_Ref_goes_312 rfl ?_
        refine Go.bipush (v := 7) hx hb (by decide) d_Ref_goes_316 ?_
        obtain ⟨r36, s36, q36, h⟩ := gb_some h
        refine Go.callVi S hK hA 0 (Rw_0 ad ca _) rfl (fun sz9 => m_Ref_needs l D ad ca N _ sz9 _ _ r36 s36 q36) (cwV 2 hts (gwV k_747 k_749 k_40 k_67 k_750) rfl rfl rfl (by decide +kernel) ⟨Nat.le_of_ble_eq_true rfl, Nat.le_of_ble_eq_true rfl⟩) rfl rfl (Nat.le_of_ble_eq_true rfl) ⟨Nat.zero_le _, Nat.zero_le _⟩ d_Ref_goes_318 ?_
        refine Go.if_eq (tgt := 334) hx hb d_Ref_goes_321 rfl (fun c321 => ?_) (fun c321 => ?_)
        · replace h := (if_pos c321).symm.trans h
          refine Go.iconst (v := 0) hx hb (by decide) d_Ref_goes_334 ?_
          exact Go.zret hx hb hr hK hlk rfl h d_Ref_goes_335
        · replace h := (if_neg c321).symm.trans h
          refine Go.aload_n hx hb 0 rfl d_Ref_goes_324 ?_
          refine Go.dup hx hb rfl d_Ref_goes_325 ?_
          refine Go.get (v := .int (gI s36 5)) hx hb hts in_Ref hown hK 0 (Rw_0 ad ca _) rfl 13 (by decide) (hts _ k_628) (fun _ h9 => h9) rfl d_Ref_goes_326 ?_
          refine Go.iconst (v := 1) hx hb (by decide) d_Ref_goes_329 ?_
          refine Go.isub hx hb d_Ref_goes_330 ?_
          refine Go.put (ty := (.int)) hx hb hts in_Ref ty_Ref tyok_Ref nm_Ref hown hK 0 (Rw_0 ad ca _) rfl 13 (by decide) (hts _ k_628) (fun _ h9 => h9) rfl (by decide +kernel) rfl rfl (Nat.le_of_ble_eq_true rfl) (uI s36 5 ((gI s36 5) - 1)) (Rs_I5 ad ca _ _) d_Ref_goes_331 ?_
          refine Go.iconst (v := 0) hx hb (by decide) d_Ref_goes_334 ?_
          exact Go.zret hx hb hr hK hlk rfl h d_Ref_goes_335
  replace h := (if_neg c1_13).symm.trans h
  by_cases c1_14 : a0 = 29
  · replace h := (if_pos c1_14).symm.trans h
    refine Go.tin (tgt := 288) (off := 287) hx hb 29 c1_14 d_Ref_goes_1 (by decide) (by decide) rfl rfl ?_
    refine Go.aload_n hx hb 0 rfl d_Ref_goes_288 ?_
    refine Go.aload_n hx hb 0 rfl d_Ref_goes_289 ?_
    refine Go.get (v := .int (gI st 5)) hx hb hts in_Ref hown hK 0 (Rw_0 ad ca _) rfl 13 (by decide) (hts _ k_628) (fun _ h9 => h9) rfl d_Ref_goes_290 ?_
    refine Go.if_le (tgt := 315) hx hb d_Ref_goes_293 rfl (fun c293 => ?_) (fun c293 => ?_)
    · replace h := (if_pos c293).symm.trans h
      refine Go.iconst (v := 0) hx hb (by decide) d_Ref_goes_315 ?_
      refine Go.bipush (v := 7) hx hb (by decide) d_Ref_goes_316 ?_
      obtain ⟨r37, s37, q37, h⟩ := gb_some h
      refine Go.callVi S hK hA 0 (Rw_0 ad ca _) rfl (fun sz9 => m_Ref_needs l D ad ca N _ sz9 _ _ r37 s37 q37) (cwV 2 hts (gwV k_747 k_749 k_40 k_67 k_750) rfl rfl rfl (by decide +kernel) ⟨Nat.le_of_ble_eq_true rfl, Nat.le_of_ble_eq_true rfl⟩) rfl rfl (Nat.le_of_ble_eq_true rfl) ⟨Nat.zero_le _, Nat.zero_le _⟩ d_Ref_goes_318 ?_
      refine Go.if_eq (tgt := 334) hx hb d_Ref_goes_321 rfl (fun c321 => ?_) (fun c321 => ?_)
      · replace h := (if_pos c321).symm.trans h
        refine Go.iconst (v := 0) hx hb (by decide) d_Ref_goes_334 ?_
        exact Go.zret hx hb hr hK hlk rfl h d_Ref_goes_335
      · replace h := (if_neg c321).symm.trans h
        refine Go.aload_n hx hb 0 rfl d_Ref_goes_324 ?_
        refine Go.dup hx hb rfl d_Ref_goes_325 ?_
        refine Go.get (v := .int (gI s37 5)) hx hb hts in_Ref hown hK 0 (Rw_0 ad ca _) rfl 13 (by decide) (hts _ k_628) (fun _ h9 => h9) rfl d_Ref_goes_326 ?_
        refine Go.iconst (v := 1) hx hb (by decide) d_Ref_goes_329 ?_
        refine Go.isub hx hb d_Ref_goes_330 ?_
        refine Go.put (ty := (.int)) hx hb hts in_Ref ty_Ref tyok_Ref nm_Ref hown hK 0 (Rw_0 ad ca _) rfl 13 (by decide) (hts _ k_628) (fun _ h9 => h9) rfl (by decide +kernel) rfl rfl (Nat.le_of_ble_eq_true rfl) (uI s37 5 ((gI s37 5) - 1)) (Rs_I5 ad ca _ _) d_Ref_goes_331 ?_
        refine Go.iconst (v := 0) hx hb (by decide) d_Ref_goes_334 ?_
        exact Go.zret hx hb hr hK hlk rfl h d_Ref_goes_335
    · replace h := (if_neg c293).symm.trans h
      refine Go.aload_n hx hb 0 rfl d_Ref_goes_296 ?_
      refine Go.get (v := .ref (ad 8)) hx hb hts in_Ref hown hK 0 (Rw_0 ad ca _) rfl 12 (by decide) (hts _ k_627) (fun _ h9 => h9) rfl d_Ref_goes_297 ?_
      refine Go.aload_n hx hb 0 rfl d_Ref_goes_300 ?_
      refine Go.get (v := .int (gI st 5)) hx hb hts in_Ref hown hK 0 (Rw_0 ad ca _) rfl 13 (by decide) (hts _ k_628) (fun _ h9 => h9) rfl d_Ref_goes_301 ?_
      refine Go.iconst (v := 1) hx hb (by decide) d_Ref_goes_304 ?_
      refine Go.isub hx hb d_Ref_goes_305 ?_
      obtain ⟨c306, h⟩ := gg_some h
      refine Go.iald (v := gA st 7 ((gI st 5) - 1).toNatClampNeg) hx hb hK 8 7 (Rw_8 ad ca _) rfl c306 rfl d_Ref_goes_306 ?_
      refine Go.iconst (v := (-1)) hx hb (by decide) d_Ref_goes_307 ?_
      refine Go.icmp_eq (tgt := 315) hx hb d_Ref_goes_308 rfl (fun c308 => ?_) (fun c308 => ?_)
      · replace h := (if_pos c308).symm.trans h
        refine Go.iconst (v := 0) hx hb (by decide) d_Ref_goes_315 ?_
        refine Go.bipush (v := 7) hx hb (by decide) d_Ref_goes_316 ?_
        obtain ⟨r38, s38, q38, h⟩ := gb_some h
        refine Go.callVi S hK hA 0 (Rw_0 ad ca _) rfl (fun sz9 => m_Ref_needs l D ad ca N _ sz9 _ _ r38 s38 q38) (cwV 2 hts (gwV k_747 k_749 k_40 k_67 k_750) rfl rfl rfl (by decide +kernel) ⟨Nat.le_of_ble_eq_true rfl, Nat.le_of_ble_eq_true rfl⟩) rfl rfl (Nat.le_of_ble_eq_true rfl) ⟨Nat.zero_le _, Nat.zero_le _⟩ d_Ref_goes_318 ?_
        refine Go.if_eq (tgt := 334) hx hb d_Ref_goes_321 rfl (fun c321 => ?_) (fun c321 => ?_)
        · replace h := (if_pos c321).symm.trans h
          refine Go.iconst (v := 0) hx hb (by decide) d_Ref_goes_334 ?_
          exact Go.zret hx hb hr hK hlk rfl h d_Ref_goes_335
        · replace h := (if_neg c321).symm.trans h
          refine Go.aload_n hx hb 0 rfl d_Ref_goes_324 ?_
          refine Go.dup hx hb rfl d_Ref_goes_325 ?_
          refine Go.get (v := .int (gI s38 5)) hx hb hts in_Ref hown hK 0 (Rw_0 ad ca _) rfl 13 (by decide) (hts _ k_628) (fun _ h9 => h9) rfl d_Ref_goes_326 ?_
          refine Go.iconst (v := 1) hx hb (by decide) d_Ref_goes_329 ?_
          refine Go.isub hx hb d_Ref_goes_330 ?_
          refine Go.put (ty := (.int)) hx hb hts in_Ref ty_Ref tyok_Ref nm_Ref hown hK 0 (Rw_0 ad ca _) rfl 13 (by decide) (hts _ k_628) (fun _ h9 => h9) rfl (by decide +kernel) rfl rfl (Nat.le_of_ble_eq_true rfl) (uI s38 5 ((gI s38 5) - 1)) (Rs_I5 ad ca _ _) d_Ref_goes_331 ?_
          refine Go.iconst (v := 0) hx hb (by decide) d_Ref_goes_334 ?_
          exact Go.zret hx hb hr hK hlk rfl h d_Ref_goes_335
      · replace h := (if_neg c308).symm.trans h
        refine Go.iconst (v := 1) hx hb (by decide) d_Ref_goes_311 ?_
        refine Go.goto (tgt := 316) hx hb d_Ref_goes_312 rfl ?_
        refine Go.bipush (v := 7) hx hb (by decide) d_Ref_goes_316 ?_
        obtain ⟨r39, s39, q39, h⟩ := gb_some h
        refine Go.callVi S hK hA 0 (Rw_0 ad ca _) rfl (fun sz9 => m_Ref_needs l D ad ca N _ sz9 _ _ r39 s39 q39) (cwV 2 hts (gwV k_747 k_749 k_40 k_67 k_750) rfl rfl rfl (by decide +kernel) ⟨Nat.le_of_ble_eq_true rfl, Nat.le_of_ble_eq_true rfl⟩) rfl rfl (Nat.le_of_ble_eq_true rfl) ⟨Nat.zero_le _, Nat.zero_le _⟩ d_Ref_goes_318 ?_
        refine Go.if_eq (tgt := 334) hx hb d_Ref_goes_321 rfl (fun c321 => ?_) (fun c321 => ?_)
        · replace h := (if_pos c321).symm.trans h
          refine Go.iconst (v := 0) hx hb (by decide) d_Ref_goes_334 ?_
          exact Go.zret hx hb hr hK hlk rfl h d_Ref_goes_335
        · replace h := (if_neg c321).symm.trans h
          refine Go.aload_n hx hb 0 rfl d_Ref_goes_324 ?_
          refine Go.dup hx hb rfl d_Ref_goes_325 ?_
          refine Go.get (v := .int (gI s39 5)) hx hb hts in_Ref hown hK 0 (Rw_0 ad ca _) rfl 13 (by decide) (hts _ k_628) (fun _ h9 => h9) rfl d_Ref_goes_326 ?_
          refine Go.iconst (v := 1) hx hb (by decide) d_Ref_goes_329 ?_
          refine Go.isub hx hb d_Ref_goes_330 ?_
          refine Go.put (ty := (.int)) hx hb hts in_Ref ty_Ref tyok_Ref nm_Ref hown hK 0 (Rw_0 ad ca _) rfl 13 (by decide) (hts _ k_628) (fun _ h9 => h9) rfl (by decide +kernel) rfl rfl (Nat.le_of_ble_eq_true rfl) (uI s39 5 ((gI s39 5) - 1)) (Rs_I5 ad ca _ _) d_Ref_goes_331 ?_
          refine Go.iconst (v := 0) hx hb (by decide) d_Ref_goes_334 ?_
          exact Go.zret hx hb hr hK hlk rfl h d_Ref_goes_335
  replace h := (if_neg c1_14).symm.trans h
  by_cases c1_15 : a0 = 30
  · replace h := (if_pos c1_15).symm.trans h
    refine Go.tin (tgt := 133) (off := 132) hx hb 30 c1_15 d_Ref_goes_1 (by decide) (by decide) rfl rfl ?_
    refine Go.aload_n hx hb 0 rfl d_Ref_goes_133 ?_
    refine Go.iload_n hx hb 2 rfl d_Ref_goes_134 ?_
    obtain ⟨_, s40, q40, h⟩ := gb_some h
    refine Go.callVv S hK hA 0 (Rw_0 ad ca _) rfl (fun sz9 => m_Ref_calls l D ad ca N _ sz9 _ _ s40 q40) (cwV 1 hts (gwV k_822 k_824 k_58 k_67 k_825) rfl rfl rfl (by decide +kernel) ⟨Nat.le_of_ble_eq_true rfl, Nat.le_of_ble_eq_true rfl⟩) rfl rfl (Nat.le_of_ble_eq_true rfl) ⟨Nat.zero_le _, Nat.zero_le _⟩ d_Ref_goes_135 ?_
    refine Go.aload_n hx hb 0 rfl d_Ref_goes_138 ?_
    refine Go.get (v := .int (gI s40 16)) hx hb hts in_Ref hown hK 0 (Rw_0 ad ca _) rfl 29 (by decide) (hts _ k_644) (fun _ h9 => h9) rfl d_Ref_goes_139 ?_
    refine Go.if_ne (tgt := 149) hx hb d_Ref_goes_142 rfl (fun c142 => ?_) (fun c142 => ?_)
    · replace h := (if_neg c142).symm.trans h
      refine Go.iconst (v := 0) hx hb (by decide) d_Ref_goes_149 ?_
      exact Go.zret hx hb hr hK hlk rfl h d_Ref_goes_150
    · replace h := (if_pos c142).symm.trans h
      refine Go.iconst (v := 1) hx hb (by decide) d_Ref_goes_145 ?_
      refine Go.goto (tgt := 150) hx hb d_Ref_goes_146 rfl ?_
      exact Go.zret hx hb hr hK hlk rfl h d_Ref_goes_150
  replace h := (if_neg c1_15).symm.trans h
  by_cases c1_16 : a0 = 31
  · replace h := (if_pos c1_16).symm.trans h
    refine Go.tin (tgt := 151) (off := 150) hx hb 31 c1_16 d_Ref_goes_1 (by decide) (by decide) rfl rfl ?_
    refine Go.aload_n hx hb 0 rfl d_Ref_goes_151 ?_
    refine Go.iload_n hx hb 2 rfl d_Ref_goes_152 ?_
    obtain ⟨r41, s41, q41, h⟩ := gb_some h
    refine Go.callVi S hK hA 0 (Rw_0 ad ca _) rfl (fun sz9 => m_Ref_has l D ad ca N _ sz9 _ r41 s41 q41) (cwV 1 hts (gwV k_763 k_765 k_44 k_67 k_766) rfl rfl rfl (by decide +kernel) ⟨Nat.le_of_ble_eq_true rfl, Nat.le_of_ble_eq_true rfl⟩) rfl rfl (Nat.le_of_ble_eq_true rfl) ⟨Nat.zero_le _, Nat.zero_le _⟩ d_Ref_goes_153 ?_
    refine Go.pop hx hb rfl d_Ref_goes_156 ?_
    refine Go.aload_n hx hb 0 rfl d_Ref_goes_157 ?_
    refine Go.aload_n hx hb 0 rfl d_Ref_goes_158 ?_
    refine Go.get (v := .int (gI s41 5)) hx hb hts in_Ref hown hK 0 (Rw_0 ad ca _) rfl 13 (by decide) (hts _ k_628) (fun _ h9 => h9) rfl d_Ref_goes_159 ?_
    refine Go.if_le (tgt := 184) hx hb d_Ref_goes_162 rfl (fun c162 => ?_) (fun c162 => ?_)
    · replace h := (if_pos c162).symm.trans h
      refine Go.iconst (v := 0) hx hb (by decide) d_Ref_goes_184 ?_
      refine Go.bipush (v := 7) hx hb (by decide) d_Ref_goes_185 ?_
      obtain ⟨r42, s42, q42, h⟩ := gb_some h
      refine Go.callVi S hK hA 0 (Rw_0 ad ca _) rfl (fun sz9 => m_Ref_needs l D ad ca N _ sz9 _ _ r42 s42 q42) (cwV 2 hts (gwV k_747 k_749 k_40 k_67 k_750) rfl rfl rfl (by decide +kernel) ⟨Nat.le_of_ble_eq_true rfl, Nat.le_of_ble_eq_true rfl⟩) rfl rfl (Nat.le_of_ble_eq_true rfl) ⟨Nat.zero_le _, Nat.zero_le _⟩ d_Ref_goes_187 ?_
      refine Go.pop hx hb rfl d_Ref_goes_190 ?_
      refine Go.aload_n hx hb 0 rfl d_Ref_goes_191 ?_
      refine Go.get (v := .int (gI s42 16)) hx hb hts in_Ref hown hK 0 (Rw_0 ad ca _) rfl 29 (by decide) (hts _ k_644) (fun _ h9 => h9) rfl d_Ref_goes_192 ?_
      refine Go.if_ne (tgt := 231) hx hb d_Ref_goes_195 rfl (fun c195 => ?_) (fun c195 => ?_)
      · replace h := (if_neg c195).symm.trans h
        refine Go.aload_n hx hb 0 rfl d_Ref_goes_231 ?_
        refine Go.get (v := .int (gI s42 16)) hx hb hts in_Ref hown hK 0 (Rw_0 ad ca _) rfl 29 (by decide) (hts _ k_644) (fun _ h9 => h9) rfl d_Ref_goes_232 ?_
        refine Go.if_ne (tgt := 242) hx hb d_Ref_goes_235 rfl (fun c235 => ?_) (fun c235 => ?_)
        · replace h := (if_neg c235).symm.trans h
          refine Go.iconst (v := 0) hx hb (by decide) d_Ref_goes_242 ?_
          exact Go.zret hx hb hr hK hlk rfl h d_Ref_goes_243
        · replace h := (if_pos c235).symm.trans h
          refine Go.iconst (v := 1) hx hb (by decide) d_Ref_goes_238 ?_
          refine Go.goto (tgt := 243) hx hb d_Ref_goes_239 rfl ?_
          exact Go.zret hx hb hr hK hlk rfl h d_Ref_goes_243
      · replace h := (if_pos c195).symm.trans h
        refine Go.aload_n hx hb 0 rfl d_Ref_goes_198 ?_
        refine Go.dup hx hb rfl d_Ref_goes_199 ?_
        refine Go.get (v := .int (gI s42 4)) hx hb hts in_Ref hown hK 0 (Rw_0 ad ca _) rfl 8 (by decide) (hts _ k_623) (fun _ h9 => h9) rfl d_Ref_goes_200 ?_
        refine Go.iload_n hx hb 2 rfl d_Ref_goes_203 ?_
        refine Go.isub hx hb d_Ref_goes_204 ?_
        refine Go.put (ty := (.int)) hx hb hts in_Ref ty_Ref tyok_Ref nm_Ref hown hK 0 (Rw_0 ad ca _) rfl 8 (by decide) (hts _ k_623) (fun _ h9 => h9) rfl (by decide +kernel) rfl rfl (Nat.le_of_ble_eq_true rfl) (uI s42 4 ((gI s42 4) - a1)) (Rs_I4 ad ca _ _) d_Ref_goes_205 ?_
        refine Go.aload_n hx hb 0 rfl d_Ref_goes_208 ?_
        refine Go.dup hx hb rfl d_Ref_goes_209 ?_
        refine Go.get (v := .int (gI s42 5)) hx hb hts in_Ref hown hK 0 (Rw_0 ad ca _) rfl 13 (by decide) (hts _ k_628) (fun _ h9 => h9) rfl d_Ref_goes_210 ?_
        refine Go.iconst (v := 1) hx hb (by decide) d_Ref_goes_213 ?_
        refine Go.isub hx hb d_Ref_goes_214 ?_
        refine Go.put (ty := (.int)) hx hb hts in_Ref ty_Ref tyok_Ref nm_Ref hown hK 0 (Rw_0 ad ca _) rfl 13 (by decide) (hts _ k_628) (fun _ h9 => h9) rfl (by decide +kernel) rfl rfl (Nat.le_of_ble_eq_true rfl) (uI (uI s42 4 ((gI s42 4) - a1)) 5 ((gI s42 5) - 1)) (Rs_I5 ad ca _ _) d_Ref_goes_215 ?_
        refine Go.aload_n hx hb 0 rfl d_Ref_goes_218 ?_
        refine Go.aload_n hx hb 0 rfl d_Ref_goes_219 ?_
        refine Go.get (v := .ref (ad 7)) hx hb hts in_Ref hown hK 0 (Rw_0 ad ca _) rfl 11 (by decide) (hts _ k_626) (fun _ h9 => h9) rfl d_Ref_goes_220 ?_
        refine Go.aload_n hx hb 0 rfl d_Ref_goes_223 ?_
        refine Go.get (v := .int ((gI s42 5) - 1)) hx hb hts in_Ref hown hK 0 (Rw_0 ad ca _) rfl 13 (by decide) (hts _ k_628) (fun _ h9 => h9) rfl d_Ref_goes_224 ?_
        obtain ⟨c227, h⟩ := gg_some h
        refine Go.iald (v := gA s42 6 ((gI s42 5) - 1).toNatClampNeg) hx hb hK 7 6 (Rw_7 ad ca _) rfl c227 rfl d_Ref_goes_227 ?_
        refine Go.put (ty := (.int)) hx hb hts in_Ref ty_Ref tyok_Ref nm_Ref hown hK 0 (Rw_0 ad ca _) rfl 19 (by decide) (hts _ k_634) (fun _ h9 => h9) rfl (by decide +kernel) rfl rfl (Nat.le_of_ble_eq_true rfl) (uI (uI (uI s42 4 ((gI s42 4) - a1)) 5 ((gI s42 5) - 1)) 6 (gA s42 6 ((gI s42 5) - 1).toNatClampNeg)) (Rs_I6 ad ca _ _) d_Ref_goes_228 ?_
        refine Go.aload_n hx hb 0 rfl d_Ref_goes_231 ?_
        refine Go.get (v := .int (gI s42 16)) hx hb hts in_Ref hown hK 0 (Rw_0 ad ca _) rfl 29 (by decide) (hts _ k_644) (fun _ h9 => h9) rfl d_Ref_goes_232 ?_
        refine Go.if_ne (tgt := 242) hx hb d_Ref_goes_235 rfl (fun c235 => ?_) (fun c235 => ?_)
        · replace h := (if_neg c235).symm.trans h
          refine Go.iconst (v := 0) hx hb (by decide) d_Ref_goes_242 ?_
          exact Go.zret hx hb hr hK hlk rfl h d_Ref_goes_243
        · replace h := (if_pos c235).symm.trans h
          refine Go.iconst (v := 1) hx hb (by decide) d_Ref_goes_238 ?_
          refine Go.goto (tgt := 243) hx hb d_Ref_goes_239 rfl ?_
          exact Go.zret hx hb hr hK hlk rfl h d_Ref_goes_243
    · replace h := (if_neg c162).symm.trans h
      refine Go.aload_n hx hb 0 rfl d_Ref_goes_165 ?_
      refine Go.get (v := .ref (ad 8)) hx hb hts in_Ref hown hK 0 (Rw_0 ad ca _) rfl 12 (by decide) (hts _ k_627) (fun _ h9 => h9) rfl d_Ref_goes_166 ?_
      refine Go.aload_n hx hb 0 rfl d_Ref_goes_169 ?_
      refine Go.get (v := .int (gI s41 5)) hx hb hts in_Ref hown hK 0 (Rw_0 ad ca _) rfl 13 (by decide) (hts _ k_628) (fun _ h9 => h9) rfl d_Ref_goes_170 ?_
      refine Go.iconst (v := 1) hx hb (by decide) d_Ref_goes_173 ?_
      refine Go.isub hx hb d_Ref_goes_174 ?_
      obtain ⟨c175, h⟩ := gg_some h
      refine Go.iald (v := gA s41 7 ((gI s41 5) - 1).toNatClampNeg) hx hb hK 8 7 (Rw_8 ad ca _) rfl c175 rfl d_Ref_goes_175 ?_
      refine Go.iconst (v := (-1)) hx hb (by decide) d_Ref_goes_176 ?_
      refine Go.icmp_ne (tgt := 184) hx hb d_Ref_goes_177 rfl (fun c177 => ?_) (fun c177 => ?_)
      · replace h := (if_neg c177).symm.trans h
        refine Go.iconst (v := 0) hx hb (by decide) d_Ref_goes_184 ?_
        refine Go.bipush (v := 7) hx hb (by decide) d_Ref_goes_185 ?_
        obtain ⟨r43, s43, q43, h⟩ := gb_some h
        refine Go.callVi S hK hA 0 (Rw_0 ad ca _) rfl (fun sz9 => m_Ref_needs l D ad ca N _ sz9 _ _ r43 s43 q43) (cwV 2 hts (gwV k_747 k_749 k_40 k_67 k_750) rfl rfl rfl (by decide +kernel) ⟨Nat.le_of_ble_eq_true rfl, Nat.le_of_ble_eq_true rfl⟩) rfl rfl (Nat.le_of_ble_eq_true rfl) ⟨Nat.zero_le _, Nat.zero_le _⟩ d_Ref_goes_187 ?_
        refine Go.pop hx hb rfl d_Ref_goes_190 ?_
        refine Go.aload_n hx hb 0 rfl d_Ref_goes_191 ?_
        refine Go.get (v := .int (gI s43 16)) hx hb hts in_Ref hown hK 0 (Rw_0 ad ca _) rfl 29 (by decide) (hts _ k_644) (fun _ h9 => h9) rfl d_Ref_goes_192 ?_
        refine Go.if_ne (tgt := 231) hx hb d_Ref_goes_195 rfl (fun c195 => ?_) (fun c195 => ?_)
        · replace h := (if_neg c195).symm.trans h
          refine Go.aload_n hx hb 0 rfl d_Ref_goes_231 ?_
          refine Go.get (v := .int (gI s43 16)) hx hb hts in_Ref hown hK 0 (Rw_0 ad ca _) rfl 29 (by decide) (hts _ k_644) (fun _ h9 => h9) rfl d_Ref_goes_232 ?_
          refine Go.if_ne (tgt := 242) hx hb d_Ref_goes_235 rfl (fun c235 => ?_) (fun c235 => ?_)
          · replace h := (if_neg c235).symm.trans h
            refine Go.iconst (v := 0) hx hb (by decide) d_Ref_goes_242 ?_
            exact Go.zret hx hb hr hK hlk rfl h d_Ref_goes_243
          · replace h := (if_pos c235).symm.trans h
            refine Go.iconst (v := 1) hx hb (by decide) d_Ref_goes_238 ?_
            refine Go.goto (tgt := 243) hx hb d_Ref_goes_239 rfl ?_
            exact Go.zret hx hb hr hK hlk rfl h d_Ref_goes_243
        · replace h := (if_pos c195).symm.trans h
          refine Go.aload_n hx hb 0 rfl d_Ref_goes_198 ?_
          refine Go.dup hx hb rfl d_Ref_goes_199 ?_
          refine Go.get (v := .int (gI s43 4)) hx hb hts in_Ref hown hK 0 (Rw_0 ad ca _) rfl 8 (by decide) (hts _ k_623) (fun _ h9 => h9) rfl d_Ref_goes_200 ?_
          refine Go.iload_n hx hb 2 rfl d_Ref_goes_203 ?_
          refine Go.isub hx hb d_Ref_goes_204 ?_
          refine Go.put (ty := (.int)) hx hb hts in_Ref ty_Ref tyok_Ref nm_Ref hown hK 0 (Rw_0 ad ca _) rfl 8 (by decide) (hts _ k_623) (fun _ h9 => h9) rfl (by decide +kernel) rfl rfl (Nat.le_of_ble_eq_true rfl) (uI s43 4 ((gI s43 4) - a1)) (Rs_I4 ad ca _ _) d_Ref_goes_205 ?_
          refine Go.aload_n hx hb 0 rfl d_Ref_goes_208 ?_
          refine Go.dup hx hb rfl d_Ref_goes_209 ?_
          refine Go.get (v := .int (gI s43 5)) hx hb hts in_Ref hown hK 0 (Rw_0 ad ca _) rfl 13 (by decide) (hts _ k_628) (fun _ h9 => h9) rfl d_Ref_goes_210 ?_
          refine Go.iconst (v := 1) hx hb (by decide) d_Ref_goes_213 ?_
          refine Go.isub hx hb d_Ref_goes_214 ?_
          refine Go.put (ty := (.int)) hx hb hts in_Ref ty_Ref tyok_Ref nm_Ref hown hK 0 (Rw_0 ad ca _) rfl 13 (by decide) (hts _ k_628) (fun _ h9 => h9) rfl (by decide +kernel) rfl rfl (Nat.le_of_ble_eq_true rfl) (uI (uI s43 4 ((gI s43 4) - a1)) 5 ((gI s43 5) - 1)) (Rs_I5 ad ca _ _) d_Ref_goes_215 ?_
          refine Go.aload_n hx hb 0 rfl d_Ref_goes_218 ?_
          refine Go.aload_n hx hb 0 rfl d_Ref_goes_219 ?_
          refine Go.get (v := .ref (ad 7)) hx hb hts in_Ref hown hK 0 (Rw_0 ad ca _) rfl 11 (by decide) (hts _ k_626) (fun _ h9 => h9) rfl d_Ref_goes_220 ?_
          refine Go.aload_n hx hb 0 rfl d_Ref_goes_223 ?_
          refine Go.get (v := .int ((gI s43 5) - 1)) hx hb hts in_Ref hown hK 0 (Rw_0 ad ca _) rfl 13 (by decide) (hts _ k_628) (fun _ h9 => h9) rfl d_Ref_goes_224 ?_
          obtain ⟨c227, h⟩ := gg_some h
          refine Go.iald (v := gA s43 6 ((gI s43 5) - 1).toNatClampNeg) hx hb hK 7 6 (Rw_7 ad ca _) rfl c227 rfl d_Ref_goes_227 ?_
          refine Go.put (ty := (.int)) hx hb hts in_Ref ty_Ref tyok_Ref nm_Ref hown hK 0 (Rw_0 ad ca _) rfl 19 (by decide) (hts _ k_634) (fun _ h9 => h9) rfl (by decide +kernel) rfl rfl (Nat.le_of_ble_eq_true rfl) (uI (uI (uI s43 4 ((gI s43 4) - a1)) 5 ((gI s43 5) - 1)) 6 (gA s43 6 ((gI s43 5) - 1).toNatClampNeg)) (Rs_I6 ad ca _ _) d_Ref_goes_228 ?_
          refine Go.aload_n hx hb 0 rfl d_Ref_goes_231 ?_
          refine Go.get (v := .int (gI s43 16)) hx hb hts in_Ref hown hK 0 (Rw_0 ad ca _) rfl 29 (by decide) (hts _ k_644) (fun _ h9 => h9) rfl d_Ref_goes_232 ?_
          refine Go.if_ne (tgt := 242) hx hb d_Ref_goes_235 rfl (fun c235 => ?_) (fun c235 => ?_)
          · replace h := (if_neg c235).symm.trans h
            refine Go.iconst (v := 0) hx hb (by decide) d_Ref_goes_242 ?_
            exact Go.zret hx hb hr hK hlk rfl h d_Ref_goes_243
          · replace h := (if_pos c235).symm.trans h
            refine Go.iconst (v := 1) hx hb (by decide) d_Ref_goes_238 ?_
            refine Go.goto (tgt := 243) hx hb d_Ref_goes_239 rfl ?_
            exact Go.zret hx hb hr hK hlk rfl h d_Ref_goes_243
      · replace h := (if_pos c177).symm.trans h
        refine Go.iconst (v := 1) hx hb (by decide) d_Ref_goes_180 ?_
        refine Go.goto (tgt := 185) hx hb d_Ref_goes_181 rfl ?_
        refine Go.bipush (v := 7) hx hb (by decide) d_Ref_goes_185 ?_
        obtain ⟨r44, s44, q44, h⟩ := gb_some h
        refine Go.callVi S hK hA 0 (Rw_0 ad ca _) rfl (fun sz9 => m_Ref_needs l D ad ca N _ sz9 _ _ r44 s44 q44) (cwV 2 hts (gwV k_747 k_749 k_40 k_67 k_750) rfl rfl rfl (by decide +kernel) ⟨Nat.le_of_ble_eq_true rfl, Nat.le_of_ble_eq_true rfl⟩) rfl rfl (Nat.le_of_ble_eq_true rfl) ⟨Nat.zero_le _, Nat.zero_le _⟩ d_Ref_goes_187 ?_
        refine Go.pop hx hb rfl d_Ref_goes_190 ?_
        refine Go.aload_n hx hb 0 rfl d_Ref_goes_191 ?_
        refine Go.get (v := .int (gI s44 16)) hx hb hts in_Ref hown hK 0 (Rw_0 ad ca _) rfl 29 (by decide) (hts _ k_644) (fun _ h9 => h9) rfl d_Ref_goes_192 ?_
        refine Go.if_ne (tgt := 231) hx hb d_Ref_goes_195 rfl (fun c195 => ?_) (fun c195 => ?_)
        · replace h := (if_neg c195).symm.trans h
          refine Go.aload_n hx hb 0 rfl d_Ref_goes_231 ?_
          refine Go.get (v := .int (gI s44 16)) hx hb hts in_Ref hown hK 0 (Rw_0 ad ca _) rfl 29 (by decide) (hts _ k_644) (fun _ h9 => h9) rfl d_Ref_goes_232 ?_
          refine Go.if_ne (tgt := 242) hx hb d_Ref_goes_235 rfl (fun c235 => ?_) (fun c235 => ?_)
          · replace h := (if_neg c235).symm.trans h
            refine Go.iconst (v := 0) hx hb (by decide) d_Ref_goes_242 ?_
            exact Go.zret hx hb hr hK hlk rfl h d_Ref_goes_243
          · replace h := (if_pos c235).symm.trans h
            refine Go.iconst (v := 1) hx hb (by decide) d_Ref_goes_238 ?_
            refine Go.goto (tgt := 243) hx hb d_Ref_goes_239 rfl ?_
            exact Go.zret hx hb hr hK hlk rfl h d_Ref_goes_243
        · replace h := (if_pos c195).symm.trans h
          refine Go.aload_n hx hb 0 rfl d_Ref_goes_198 ?_
          refine Go.dup hx hb rfl d_Ref_goes_199 ?_
          refine Go.get (v := .int (gI s44 4)) hx hb hts in_Ref hown hK 0 (Rw_0 ad ca _) rfl 8 (by decide) (hts _ k_623) (fun _ h9 => h9) rfl d_Ref_goes_200 ?_
          refine Go.iload_n hx hb 2 rfl d_Ref_goes_203 ?_
          refine Go.isub hx hb d_Ref_goes_204 ?_
          refine Go.put (ty := (.int)) hx hb hts in_Ref ty_Ref tyok_Ref nm_Ref hown hK 0 (Rw_0 ad ca _) rfl 8 (by decide) (hts _ k_623) (fun _ h9 => h9) rfl (by decide +kernel) rfl rfl (Nat.le_of_ble_eq_true rfl) (uI s44 4 ((gI s44 4) - a1)) (Rs_I4 ad ca _ _) d_Ref_goes_205 ?_
          refine Go.aload_n hx hb 0 rfl d_Ref_goes_208 ?_
          refine Go.dup hx hb rfl d_Ref_goes_209 ?_
          refine Go.get (v := .int (gI s44 5)) hx hb hts in_Ref hown hK 0 (Rw_0 ad ca _) rfl 13 (by decide) (hts _ k_628) (fun _ h9 => h9) rfl d_Ref_goes_210 ?_
          refine Go.iconst (v := 1) hx hb (by decide) d_Ref_goes_213 ?_
          refine Go.isub hx hb d_Ref_goes_214 ?_
          refine Go.put (ty := (.int)) hx hb hts in_Ref ty_Ref tyok_Ref nm_Ref hown hK 0 (Rw_0 ad ca _) rfl 13 (by decide) (hts _ k_628) (fun _ h9 => h9) rfl (by decide +kernel) rfl rfl (Nat.le_of_ble_eq_true rfl) (uI (uI s44 4 ((gI s44 4) - a1)) 5 ((gI s44 5) - 1)) (Rs_I5 ad ca _ _) d_Ref_goes_215 ?_
          refine Go.aload_n hx hb 0 rfl d_Ref_goes_218 ?_
          refine Go.aload_n hx hb 0 rfl d_Ref_goes_219 ?_
          refine Go.get (v := .ref (ad 7)) hx hb hts in_Ref hown hK 0 (Rw_0 ad ca _) rfl 11 (by decide) (hts _ k_626) (fun _ h9 => h9) rfl d_Ref_goes_220 ?_
          refine Go.aload_n hx hb 0 rfl d_Ref_goes_223 ?_
          refine Go.get (v := .int ((gI s44 5) - 1)) hx hb hts in_Ref hown hK 0 (Rw_0 ad ca _) rfl 13 (by decide) (hts _ k_628) (fun _ h9 => h9) rfl d_Ref_goes_224 ?_
          obtain ⟨c227, h⟩ := gg_some h
          refine Go.iald (v := gA s44 6 ((gI s44 5) - 1).toNatClampNeg) hx hb hK 7 6 (Rw_7 ad ca _) rfl c227 rfl d_Ref_goes_227 ?_
          refine Go.put (ty := (.int)) hx hb hts in_Ref ty_Ref tyok_Ref nm_Ref hown hK 0 (Rw_0 ad ca _) rfl 19 (by decide) (hts _ k_634) (fun _ h9 => h9) rfl (by decide +kernel) rfl rfl (Nat.le_of_ble_eq_true rfl) (uI (uI (uI s44 4 ((gI s44 4) - a1)) 5 ((gI s44 5) - 1)) 6 (gA s44 6 ((gI s44 5) - 1).toNatClampNeg)) (Rs_I6 ad ca _ _) d_Ref_goes_228 ?_
          refine Go.aload_n hx hb 0 rfl d_Ref_goes_231 ?_
          refine Go.get (v := .int (gI s44 16)) hx hb hts in_Ref hown hK 0 (Rw_0 ad ca _) rfl 29 (by decide) (hts _ k_644) (fun _ h9 => h9) rfl d_Ref_goes_232 ?_
          refine Go.if_ne (tgt := 242) hx hb d_Ref_goes_235 rfl (fun c235 => ?_) (fun c235 => ?_)
          · replace h := (if_neg c235).symm.trans h
            refine Go.iconst (v := 0) hx hb (by decide) d_Ref_goes_242 ?_
            exact Go.zret hx hb hr hK hlk rfl h d_Ref_goes_243
          · replace h := (if_pos c235).symm.trans h
            refine Go.iconst (v := 1) hx hb (by decide) d_Ref_goes_238 ?_
            refine Go.goto (tgt := 243) hx hb d_Ref_goes_239 rfl ?_
            exact Go.zret hx hb hr hK hlk rfl h d_Ref_goes_243
  replace h := (if_neg c1_16).symm.trans h
  by_cases c1_17 : a0 = 32
  · replace h := (if_pos c1_17).symm.trans h
    refine Go.tin (tgt := 244) (off := 243) hx hb 32 c1_17 d_Ref_goes_1 (by decide) (by decide) rfl rfl ?_
    refine Go.aload_n hx hb 0 rfl d_Ref_goes_244 ?_
    refine Go.aload_n hx hb 0 rfl d_Ref_goes_245 ?_
    refine Go.get (v := .int (gI st 5)) hx hb hts in_Ref hown hK 0 (Rw_0 ad ca _) rfl 13 (by decide) (hts _ k_628) (fun _ h9 => h9) rfl d_Ref_goes_246 ?_
    refine Go.bipush (v := 40) hx hb (by decide) d_Ref_goes_249 ?_
    refine Go.icmp_ge (tgt := 258) hx hb d_Ref_goes_251 rfl (fun c251 => ?_) (fun c251 => ?_)
    · replace h := (if_pos c251).symm.trans h
      refine Go.iconst (v := 0) hx hb (by decide) d_Ref_goes_258 ?_
      refine Go.iconst (v := 4) hx hb (by decide) d_Ref_goes_259 ?_
      obtain ⟨r45, s45, q45, h⟩ := gb_some h
      refine Go.callVi S hK hA 0 (Rw_0 ad ca _) rfl (fun sz9 => m_Ref_needs l D ad ca N _ sz9 _ _ r45 s45 q45) (cwV 2 hts (gwV k_747 k_749 k_40 k_67 k_750) rfl rfl rfl (by decide +kernel) ⟨Nat.le_of_ble_eq_true rfl, Nat.le_of_ble_eq_true rfl⟩) rfl rfl (Nat.le_of_ble_eq_true rfl) ⟨Nat.zero_le _, Nat.zero_le _⟩ d_Ref_goes_260 ?_
      refine Go.pop hx hb rfl d_Ref_goes_263 ?_
      refine Go.aload_n hx hb 0 rfl d_Ref_goes_264 ?_
      refine Go.iload_n hx hb 2 rfl d_Ref_goes_265 ?_
      obtain ⟨r46, s46, q46, h⟩ := gb_some h
      refine Go.callVi S hK hA 0 (Rw_0 ad ca _) rfl (fun sz9 => m_Ref_isPlace l D ad ca N _ sz9 _ r46 s46 q46) (cwV 1 hts (gwV k_818 k_820 k_57 k_67 k_821) rfl rfl rfl (by decide +kernel) ⟨Nat.le_of_ble_eq_true rfl, Nat.le_of_ble_eq_true rfl⟩) rfl rfl (Nat.le_of_ble_eq_true rfl) ⟨Nat.zero_le _, Nat.zero_le _⟩ d_Ref_goes_266 ?_
      refine Go.pop hx hb rfl d_Ref_goes_269 ?_
      refine Go.aload_n hx hb 0 rfl d_Ref_goes_270 ?_
      refine Go.get (v := .int (gI s46 16)) hx hb hts in_Ref hown hK 0 (Rw_0 ad ca _) rfl 29 (by decide) (hts _ k_644) (fun _ h9 => h9) rfl d_Ref_goes_271 ?_
      refine Go.if_ne (tgt := 286) hx hb d_Ref_goes_274 rfl (fun c274 => ?_) (fun c274 => ?_)
      · replace h := (if_neg c274).symm.trans h
        refine Go.iconst (v := 0) hx hb (by decide) d_Ref_goes_286 ?_
        exact Go.zret hx hb hr hK hlk rfl h d_Ref_goes_287
      · replace h := (if_pos c274).symm.trans h
        refine Go.aload_n hx hb 0 rfl d_Ref_goes_277 ?_
        refine Go.iload_n hx hb 2 rfl d_Ref_goes_278 ?_
        refine Go.aload_n hx hb 0 rfl d_Ref_goes_279 ?_
        refine Go.get (v := .int (gI s46 4)) hx hb hts in_Ref hown hK 0 (Rw_0 ad ca _) rfl 8 (by decide) (hts _ k_623) (fun _ h9 => h9) rfl d_Ref_goes_280 ?_
        obtain ⟨_, s47, q47, h⟩ := gb_some h
        refine Go.callVv S hK hA 0 (Rw_0 ad ca _) rfl (fun sz9 => m_Ref_notes l D ad ca N _ sz9 _ _ _ s47 q47) (cwV 2 hts (gwV k_826 k_828 k_59 k_67 k_829) rfl rfl rfl (by decide +kernel) ⟨Nat.le_of_ble_eq_true rfl, Nat.le_of_ble_eq_true rfl⟩) rfl rfl (Nat.le_of_ble_eq_true rfl) ⟨Nat.zero_le _, Nat.zero_le _⟩ d_Ref_goes_283 ?_
        refine Go.iconst (v := 0) hx hb (by decide) d_Ref_goes_286 ?_
        exact Go.zret hx hb hr hK hlk rfl h d_Ref_goes_287
    · replace h := (if_neg c251).symm.trans h
      refine Go.iconst (v := 1) hx hb (by decide) d_Ref_goes_254 ?_
      refine Go.goto (tgt := 259) hx hb d_Ref_goes_255 rfl ?_
      refine Go.iconst (v := 4) hx hb (by decide) d_Ref_goes_259 ?_
      obtain ⟨r48, s48, q48, h⟩ := gb_some h
      refine Go.callVi S hK hA 0 (Rw_0 ad ca _) rfl (fun sz9 => m_Ref_needs l D ad ca N _ sz9 _ _ r48 s48 q48) (cwV 2 hts (gwV k_747 k_749 k_40 k_67 k_750) rfl rfl rfl (by decide +kernel) ⟨Nat.le_of_ble_eq_true rfl, Nat.le_of_ble_eq_true rfl⟩) rfl rfl (Nat.le_of_ble_eq_true rfl) ⟨Nat.zero_le _, Nat.zero_le _⟩ d_Ref_goes_260 ?_
      refine Go.pop hx hb rfl d_Ref_goes_263 ?_
      refine Go.aload_n hx hb 0 rfl d_Ref_goes_264 ?_
      refine Go.iload_n hx hb 2 rfl d_Ref_goes_265 ?_
      obtain ⟨r49, s49, q49, h⟩ := gb_some h
      refine Go.callVi S hK hA 0 (Rw_0 ad ca _) rfl (fun sz9 => m_Ref_isPlace l D ad ca N _ sz9 _ r49 s49 q49) (cwV 1 hts (gwV k_818 k_820 k_57 k_67 k_821) rfl rfl rfl (by decide +kernel) ⟨Nat.le_of_ble_eq_true rfl, Nat.le_of_ble_eq_true rfl⟩) rfl rfl (Nat.le_of_ble_eq_true rfl) ⟨Nat.zero_le _, Nat.zero_le _⟩ d_Ref_goes_266 ?_
      refine Go.pop hx hb rfl d_Ref_goes_269 ?_
      refine Go.aload_n hx hb 0 rfl d_Ref_goes_270 ?_
      refine Go.get (v := .int (gI s49 16)) hx hb hts in_Ref hown hK 0 (Rw_0 ad ca _) rfl 29 (by decide) (hts _ k_644) (fun _ h9 => h9) rfl d_Ref_goes_271 ?_
      refine Go.if_ne (tgt := 286) hx hb d_Ref_goes_274 rfl (fun c274 => ?_) (fun c274 => ?_)
      · replace h := (if_neg c274).symm.trans h
        refine Go.iconst (v := 0) hx hb (by decide) d_Ref_goes_286 ?_
        exact Go.zret hx hb hr hK hlk rfl h d_Ref_goes_287
      · replace h := (if_pos c274).symm.trans h
        refine Go.aload_n hx hb 0 rfl d_Ref_goes_277 ?_
        refine Go.iload_n hx hb 2 rfl d_Ref_goes_278 ?_
        refine Go.aload_n hx hb 0 rfl d_Ref_goes_279 ?_
        refine Go.get (v := .int (gI s49 4)) hx hb hts in_Ref hown hK 0 (Rw_0 ad ca _) rfl 8 (by decide) (hts _ k_623) (fun _ h9 => h9) rfl d_Ref_goes_280 ?_
        obtain ⟨_, s50, q50, h⟩ := gb_some h
        refine Go.callVv S hK hA 0 (Rw_0 ad ca _) rfl (fun sz9 => m_Ref_notes l D ad ca N _ sz9 _ _ _ s50 q50) (cwV 2 hts (gwV k_826 k_828 k_59 k_67 k_829) rfl rfl rfl (by decide +kernel) ⟨Nat.le_of_ble_eq_true rfl, Nat.le_of_ble_eq_true rfl⟩) rfl rfl (Nat.le_of_ble_eq_true rfl) ⟨Nat.zero_le _, Nat.zero_le _⟩ d_Ref_goes_283 ?_
        refine Go.iconst (v := 0) hx hb (by decide) d_Ref_goes_286 ?_
        exact Go.zret hx hb hr hK hlk rfl h d_Ref_goes_287
  replace h := (if_neg c1_17).symm.trans h
  have n1_0 := lv_neT (a := 15) c1_0 (by decide)
  have n1_1 := lv_neT (a := 16) c1_1 (by decide)
  have n1_2 := lv_neT (a := 17) c1_2 (by decide)
  have n1_3 := lv_neT (a := 18) c1_3 (by decide)
  have n1_4 := lv_neT (a := 19) c1_4 (by decide)
  have n1_5 := lv_neT (a := 20) c1_5 (by decide)
  have n1_6 := lv_neT (a := 21) c1_6 (by decide)
  have n1_7 := lv_neT (a := 22) c1_7 (by decide)
  have n1_8 := lv_neT (a := 23) c1_8 (by decide)
  have n1_9 := lv_neT (a := 24) c1_9 (by decide)
  have n1_10 := lv_neT (a := 25) c1_10 (by decide)
  have n1_11 := lv_neT (a := 26) c1_11 (by decide)
  have n1_12 := lv_neT (a := 27) c1_12 (by decide)
  have n1_13 := lv_neT (a := 28) c1_13 (by decide)
  have n1_14 := lv_neT (a := 29) c1_14 (by decide)
  have n1_15 := lv_neT (a := 30) c1_15 (by decide)
  have n1_16 := lv_neT (a := 31) c1_16 (by decide)
  have n1_17 := lv_neT (a := 32) c1_17 (by decide)
  refine Go.tout (tgt := 288) hx hb d_Ref_goes_1 (by omega) rfl ?_
  refine Go.aload_n hx hb 0 rfl d_Ref_goes_288 ?_
  refine Go.aload_n hx hb 0 rfl d_Ref_goes_289 ?_
  refine Go.get (v := .int (gI st 5)) hx hb hts in_Ref hown hK 0 (Rw_0 ad ca _) rfl 13 (by decide) (hts _ k_628) (fun _ h9 => h9) rfl d_Ref_goes_290 ?_
  refine Go.if_le (tgt := 315) hx hb d_Ref_goes_293 rfl (fun c293 => ?_) (fun c293 => ?_)
  · replace h := (if_pos c293).symm.trans h
    refine Go.iconst (v := 0) hx hb (by decide) d_Ref_goes_315 ?_
    refine Go.bipush (v := 7) hx hb (by decide) d_Ref_goes_316 ?_
    obtain ⟨r51, s51, q51, h⟩ := gb_some h
    refine Go.callVi S hK hA 0 (Rw_0 ad ca _) rfl (fun sz9 => m_Ref_needs l D ad ca N _ sz9 _ _ r51 s51 q51) (cwV 2 hts (gwV k_747 k_749 k_40 k_67 k_750) rfl rfl rfl (by decide +kernel) ⟨Nat.le_of_ble_eq_true rfl, Nat.le_of_ble_eq_true rfl⟩) rfl rfl (Nat.le_of_ble_eq_true rfl) ⟨Nat.zero_le _, Nat.zero_le _⟩ d_Ref_goes_318 ?_
    refine Go.if_eq (tgt := 334) hx hb d_Ref_goes_321 rfl (fun c321 => ?_) (fun c321 => ?_)
    · replace h := (if_pos c321).symm.trans h
      refine Go.iconst (v := 0) hx hb (by decide) d_Ref_goes_334 ?_
      exact Go.zret hx hb hr hK hlk rfl h d_Ref_goes_335
    · replace h := (if_neg c321).symm.trans h
      refine Go.aload_n hx hb 0 rfl d_Ref_goes_324 ?_
      refine Go.dup hx hb rfl d_Ref_goes_325 ?_
      refine Go.get (v := .int (gI s51 5)) hx hb hts in_Ref hown hK 0 (Rw_0 ad ca _) rfl 13 (by decide) (hts _ k_628) (fun _ h9 => h9) rfl d_Ref_goes_326 ?_
      refine Go.iconst (v := 1) hx hb (by decide) d_Ref_goes_329 ?_
      refine Go.isub hx hb d_Ref_goes_330 ?_
      refine Go.put (ty := (.int)) hx hb hts in_Ref ty_Ref tyok_Ref nm_Ref hown hK 0 (Rw_0 ad ca _) rfl 13 (by decide) (hts _ k_628) (fun _ h9 => h9) rfl (by decide +kernel) rfl rfl (Nat.le_of_ble_eq_true rfl) (uI s51 5 ((gI s51 5) - 1)) (Rs_I5 ad ca _ _) d_Ref_goes_331 ?_
      refine Go.iconst (v := 0) hx hb (by decide) d_Ref_goes_334 ?_
      exact Go.zret hx hb hr hK hlk rfl h d_Ref_goes_335
  · replace h := (if_neg c293).symm.trans h
    refine Go.aload_n hx hb 0 rfl d_Ref_goes_296 ?_
    refine Go.get (v := .ref (ad 8)) hx hb hts in_Ref hown hK 0 (Rw_0 ad ca _) rfl 12 (by decide) (hts _ k_627) (fun _ h9 => h9) rfl d_Ref_goes_297 ?_
    refine Go.aload_n hx hb 0 rfl d_Ref_goes_300 ?_
    refine Go.get (v := .int (gI st 5)) hx hb hts in_Ref hown hK 0 (Rw_0 ad ca _) rfl 13 (by decide) (hts _ k_628) (fun _ h9 => h9) rfl d_Ref_goes_301 ?_
    refine Go.iconst (v := 1) hx hb (by decide) d_Ref_goes_304 ?_
    refine Go.isub hx hb d_Ref_goes_305 ?_
    obtain ⟨c306, h⟩ := gg_some h
    refine Go.iald (v := gA st 7 ((gI st 5) - 1).toNatClampNeg) hx hb hK 8 7 (Rw_8 ad ca _) rfl c306 rfl d_Ref_goes_306 ?_
    refine Go.iconst (v := (-1)) hx hb (by decide) d_Ref_goes_307 ?_
    refine Go.icmp_eq (tgt := 315) hx hb d_Ref_goes_308 rfl (fun c308 => ?_) (fun c308 => ?_)
    · replace h := (if_pos c308).symm.trans h
      refine Go.iconst (v := 0) hx hb (by decide) d_Ref_goes_315 ?_
      refine Go.bipush (v := 7) hx hb (by decide) d_Ref_goes_316 ?_
      obtain ⟨r52, s52, q52, h⟩ := gb_some h
      refine Go.callVi S hK hA 0 (Rw_0 ad ca _) rfl (fun sz9 => m_Ref_needs l D ad ca N _ sz9 _ _ r52 s52 q52) (cwV 2 hts (gwV k_747 k_749 k_40 k_67 k_750) rfl rfl rfl (by decide +kernel) ⟨Nat.le_of_ble_eq_true rfl, Nat.le_of_ble_eq_true rfl⟩) rfl rfl (Nat.le_of_ble_eq_true rfl) ⟨Nat.zero_le _, Nat.zero_le _⟩ d_Ref_goes_318 ?_
      refine Go.if_eq (tgt := 334) hx hb d_Ref_goes_321 rfl (fun c321 => ?_) (fun c321 => ?_)
      · replace h := (if_pos c321).symm.trans h
        refine Go.iconst (v := 0) hx hb (by decide) d_Ref_goes_334 ?_
        exact Go.zret hx hb hr hK hlk rfl h d_Ref_goes_335
      · replace h := (if_neg c321).symm.trans h
        refine Go.aload_n hx hb 0 rfl d_Ref_goes_324 ?_
        refine Go.dup hx hb rfl d_Ref_goes_325 ?_
        refine Go.get (v := .int (gI s52 5)) hx hb hts in_Ref hown hK 0 (Rw_0 ad ca _) rfl 13 (by decide) (hts _ k_628) (fun _ h9 => h9) rfl d_Ref_goes_326 ?_
        refine Go.iconst (v := 1) hx hb (by decide) d_Ref_goes_329 ?_
        refine Go.isub hx hb d_Ref_goes_330 ?_
        refine Go.put (ty := (.int)) hx hb hts in_Ref ty_Ref tyok_Ref nm_Ref hown hK 0 (Rw_0 ad ca _) rfl 13 (by decide) (hts _ k_628) (fun _ h9 => h9) rfl (by decide +kernel) rfl rfl (Nat.le_of_ble_eq_true rfl) (uI s52 5 ((gI s52 5) - 1)) (Rs_I5 ad ca _ _) d_Ref_goes_331 ?_
        refine Go.iconst (v := 0) hx hb (by decide) d_Ref_goes_334 ?_
        exact Go.zret hx hb hr hK hlk rfl h d_Ref_goes_335
    · replace h := (if_neg c308).symm.trans h
      refine Go.iconst (v := 1) hx hb (by decide) d_Ref_goes_311 ?_
      refine Go.goto (tgt := 316) hx hb d_Ref_goes_312 rfl ?_
      refine Go.bipush (v := 7) hx hb (by decide) d_Ref_goes_316 ?_
      obtain ⟨r53, s53, q53, h⟩ := gb_some h
      refine Go.callVi S hK hA 0 (Rw_0 ad ca _) rfl (fun sz9 => m_Ref_needs l D ad ca N _ sz9 _ _ r53 s53 q53) (cwV 2 hts (gwV k_747 k_749 k_40 k_67 k_750) rfl rfl rfl (by decide +kernel) ⟨Nat.le_of_ble_eq_true rfl, Nat.le_of_ble_eq_true rfl⟩) rfl rfl (Nat.le_of_ble_eq_true rfl) ⟨Nat.zero_le _, Nat.zero_le _⟩ d_Ref_goes_318 ?_
      refine Go.if_eq (tgt := 334) hx hb d_Ref_goes_321 rfl (fun c321 => ?_) (fun c321 => ?_)
      · replace h := (if_pos c321).symm.trans h
        refine Go.iconst (v := 0) hx hb (by decide) d_Ref_goes_334 ?_
        exact Go.zret hx hb hr hK hlk rfl h d_Ref_goes_335
      · replace h := (if_neg c321).symm.trans h
        refine Go.aload_n hx hb 0 rfl d_Ref_goes_324 ?_
        refine Go.dup hx hb rfl d_Ref_goes_325 ?_
        refine Go.get (v := .int (gI s53 5)) hx hb hts in_Ref hown hK 0 (Rw_0 ad ca _) rfl 13 (by decide) (hts _ k_628) (fun _ h9 => h9) rfl d_Ref_goes_326 ?_
        refine Go.iconst (v := 1) hx hb (by decide) d_Ref_goes_329 ?_
        refine Go.isub hx hb d_Ref_goes_330 ?_
        refine Go.put (ty := (.int)) hx hb hts in_Ref ty_Ref tyok_Ref nm_Ref hown hK 0 (Rw_0 ad ca _) rfl 13 (by decide) (hts _ k_628) (fun _ h9 => h9) rfl (by decide +kernel) rfl rfl (Nat.le_of_ble_eq_true rfl) (uI s53 5 ((gI s53 5) - 1)) (Rs_I5 ad ca _ _) d_Ref_goes_331 ?_
        refine Go.iconst (v := 0) hx hb (by decide) d_Ref_goes_334 ?_
        exact Go.zret hx hb hr hK hlk rfl h d_Ref_goes_335
