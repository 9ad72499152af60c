set_option maxHeartbeats 4000000 in
set_option maxRecDepth 100000 in
theorem m_Ref_loads (l : Launch) (D : va_G) (ad : Nat → Nat) (ca : Nat → ClassId) (N : Nat) (st : SG) (sz : Nat) (a0 : Int32) (a1 : Int32) (r : Unit) (u : SG) (h : fR_ValueMachineModel_loads N st a0 a1 = some (r, u)) : Met l y_Ref_loads (Cond.code y_Ref_loads c_Ref_loads 3 none :: tbl) ({ frames := 3, cells := 0, slots := 0, locals := 66 } : Room) (va_Pc [.ref (ad 0), .int a0, .int a1] (goPre (Rw ad ca) D vwCl (Rtys ca) sz st)) (va_Qv (fun u' => u' = u) (goPost (Rw ad ca) D vwCl (Rtys ca) (va_A (Rw ad ca st) sz)) (va_A (Rw ad ca st) sz)) 0 0 (va_A (Rw ad ca st) sz) := by
  refine go_met (Qc := fun A9 => va_Qv (fun u' => u' = u) (goPost (Rw ad ca) D vwCl (Rtys ca) A9) A9) (cc := c_Ref_loads) (maxL := 3) (ret := none) [(0, .ref (ad 0)), (1, .int a0), (2, .int a1)] (by decide) rfl (Nat.le_of_ble_eq_true rfl) rfl ?_
  intro p e s m below meth c A S hr hlk hK hA hsz
  obtain ⟨hx, hb, hml, hown, hts⟩ := id S
  unfold fR_ValueMachineModel_loads at h
  refine Go.iload_n hx hb 1 rfl d_Ref_loads_0 ?_
  by_cases c1_0 : a0 = 4
  · replace h := (if_pos c1_0).symm.trans h
    refine Go.tin (tgt := 32) (off := 31) hx hb 4 c1_0 d_Ref_loads_1 (by decide) (by decide) rfl rfl ?_
    refine Go.aload_n hx hb 0 rfl d_Ref_loads_32 ?_
    refine Go.iload_n hx hb 2 rfl d_Ref_loads_33 ?_
    refine Go.if_lt (tgt := 49) hx hb d_Ref_loads_34 rfl (fun c34 => ?_) (fun c34 => ?_)
    · replace h := (if_pos c34).symm.trans h
      refine Go.iconst (v := 0) hx hb (by decide) d_Ref_loads_49 ?_
      refine Go.iconst (v := 3) hx hb (by decide) d_Ref_loads_50 ?_
      obtain ⟨r1, s1, q1, h⟩ := gb_some h
      refine Go.callVi S hK hA 0 (Rw_0 ad ca _) rfl (fun sz9 => m_Ref_needs l D ad ca N _ sz9 _ _ r1 s1 q1) (cwV 2 hts (gwV k_747 k_749 k_40 k_67 k_750) rfl rfl rfl (by decide +kernel) ⟨Nat.le_of_ble_eq_true rfl, Nat.le_of_ble_eq_true rfl⟩) rfl rfl (Nat.le_of_ble_eq_true rfl) ⟨Nat.zero_le _, Nat.zero_le _⟩ d_Ref_loads_51 ?_
      refine Go.if_eq (tgt := 226) hx hb d_Ref_loads_54 rfl (fun c54 => ?_) (fun c54 => ?_)
      · replace h := (if_pos c54).symm.trans h
        exact Go.vret hx hb hr hK hlk h d_Ref_loads_226
      · replace h := (if_neg c54).symm.trans h
        refine Go.aload_n hx hb 0 rfl d_Ref_loads_57 ?_
        refine Go.aload_n hx hb 0 rfl d_Ref_loads_58 ?_
        refine Go.get (v := .ref (ad 3)) hx hb hts in_Ref hown hK 0 (Rw_0 ad ca _) rfl 6 (by decide) (hts _ k_621) (fun _ h9 => h9) rfl d_Ref_loads_59 ?_
        refine Go.aload_n hx hb 0 rfl d_Ref_loads_62 ?_
        refine Go.iload_n hx hb 2 rfl d_Ref_loads_63 ?_
        obtain ⟨r2, s2, q2, h⟩ := gb_some h
        refine Go.callVi S hK hA 0 (Rw_0 ad ca _) rfl (fun sz9 => m_Ref_deep l D ad ca N _ sz9 _ r2 s2 q2) (cwV 1 hts (gwV k_751 k_753 k_41 k_67 k_754) rfl rfl rfl (by decide +kernel) ⟨Nat.le_of_ble_eq_true rfl, Nat.le_of_ble_eq_true rfl⟩) rfl rfl (Nat.le_of_ble_eq_true rfl) ⟨Nat.zero_le _, Nat.zero_le _⟩ d_Ref_loads_64 ?_
        obtain ⟨c67, h⟩ := gg_some h
        refine Go.iald (v := gA s2 2 r2.toNatClampNeg) hx hb hK 3 2 (Rw_3 ad ca _) rfl c67 rfl d_Ref_loads_67 ?_
        refine Go.aload_n hx hb 0 rfl d_Ref_loads_68 ?_
        refine Go.get (v := .ref (ad 4)) hx hb hts in_Ref hown hK 0 (Rw_0 ad ca _) rfl 7 (by decide) (hts _ k_622) (fun _ h9 => h9) rfl d_Ref_loads_69 ?_
        refine Go.aload_n hx hb 0 rfl d_Ref_loads_72 ?_
        refine Go.iload_n hx hb 2 rfl d_Ref_loads_73 ?_
        obtain ⟨r3, s3, q3, h⟩ := gb_some h
        refine Go.callVi S hK hA 0 (Rw_0 ad ca _) rfl (fun sz9 => m_Ref_deep l D ad ca N _ sz9 _ r3 s3 q3) (cwV 1 hts (gwV k_751 k_753 k_41 k_67 k_754) rfl rfl rfl (by decide +kernel) ⟨Nat.le_of_ble_eq_true rfl, Nat.le_of_ble_eq_true rfl⟩) rfl rfl (Nat.le_of_ble_eq_true rfl) ⟨Nat.zero_le _, Nat.zero_le _⟩ d_Ref_loads_74 ?_
        obtain ⟨c77, h⟩ := gg_some h
        refine Go.iald (v := gA s3 3 r3.toNatClampNeg) hx hb hK 4 3 (Rw_4 ad ca _) rfl c77 rfl d_Ref_loads_77 ?_
        obtain ⟨_, s4, q4, h⟩ := gb_some h
        refine Go.callVv S hK hA 0 (Rw_0 ad ca _) rfl (fun sz9 => m_Ref_acc l D ad ca N _ sz9 _ _ _ s4 q4) (cwV 2 hts (gwV k_739 k_741 k_38 k_67 k_742) rfl rfl rfl (by decide +kernel) ⟨Nat.le_of_ble_eq_true rfl, Nat.le_of_ble_eq_true rfl⟩) rfl rfl (Nat.le_of_ble_eq_true rfl) ⟨Nat.zero_le _, Nat.zero_le _⟩ d_Ref_loads_78 ?_
        refine Go.goto (tgt := 226) hx hb d_Ref_loads_81 rfl ?_
        exact Go.vret hx hb hr hK hlk h d_Ref_loads_226
    · replace h := (if_neg c34).symm.trans h
      refine Go.iload_n hx hb 2 rfl d_Ref_loads_37 ?_
      refine Go.aload_n hx hb 0 rfl d_Ref_loads_38 ?_
      refine Go.get (v := .int (gI st 4)) hx hb hts in_Ref hown hK 0 (Rw_0 ad ca _) rfl 8 (by decide) (hts _ k_623) (fun _ h9 => h9) rfl d_Ref_loads_39 ?_
      refine Go.icmp_ge (tgt := 49) hx hb d_Ref_loads_42 rfl (fun c42 => ?_) (fun c42 => ?_)
      · replace h := (if_pos c42).symm.trans h
        refine Go.iconst (v := 0) hx hb (by decide) d_Ref_loads_49 ?_
        refine Go.iconst (v := 3) hx hb (by decide) d_Ref_loads_50 ?_
        obtain ⟨r5, s5, q5, h⟩ := gb_some h
        refine Go.callVi S hK hA 0 (Rw_0 ad ca _) rfl (fun sz9 => m_Ref_needs l D ad ca N _ sz9 _ _ r5 s5 q5) (cwV 2 hts (gwV k_747 k_749 k_40 k_67 k_750) rfl rfl rfl (by decide +kernel) ⟨Nat.le_of_ble_eq_true rfl, Nat.le_of_ble_eq_true rfl⟩) rfl rfl (Nat.le_of_ble_eq_true rfl) ⟨Nat.zero_le _, Nat.zero_le _⟩ d_Ref_loads_51 ?_
        refine Go.if_eq (tgt := 226) hx hb d_Ref_loads_54 rfl (fun c54 => ?_) (fun c54 => ?_)
        · replace h := (if_pos c54).symm.trans h
          exact Go.vret hx hb hr hK hlk h d_Ref_loads_226
        · replace h := (if_neg c54).symm.trans h
          refine Go.aload_n hx hb 0 rfl d_Ref_loads_57 ?_
          refine Go.aload_n hx hb 0 rfl d_Ref_loads_58 ?_
          refine Go.get (v := .ref (ad 3)) hx hb hts in_Ref hown hK 0 (Rw_0 ad ca _) rfl 6 (by decide) (hts _ k_621) (fun _ h9 => h9) rfl d_Ref_loads_59 ?_
          refine Go.aload_n hx hb 0 rfl d_Ref_loads_62 ?_
          refine Go.iload_n hx hb 2 rfl d_Ref_loads_63 ?_
          obtain ⟨r6, s6, q6, h⟩ := gb_some h
          refine Go.callVi S hK hA 0 (Rw_0 ad ca _) rfl (fun sz9 => m_Ref_deep l D ad ca N _ sz9 _ r6 s6 q6) (cwV 1 hts (gwV k_751 k_753 k_41 k_67 k_754) rfl rfl rfl (by decide +kernel) ⟨Nat.le_of_ble_eq_true rfl, Nat.le_of_ble_eq_true rfl⟩) rfl rfl (Nat.le_of_ble_eq_true rfl) ⟨Nat.zero_le _, Nat.zero_le _⟩ d_Ref_loads_64 ?_
          obtain ⟨c67, h⟩ := gg_some h
          refine Go.iald (v := gA s6 2 r6.toNatClampNeg) hx hb hK 3 2 (Rw_3 ad ca _) rfl c67 rfl d_Ref_loads_67 ?_
          refine Go.aload_n hx hb 0 rfl d_Ref_loads_68 ?_
          refine Go.get (v := .ref (ad 4)) hx hb hts in_Ref hown hK 0 (Rw_0 ad ca _) rfl 7 (by decide) (hts _ k_622) (fun _ h9 => h9) rfl d_Ref_loads_69 ?_
          refine Go.aload_n hx hb 0 rfl d_Ref_loads_72 ?_
          refine Go.iload_n hx hb 2 rfl d_Ref_loads_73 ?_
          obtain ⟨r7, s7, q7, h⟩ := gb_some h
          refine Go.callVi S hK hA 0 (Rw_0 ad ca _) rfl (fun sz9 => m_Ref_deep l D ad ca N _ sz9 _ r7 s7 q7) (cwV 1 hts (gwV k_751 k_753 k_41 k_67 k_754) rfl rfl rfl (by decide +kernel) ⟨Nat.le_of_ble_eq_true rfl, Nat.le_of_ble_eq_true rfl⟩) rfl rfl (Nat.le_of_ble_eq_true rfl) ⟨Nat.zero_le _, Nat.zero_le _⟩ d_Ref_loads_74 ?_
          obtain ⟨c77, h⟩ := gg_some h
          refine Go.iald (v := gA s7 3 r7.toNatClampNeg) hx hb hK 4 3 (Rw_4 ad ca _) rfl c77 rfl d_Ref_loads_77 ?_
          obtain ⟨_, s8, q8, h⟩ := gb_some h
          refine Go.callVv S hK hA 0 (Rw_0 ad ca _) rfl (fun sz9 => m_Ref_acc l D ad ca N _ sz9 _ _ _ s8 q8) (cwV 2 hts (gwV k_739 k_741 k_38 k_67 k_742) rfl rfl rfl (by decide +kernel) ⟨Nat.le_of_ble_eq_true rfl, Nat.le_of_ble_eq_true rfl⟩) rfl rfl (Nat.le_of_ble_eq_true rfl) ⟨Nat.zero_le _, Nat.zero_le _⟩ d_Ref_loads_78 ?_
          refine Go.goto (tgt := 226) hx hb d_Ref_loads_81 rfl ?_
          exact Go.vret hx hb hr hK hlk h d_Ref_loads_226
      · replace h := (if_neg c42).symm.trans h
        refine Go.iconst (v := 1) hx hb (by decide) d_Ref_loads_45 ?_
        refine Go.goto (tgt := 50) hx hb d_Ref_loads_46 rfl ?_
        refine Go.iconst (v := 3) hx hb (by decide) d_Ref_loads_50 ?_
        obtain ⟨r9, s9, q9, h⟩ := gb_some h
        refine Go.callVi S hK hA 0 (Rw_0 ad ca _) rfl (fun sz9 => m_Ref_needs l D ad ca N _ sz9 _ _ r9 s9 q9) (cwV 2 hts (gwV k_747 k_749 k_40 k_67 k_750) rfl rfl rfl (by decide +kernel) ⟨Nat.le_of_ble_eq_true rfl, Nat.le_of_ble_eq_true rfl⟩) rfl rfl (Nat.le_of_ble_eq_true rfl) ⟨Nat.zero_le _, Nat.zero_le _⟩ d_Ref_loads_51 ?_
        refine Go.if_eq (tgt := 226) hx hb d_Ref_loads_54 rfl (fun c54 => ?_) (fun c54 => ?_)
        · replace h := (if_pos c54).symm.trans h
          exact Go.vret hx hb hr hK hlk h d_Ref_loads_226
        · replace h := (if_neg c54).symm.trans h
          refine Go.aload_n hx hb 0 rfl d_Ref_loads_57 ?_
          refine Go.aload_n hx hb 0 rfl d_Ref_loads_58 ?_
          refine Go.get (v := .ref (ad 3)) hx hb hts in_Ref hown hK 0 (Rw_0 ad ca _) rfl 6 (by decide) (hts _ k_621) (fun _ h9 => h9) rfl d_Ref_loads_59 ?_
          refine Go.aload_n hx hb 0 rfl d_Ref_loads_62 ?_
          refine Go.iload_n hx hb 2 rfl d_Ref_loads_63 ?_
          obtain ⟨r10, s10, q10, h⟩ := gb_some h
          refine Go.callVi S hK hA 0 (Rw_0 ad ca _) rfl (fun sz9 => m_Ref_deep l D ad ca N _ sz9 _ r10 s10 q10) (cwV 1 hts (gwV k_751 k_753 k_41 k_67 k_754) rfl rfl rfl (by decide +kernel) ⟨Nat.le_of_ble_eq_true rfl, Nat.le_of_ble_eq_true rfl⟩) rfl rfl (Nat.le_of_ble_eq_true rfl) ⟨Nat.zero_le _, Nat.zero_le _⟩ d_Ref_loads_64 ?_
          obtain ⟨c67, h⟩ := gg_some h
          refine Go.iald (v := gA s10 2 r10.toNatClampNeg) hx hb hK 3 2 (Rw_3 ad ca _) rfl c67 rfl d_Ref_loads_67 ?_
          refine Go.aload_n hx hb 0 rfl d_Ref_loads_68 ?_
          refine Go.get (v := .ref (ad 4)) hx hb hts in_Ref hown hK 0 (Rw_0 ad ca _) rfl 7 (by decide) (hts _ k_622) (fun _ h9 => h9) rfl d_Ref_loads_69 ?_
          refine Go.aload_n hx hb 0 rfl d_Ref_loads_72 ?_
          refine Go.iload_n hx hb 2 rfl d_Ref_loads_73 ?_
          obtain ⟨r11, s11, q11, h⟩ := gb_some h
          refine Go.callVi S hK hA 0 (Rw_0 ad ca _) rfl (fun sz9 => m_Ref_deep l D ad ca N _ sz9 _ r11 s11 q11) (cwV 1 hts (gwV k_751 k_753 k_41 k_67 k_754) rfl rfl rfl (by decide +kernel) ⟨Nat.le_of_ble_eq_true rfl, Nat.le_of_ble_eq_true rfl⟩) rfl rfl (Nat.le_of_ble_eq_true rfl) ⟨Nat.zero_le _, Nat.zero_le _⟩ d_Ref_loads_74 ?_
          obtain ⟨c77, h⟩ := gg_some h
          refine Go.iald (v := gA s11 3 r11.toNatClampNeg) hx hb hK 4 3 (Rw_4 ad ca _) rfl c77 rfl d_Ref_loads_77 ?_
          obtain ⟨_, s12, q12, h⟩ := gb_some h
          refine Go.callVv S hK hA 0 (Rw_0 ad ca _) rfl (fun sz9 => m_Ref_acc l D ad ca N _ sz9 _ _ _ s12 q12) (cwV 2 hts (gwV k_739 k_741 k_38 k_67 k_742) rfl rfl rfl (by decide +kernel) ⟨Nat.le_of_ble_eq_true rfl, Nat.le_of_ble_eq_true rfl⟩) rfl rfl (Nat.le_of_ble_eq_true rfl) ⟨Nat.zero_le _, Nat.zero_le _⟩ d_Ref_loads_78 ?_
          refine Go.goto (tgt := 226) hx hb d_Ref_loads_81 rfl ?_
          exact Go.vret hx hb hr hK hlk h d_Ref_loads_226
  replace h := (if_neg c1_0).symm.trans h
  by_cases c1_1 : a0 = 5
  · replace h := (if_pos c1_1).symm.trans h
    refine Go.tin (tgt := 84) (off := 83) hx hb 5 c1_1 d_Ref_loads_1 (by decide) (by decide) rfl rfl ?_
    refine Go.aload_n hx hb 0 rfl d_Ref_loads_84 ?_
    refine Go.iload_n hx hb 2 rfl d_Ref_loads_85 ?_
    refine Go.if_lt (tgt := 99) hx hb d_Ref_loads_86 rfl (fun c86 => ?_) (fun c86 => ?_)
    · replace h := (if_pos c86).symm.trans h
      refine Go.iconst (v := 0) hx hb (by decide) d_Ref_loads_99 ?_
      refine Go.bipush (v := 8) hx hb (by decide) d_Ref_loads_100 ?_
      obtain ⟨r13, s13, q13, h⟩ := gb_some h
      refine Go.callVi S hK hA 0 (Rw_0 ad ca _) rfl (fun sz9 => m_Ref_needs l D ad ca N _ sz9 _ _ r13 s13 q13) (cwV 2 hts (gwV k_747 k_749 k_40 k_67 k_750) rfl rfl rfl (by decide +kernel) ⟨Nat.le_of_ble_eq_true rfl, Nat.le_of_ble_eq_true rfl⟩) rfl rfl (Nat.le_of_ble_eq_true rfl) ⟨Nat.zero_le _, Nat.zero_le _⟩ d_Ref_loads_102 ?_
      refine Go.if_eq (tgt := 226) hx hb d_Ref_loads_105 rfl (fun c105 => ?_) (fun c105 => ?_)
      · replace h := (if_pos c105).symm.trans h
        exact Go.vret hx hb hr hK hlk h d_Ref_loads_226
      · replace h := (if_neg c105).symm.trans h
        refine Go.aload_n hx hb 0 rfl d_Ref_loads_108 ?_
        refine Go.aload_n hx hb 0 rfl d_Ref_loads_109 ?_
        refine Go.get (v := .ref (ad 5)) hx hb hts in_Ref hown hK 0 (Rw_0 ad ca _) rfl 9 (by decide) (hts _ k_624) (fun _ h9 => h9) rfl d_Ref_loads_110 ?_
        refine Go.iload_n hx hb 2 rfl d_Ref_loads_113 ?_
        obtain ⟨c114, h⟩ := gg_some h
        refine Go.iald (v := gA s13 4 a1.toNatClampNeg) hx hb hK 5 4 (Rw_5 ad ca _) rfl c114 rfl d_Ref_loads_114 ?_
        refine Go.aload_n hx hb 0 rfl d_Ref_loads_115 ?_
        refine Go.get (v := .ref (ad 6)) hx hb hts in_Ref hown hK 0 (Rw_0 ad ca _) rfl 10 (by decide) (hts _ k_625) (fun _ h9 => h9) rfl d_Ref_loads_116 ?_
        refine Go.iload_n hx hb 2 rfl d_Ref_loads_119 ?_
        obtain ⟨c120, h⟩ := gg_some h
        refine Go.iald (v := gA s13 5 a1.toNatClampNeg) hx hb hK 6 5 (Rw_6 ad ca _) rfl c120 rfl d_Ref_loads_120 ?_
        obtain ⟨_, s14, q14, h⟩ := gb_some h
        refine Go.callVv S hK hA 0 (Rw_0 ad ca _) rfl (fun sz9 => m_Ref_acc l D ad ca N _ sz9 _ _ _ s14 q14) (cwV 2 hts (gwV k_739 k_741 k_38 k_67 k_742) rfl rfl rfl (by decide +kernel) ⟨Nat.le_of_ble_eq_true rfl, Nat.le_of_ble_eq_true rfl⟩) rfl rfl (Nat.le_of_ble_eq_true rfl) ⟨Nat.zero_le _, Nat.zero_le _⟩ d_Ref_loads_121 ?_
        refine Go.goto (tgt := 226) hx hb d_Ref_loads_124 rfl ?_
        exact Go.vret hx hb hr hK hlk h d_Ref_loads_226
    · replace h := (if_neg c86).symm.trans h
      refine Go.iload_n hx hb 2 rfl d_Ref_loads_89 ?_
      refine Go.bipush (v := 8) hx hb (by decide) d_Ref_loads_90 ?_
      refine Go.icmp_ge (tgt := 99) hx hb d_Ref_loads_92 rfl (fun c92 => ?_) (fun c92 => ?_)
      · replace h := (if_pos c92).symm.trans h
        refine Go.iconst (v := 0) hx hb (by decide) d_Ref_loads_99 ?_
        refine Go.bipush (v := 8) hx hb (by decide) d_Ref_loads_100 ?_
        obtain ⟨r15, s15, q15, h⟩ := gb_some h
        refine Go.callVi S hK hA 0 (Rw_0 ad ca _) rfl (fun sz9 => m_Ref_needs l D ad ca N _ sz9 _ _ r15 s15 q15) (cwV 2 hts (gwV k_747 k_749 k_40 k_67 k_750) rfl rfl rfl (by decide +kernel) ⟨Nat.le_of_ble_eq_true rfl, Nat.le_of_ble_eq_true rfl⟩) rfl rfl (Nat.le_of_ble_eq_true rfl) ⟨Nat.zero_le _, Nat.zero_le _⟩ d_Ref_loads_102 ?_
        refine Go.if_eq (tgt := 226) hx hb d_Ref_loads_105 rfl (fun c105 => ?_) (fun c105 => ?_)
        · replace h := (if_pos c105).symm.trans h
          exact Go.vret hx hb hr hK hlk h d_Ref_loads_226
        · replace h := (if_neg c105).symm.trans h
          refine Go.aload_n hx hb 0 rfl d_Ref_loads_108 ?_
          refine Go.aload_n hx hb 0 rfl d_Ref_loads_109 ?_
          refine Go.get (v := .ref (ad 5)) hx hb hts in_Ref hown hK 0 (Rw_0 ad ca _) rfl 9 (by decide) (hts _ k_624) (fun _ h9 => h9) rfl d_Ref_loads_110 ?_
          refine Go.iload_n hx hb 2 rfl d_Ref_loads_113 ?_
          obtain ⟨c114, h⟩ := gg_some h
          refine Go.iald (v := gA s15 4 a1.toNatClampNeg) hx hb hK 5 4 (Rw_5 ad ca _) rfl c114 rfl d_Ref_loads_114 ?_
          refine Go.aload_n hx hb 0 rfl d_Ref_loads_115 ?_
          refine Go.get (v := .ref (ad 6)) hx hb hts in_Ref hown hK 0 (Rw_0 ad ca _) rfl 10 (by decide) (hts _ k_625) (fun _ h9 => h9) rfl d_Ref_loads_116 ?_
          refine Go.iload_n hx hb 2 rfl d_Ref_loads_119 ?_
          obtain ⟨c120, h⟩ := gg_some h
          refine Go.iald (v := gA s15 5 a1.toNatClampNeg) hx hb hK 6 5 (Rw_6 ad ca _) rfl c120 rfl d_Ref_loads_120 ?_
          obtain ⟨_, s16, q16, h⟩ := gb_some h
          refine Go.callVv S hK hA 0 (Rw_0 ad ca _) rfl (fun sz9 => m_Ref_acc l D ad ca N _ sz9 _ _ _ s16 q16) (cwV 2 hts (gwV k_739 k_741 k_38 k_67 k_742) rfl rfl rfl (by decide +kernel) ⟨Nat.le_of_ble_eq_true rfl, Nat.le_of_ble_eq_true rfl⟩) rfl rfl (Nat.le_of_ble_eq_true rfl) ⟨Nat.zero_le _, Nat.zero_le _⟩ d_Ref_loads_121 ?_
          refine Go.goto (tgt := 226) hx hb d_Ref_loads_124 rfl ?_
          exact Go.vret hx hb hr hK hlk h d_Ref_loads_226
      · replace h := (if_neg c92).symm.trans h
        refine Go.iconst (v := 1) hx hb (by decide) d_Ref_loads_95 ?_
        refine Go.goto (tgt := 100) hx hb d_Ref_loads_96 rfl ?_
        refine Go.bipush (v := 8) hx hb (by decide) d_Ref_loads_100 ?_
        obtain ⟨r17, s17, q17, h⟩ := gb_some h
        refine Go.callVi S hK hA 0 (Rw_0 ad ca _) rfl (fun sz9 => m_Ref_needs l D ad ca N _ sz9 _ _ r17 s17 q17) (cwV 2 hts (gwV k_747 k_749 k_40 k_67 k_750) rfl rfl rfl (by decide +kernel) ⟨Nat.le_of_ble_eq_true rfl, Nat.le_of_ble_eq_true rfl⟩) rfl rfl (Nat.le_of_ble_eq_true rfl) ⟨Nat.zero_le _, Nat.zero_le _⟩ d_Ref_loads_102 ?_
        refine Go.if_eq (tgt := 226) hx hb d_Ref_loads_105 rfl (fun c105 => ?_) (fun c105 => ?_)
        · replace h := (if_pos c105).symm.trans h
          exact Go.vret hx hb hr hK hlk h d_Ref_loads_226
        · replace h := (if_neg c105).symm.trans h
          refine Go.aload_n hx hb 0 rfl d_Ref_loads_108 ?_
          refine Go.aload_n hx hb 0 rfl d_Ref_loads_109 ?_
          refine Go.get (v := .ref (ad 5)) hx hb hts in_Ref hown hK 0 (Rw_0 ad ca _) rfl 9 (by decide) (hts _ k_624) (fun _ h9 => h9) rfl d_Ref_loads_110 ?_
          refine Go.iload_n hx hb 2 rfl d_Ref_loads_113 ?_
          obtain ⟨c114, h⟩ := gg_some h
          refine Go.iald (v := gA s17 4 a1.toNatClampNeg) hx hb hK 5 4 (Rw_5 ad ca _) rfl c114 rfl d_Ref_loads_114 ?_
          refine Go.aload_n hx hb 0 rfl d_Ref_loads_115 ?_
          refine Go.get (v := .ref (ad 6)) hx hb hts in_Ref hown hK 0 (Rw_0 ad ca _) rfl 10 (by decide) (hts _ k_625) (fun _ h9 => h9) rfl d_Ref_loads_116 ?_
          refine Go.iload_n hx hb 2 rfl d_Ref_loads_119 ?_
          obtain ⟨c120, h⟩ := gg_some h
          refine Go.iald (v := gA s17 5 a1.toNatClampNeg) hx hb hK 6 5 (Rw_6 ad ca _) rfl c120 rfl d_Ref_loads_120 ?_
          obtain ⟨_, s18, q18, h⟩ := gb_some h
          refine Go.callVv S hK hA 0 (Rw_0 ad ca _) rfl (fun sz9 => m_Ref_acc l D ad ca N _ sz9 _ _ _ s18 q18) (cwV 2 hts (gwV k_739 k_741 k_38 k_67 k_742) rfl rfl rfl (by decide +kernel) ⟨Nat.le_of_ble_eq_true rfl, Nat.le_of_ble_eq_true rfl⟩) rfl rfl (Nat.le_of_ble_eq_true rfl) ⟨Nat.zero_le _, Nat.zero_le _⟩ d_Ref_loads_121 ?_
          refine Go.goto (tgt := 226) hx hb d_Ref_loads_124 rfl ?_
          exact Go.vret hx hb hr hK hlk h d_Ref_loads_226
  replace h := (if_neg c1_1).symm.trans h
  by_cases c1_2 : a0 = 6
  · replace h := (if_pos c1_2).symm.trans h
    refine Go.tin (tgt := 127) (off := 126) hx hb 6 c1_2 d_Ref_loads_1 (by decide) (by decide) rfl rfl ?_
    refine Go.aload_n hx hb 0 rfl d_Ref_loads_127 ?_
    refine Go.iconst (v := 4) hx hb (by decide) d_Ref_loads_128 ?_
    obtain ⟨r19, s19, q19, h⟩ := gb_some h
    refine Go.callVi S hK hA 0 (Rw_0 ad ca _) rfl (fun sz9 => m_Ref_isAcc l D ad ca N _ sz9 _ r19 s19 q19) (cwV 1 hts (gwV k_755 k_757 k_42 k_67 k_758) rfl rfl rfl (by decide +kernel) ⟨Nat.le_of_ble_eq_true rfl, Nat.le_of_ble_eq_true rfl⟩) rfl rfl (Nat.le_of_ble_eq_true rfl) ⟨Nat.zero_le _, Nat.zero_le _⟩ d_Ref_loads_129 ?_
    refine Go.pop hx hb rfl d_Ref_loads_132 ?_
    refine Go.aload_n hx hb 0 rfl d_Ref_loads_133 ?_
    refine Go.iload_n hx hb 2 rfl d_Ref_loads_134 ?_
    refine Go.if_lt (tgt := 148) hx hb d_Ref_loads_135 rfl (fun c135 => ?_) (fun c135 => ?_)
    · replace h := (if_pos c135).symm.trans h
      refine Go.iconst (v := 0) hx hb (by decide) d_Ref_loads_148 ?_
      refine Go.bipush (v := 8) hx hb (by decide) d_Ref_loads_149 ?_
      obtain ⟨r20, s20, q20, h⟩ := gb_some h
      refine Go.callVi S hK hA 0 (Rw_0 ad ca _) rfl (fun sz9 => m_Ref_needs l D ad ca N _ sz9 _ _ r20 s20 q20) (cwV 2 hts (gwV k_747 k_749 k_40 k_67 k_750) rfl rfl rfl (by decide +kernel) ⟨Nat.le_of_ble_eq_true rfl, Nat.le_of_ble_eq_true rfl⟩) rfl rfl (Nat.le_of_ble_eq_true rfl) ⟨Nat.zero_le _, Nat.zero_le _⟩ d_Ref_loads_151 ?_
      refine Go.pop hx hb rfl d_Ref_loads_154 ?_
      refine Go.aload_n hx hb 0 rfl d_Ref_loads_155 ?_
      refine Go.get (v := .int (gI s20 16)) hx hb hts in_Ref hown hK 0 (Rw_0 ad ca _) rfl 29 (by decide) (hts _ k_644) (fun _ h9 => h9) rfl d_Ref_loads_156 ?_
      refine Go.if_ne (tgt := 226) hx hb d_Ref_loads_159 rfl (fun c159 => ?_) (fun c159 => ?_)
      · replace h := (if_neg c159).symm.trans h
        exact Go.vret hx hb hr hK hlk h d_Ref_loads_226
      · replace h := (if_pos c159).symm.trans h
        refine Go.aload_n hx hb 0 rfl d_Ref_loads_162 ?_
        refine Go.aload_n hx hb 0 rfl d_Ref_loads_163 ?_
        refine Go.get (v := .ref (ad 11)) hx hb hts in_Ref hown hK 0 (Rw_0 ad ca _) rfl 16 (by decide) (hts _ k_631) (fun _ h9 => h9) rfl d_Ref_loads_164 ?_
        refine Go.bipush (v := 20) hx hb (by decide) d_Ref_loads_167 ?_
        refine Go.aload_n hx hb 0 rfl d_Ref_loads_169 ?_
        refine Go.get (v := .int (gI s20 3)) hx hb hts in_Ref hown hK 0 (Rw_0 ad ca _) rfl 5 (by decide) (hts _ k_620) (fun _ h9 => h9) rfl d_Ref_loads_170 ?_
        refine Go.imul hx hb d_Ref_loads_173 ?_
        refine Go.iload_n hx hb 2 rfl d_Ref_loads_174 ?_
        refine Go.iadd hx hb d_Ref_loads_175 ?_
        obtain ⟨c176, h⟩ := gg_some h
        refine Go.iald (v := gA s20 10 ((20 * (gI s20 3)) + a1).toNatClampNeg) hx hb hK 11 10 (Rw_11 ad ca _) rfl c176 rfl d_Ref_loads_176 ?_
        refine Go.aload_n hx hb 0 rfl d_Ref_loads_177 ?_
        refine Go.get (v := .ref (ad 12)) hx hb hts in_Ref hown hK 0 (Rw_0 ad ca _) rfl 17 (by decide) (hts _ k_632) (fun _ h9 => h9) rfl d_Ref_loads_178 ?_
        refine Go.bipush (v := 20) hx hb (by decide) d_Ref_loads_181 ?_
        refine Go.aload_n hx hb 0 rfl d_Ref_loads_183 ?_
        refine Go.get (v := .int (gI s20 3)) hx hb hts in_Ref hown hK 0 (Rw_0 ad ca _) rfl 5 (by decide) (hts _ k_620) (fun _ h9 => h9) rfl d_Ref_loads_184 ?_
        refine Go.imul hx hb d_Ref_loads_187 ?_
        refine Go.iload_n hx hb 2 rfl d_Ref_loads_188 ?_
        refine Go.iadd hx hb d_Ref_loads_189 ?_
        obtain ⟨c190, h⟩ := gg_some h
        refine Go.iald (v := gA s20 11 ((20 * (gI s20 3)) + a1).toNatClampNeg) hx hb hK 12 11 (Rw_12 ad ca _) rfl c190 rfl d_Ref_loads_190 ?_
        obtain ⟨_, s21, q21, h⟩ := gb_some h
        refine Go.callVv S hK hA 0 (Rw_0 ad ca _) rfl (fun sz9 => m_Ref_acc l D ad ca N _ sz9 _ _ _ s21 q21) (cwV 2 hts (gwV k_739 k_741 k_38 k_67 k_742) rfl rfl rfl (by decide +kernel) ⟨Nat.le_of_ble_eq_true rfl, Nat.le_of_ble_eq_true rfl⟩) rfl rfl (Nat.le_of_ble_eq_true rfl) ⟨Nat.zero_le _, Nat.zero_le _⟩ d_Ref_loads_191 ?_
        refine Go.goto (tgt := 226) hx hb d_Ref_loads_194 rfl ?_
        exact Go.vret hx hb hr hK hlk h d_Ref_loads_226
    · replace h := (if_neg c135).symm.trans h
      refine Go.iload_n hx hb 2 rfl d_Ref_loads_138 ?_
      refine Go.bipush (v := 16) hx hb (by decide) d_Ref_loads_139 ?_
      refine Go.icmp_ge (tgt := 148) hx hb d_Ref_loads_141 rfl (fun c141 => ?_) (fun c141 => ?_)
      · replace h := (if_pos c141).symm.trans h
        refine Go.iconst (v := 0) hx hb (by decide) d_Ref_loads_148 ?_
        refine Go.bipush (v := 8) hx hb (by decide) d_Ref_loads_149 ?_
        obtain ⟨r22, s22, q22, h⟩ := gb_some h
        refine Go.callVi S hK hA 0 (Rw_0 ad ca _) rfl (fun sz9 => m_Ref_needs l D ad ca N _ sz9 _ _ r22 s22 q22) (cwV 2 hts (gwV k_747 k_749 k_40 k_67 k_750) rfl rfl rfl (by decide +kernel) ⟨Nat.le_of_ble_eq_true rfl, Nat.le_of_ble_eq_true rfl⟩) rfl rfl (Nat.le_of_ble_eq_true rfl) ⟨Nat.zero_le _, Nat.zero_le _⟩ d_Ref_loads_151 ?_
        refine Go.pop hx hb rfl d_Ref_loads_154 ?_
        refine Go.aload_n hx hb 0 rfl d_Ref_loads_155 ?_
        refine Go.get (v := .int (gI s22 16)) hx hb hts in_Ref hown hK 0 (Rw_0 ad ca _) rfl 29 (by decide) (hts _ k_644) (fun _ h9 => h9) rfl d_Ref_loads_156 ?_
        refine Go.if_ne (tgt := 226) hx hb d_Ref_loads_159 rfl (fun c159 => ?_) (fun c159 => ?_)
        · replace h := (if_neg c159).symm.trans h
          exact Go.vret hx hb hr hK hlk h d_Ref_loads_226
        · replace h := (if_pos c159).symm.trans h
          refine Go.aload_n hx hb 0 rfl d_Ref_loads_162 ?_
          refine Go.aload_n hx hb 0 rfl d_Ref_loads_163 ?_
          refine Go.get (v := .ref (ad 11)) hx hb hts in_Ref hown hK 0 (Rw_0 ad ca _) rfl 16 (by decide) (hts _ k_631) (fun _ h9 => h9) rfl d_Ref_loads_164 ?_
          refine Go.bipush (v := 20) hx hb (by decide) d_Ref_loads_167 ?_
          refine Go.aload_n hx hb 0 rfl d_Ref_loads_169 ?_
          refine Go.get (v := .int (gI s22 3)) hx hb hts in_Ref hown hK 0 (Rw_0 ad ca _) rfl 5 (by decide) (hts _ k_620) (fun _ h9 => h9) rfl d_Ref_loads_170 ?_
          refine Go.imul hx hb d_Ref_loads_173 ?_
          refine Go.iload_n hx hb 2 rfl d_Ref_loads_174 ?_
          refine Go.iadd hx hb d_Ref_loads_175 ?_
          obtain ⟨c176, h⟩ := gg_some h
          refine Go.iald (v := gA s22 10 ((20 * (gI s22 3)) + a1).toNatClampNeg) hx hb hK 11 10 (Rw_11 ad ca _) rfl c176 rfl d_Ref_loads_176 ?_
          refine Go.aload_n hx hb 0 rfl d_Ref_loads_177 ?_
          refine Go.get (v := .ref (ad 12)) hx hb hts in_Ref hown hK 0 (Rw_0 ad ca _) rfl 17 (by decide) (hts _ k_632) (fun _ h9 => h9) rfl d_Ref_loads_178 ?_
          refine Go.bipush (v := 20) hx hb (by decide) d_Ref_loads_181 ?_
          refine Go.aload_n hx hb 0 rfl d_Ref_loads_183 ?_
          refine Go.get (v := .int (gI s22 3)) hx hb hts in_Ref hown hK 0 (Rw_0 ad ca _) rfl 5 (by decide) (hts _ k_620) (fun _ h9 => h9) rfl d_Ref_loads_184 ?_
          refine Go.imul hx hb d_Ref_loads_187 ?_
          refine Go.iload_n hx hb 2 rfl d_Ref_loads_188 ?_
          refine Go.iadd hx hb d_Ref_loads_189 ?_
          obtain ⟨c190, h⟩ := gg_some h
          refine Go.iald (v := gA s22 11 ((20 * (gI s22 3)) + a1).toNatClampNeg) hx hb hK 12 11 (Rw_12 ad ca _) rfl c190 rfl d_Ref_loads_190 ?_
          obtain ⟨_, s23, q23, h⟩ := gb_some h
          refine Go.callVv S hK hA 0 (Rw_0 ad ca _) rfl (fun sz9 => m_Ref_acc l D ad ca N _ sz9 _ _ _ s23 q23) (cwV 2 hts (gwV k_739 k_741 k_38 k_67 k_742) rfl rfl rfl (by decide +kernel) ⟨Nat.le_of_ble_eq_true rfl, Nat.le_of_ble_eq_true rfl⟩) rfl rfl (Nat.le_of_ble_eq_true rfl) ⟨Nat.zero_le _, Nat.zero_le _⟩ d_Ref_loads_191 ?_
          refine Go.goto (tgt := 226) hx hb d_Ref_loads_194 rfl ?_
          exact Go.vret hx hb hr hK hlk h d_Ref_loads_226
      · replace h := (if_neg c141).symm.trans h
        refine Go.iconst (v := 1) hx hb (by decide) d_Ref_loads_144 ?_
        refine Go.goto (tgt := 149) hx hb d_Ref_loads_145 rfl ?_
        refine Go.bipush (v := 8) hx hb (by decide) d_Ref_loads_149 ?_
        obtain ⟨r24, s24, q24, h⟩ := gb_some h
        refine Go.callVi S hK hA 0 (Rw_0 ad ca _) rfl (fun sz9 => m_Ref_needs l D ad ca N _ sz9 _ _ r24 s24 q24) (cwV 2 hts (gwV k_747 k_749 k_40 k_67 k_750) rfl rfl rfl (by decide +kernel) ⟨Nat.le_of_ble_eq_true rfl, Nat.le_of_ble_eq_true rfl⟩) rfl rfl (Nat.le_of_ble_eq_true rfl) ⟨Nat.zero_le _, Nat.zero_le _⟩ d_Ref_loads_151 ?_
        refine Go.pop hx hb rfl d_Ref_loads_154 ?_
        refine Go.aload_n hx hb 0 rfl d_Ref_loads_155 ?_
        refine Go.get (v := .int (gI s24 16)) hx hb hts in_Ref hown hK 0 (Rw_0 ad ca _) rfl 29 (by decide) (hts _ k_644) (fun _ h9 => h9) rfl d_Ref_loads_156 ?_
        refine Go.if_ne (tgt := 226) hx hb d_Ref_loads_159 rfl (fun c159 => ?_) (fun c159 => ?_)
        · replace h := (if_neg c159).symm.trans h
          exact Go.vret hx hb hr hK hlk h d_Ref_loads_226
        · replace h := (if_pos c159).symm.trans h
          refine Go.aload_n hx hb 0 rfl d_Ref_loads_162 ?_
          refine Go.aload_n hx hb 0 rfl d_Ref_loads_163 ?_
          refine Go.get (v := .ref (ad 11)) hx hb hts in_Ref hown hK 0 (Rw_0 ad ca _) rfl 16 (by decide) (hts _ k_631) (fun _ h9 => h9) rfl d_Ref_loads_164 ?_
          refine Go.bipush (v := 20) hx hb (by decide) d_Ref_loads_167 ?_
          refine Go.aload_n hx hb 0 rfl d_Ref_loads_169 ?_
          refine Go.get (v := .int (gI s24 3)) hx hb hts in_Ref hown hK 0 (Rw_0 ad ca _) rfl 5 (by decide) (hts _ k_620) (fun _ h9 => h9) rfl d_Ref_loads_170 ?_
          refine Go.imul hx hb d_Ref_loads_173 ?_
          refine Go.iload_n hx hb 2 rfl d_Ref_loads_174 ?_
          refine Go.iadd hx hb d_Ref_loads_175 ?_
          obtain ⟨c176, h⟩ := gg_some h
          refine Go.iald (v := gA s24 10 ((20 * (gI s24 3)) + a1).toNatClampNeg) hx hb hK 11 10 (Rw_11 ad ca _) rfl c176 rfl d_Ref_loads_176 ?_
          refine Go.aload_n hx hb 0 rfl d_Ref_loads_177 ?_
          refine Go.get (v := .ref (ad 12)) hx hb hts in_Ref hown hK 0 (Rw_0 ad ca _) rfl 17 (by decide) (hts _ k_632) (fun _ h9 => h9) rfl d_Ref_loads_178 ?_
          refine Go.bipush (v := 20) hx hb (by decide) d_Ref_loads_181 ?_
          refine Go.aload_n hx hb 0 rfl d_Ref_loads_183 ?_
          refine Go.get (v := .int (gI s24 3)) hx hb hts in_Ref hown hK 0 (Rw_0 ad ca _) rfl 5 (by decide) (hts _ k_620) (fun _ h9 => h9) rfl d_Ref_loads_184 ?_
          refine Go.imul hx hb d_Ref_loads_187 ?_
          refine Go.iload_n hx hb 2 rfl d_Ref_loads_188 ?_
          refine Go.iadd hx hb d_Ref_loads_189 ?_
          obtain ⟨c190, h⟩ := gg_some h
          refine Go.iald (v := gA s24 11 ((20 * (gI s24 3)) + a1).toNatClampNeg) hx hb hK 12 11 (Rw_12 ad ca _) rfl c190 rfl d_Ref_loads_190 ?_
          obtain ⟨_, s25, q25, h⟩ := gb_some h
          refine Go.callVv S hK hA 0 (Rw_0 ad ca _) rfl (fun sz9 => m_Ref_acc l D ad ca N _ sz9 _ _ _ s25 q25) (cwV 2 hts (gwV k_739 k_741 k_38 k_67 k_742) rfl rfl rfl (by decide +kernel) ⟨Nat.le_of_ble_eq_true rfl, Nat.le_of_ble_eq_true rfl⟩) rfl rfl (Nat.le_of_ble_eq_true rfl) ⟨Nat.zero_le _, Nat.zero_le _⟩ d_Ref_loads_191 ?_
          refine Go.goto (tgt := 226) hx hb d_Ref_loads_194 rfl ?_
          exact Go.vret hx hb hr hK hlk h d_Ref_loads_226
  replace h := (if_neg c1_2).symm.trans h
  by_cases c1_3 : a0 = 7
  · replace h := (if_pos c1_3).symm.trans h
    refine Go.tin (tgt := 197) (off := 196) hx hb 7 c1_3 d_Ref_loads_1 (by decide) (by decide) rfl rfl ?_
    refine Go.aload_n hx hb 0 rfl d_Ref_loads_197 ?_
    obtain ⟨_, s26, q26, h⟩ := gb_some h
    refine Go.callVv S hK hA 0 (Rw_0 ad ca _) rfl (fun sz9 => m_Ref_element l D ad ca N _ sz9 _ s26 q26) (cwV 0 hts (gwV k_759 k_761 k_43 k_67 k_762) rfl rfl rfl (by decide +kernel) ⟨Nat.le_of_ble_eq_true rfl, Nat.le_of_ble_eq_true rfl⟩) rfl rfl (Nat.le_of_ble_eq_true rfl) ⟨Nat.zero_le _, Nat.zero_le _⟩ d_Ref_loads_198 ?_
    refine Go.goto (tgt := 226) hx hb d_Ref_loads_201 rfl ?_
    exact Go.vret hx hb hr hK hlk h d_Ref_loads_226
  replace h := (if_neg c1_3).symm.trans h
  have n1_0 := lv_neT (a := 4) c1_0 (by decide)
  have n1_1 := lv_neT (a := 5) c1_1 (by decide)
  have n1_2 := lv_neT (a := 6) c1_2 (by decide)
  have n1_3 := lv_neT (a := 7) c1_3 (by decide)
  refine Go.tout (tgt := 204) hx hb d_Ref_loads_1 (by omega) rfl ?_
  refine Go.aload_n hx hb 0 rfl d_Ref_loads_204 ?_
  refine Go.iconst (v := 5) hx hb (by decide) d_Ref_loads_205 ?_
  obtain ⟨r27, s27, q27, h⟩ := gb_some h
  refine Go.callVi S hK hA 0 (Rw_0 ad ca _) rfl (fun sz9 => m_Ref_isAcc l D ad ca N _ sz9 _ r27 s27 q27) (cwV 1 hts (gwV k_755 k_757 k_42 k_67 k_758) rfl rfl rfl (by decide +kernel) ⟨Nat.le_of_ble_eq_true rfl, Nat.le_of_ble_eq_true rfl⟩) rfl rfl (Nat.le_of_ble_eq_true rfl) ⟨Nat.zero_le _, Nat.zero_le _⟩ d_Ref_loads_206 ?_
  refine Go.if_eq (tgt := 226) hx hb d_Ref_loads_209 rfl (fun c209 => ?_) (fun c209 => ?_)
  · replace h := (if_pos c209).symm.trans h
    exact Go.vret hx hb hr hK hlk h d_Ref_loads_226
  · replace h := (if_neg c209).symm.trans h
    refine Go.aload_n hx hb 0 rfl d_Ref_loads_212 ?_
    refine Go.iconst (v := 3) hx hb (by decide) d_Ref_loads_213 ?_
    refine Go.aload_n hx hb 0 rfl d_Ref_loads_214 ?_
    refine Go.get (v := .ref (ad 10)) hx hb hts in_Ref hown hK 0 (Rw_0 ad ca _) rfl 15 (by decide) (hts _ k_630) (fun _ h9 => h9) rfl d_Ref_loads_215 ?_
    refine Go.aload_n hx hb 0 rfl d_Ref_loads_218 ?_
    refine Go.get (v := .int (gI s27 3)) hx hb hts in_Ref hown hK 0 (Rw_0 ad ca _) rfl 5 (by decide) (hts _ k_620) (fun _ h9 => h9) rfl d_Ref_loads_219 ?_
    obtain ⟨c222, h⟩ := gg_some h
    refine Go.iald (v := gA s27 9 (gI s27 3).toNatClampNeg) hx hb hK 10 9 (Rw_10 ad ca _) rfl c222 rfl d_Ref_loads_222 ?_
    obtain ⟨_, s28, q28, h⟩ := gb_some h
    refine Go.callVv S hK hA 0 (Rw_0 ad ca _) rfl (fun sz9 => m_Ref_acc l D ad ca N _ sz9 _ _ _ s28 q28) (cwV 2 hts (gwV k_739 k_741 k_38 k_67 k_742) rfl rfl rfl (by decide +kernel) ⟨Nat.le_of_ble_eq_true rfl, Nat.le_of_ble_eq_true rfl⟩) rfl rfl (Nat.le_of_ble_eq_true rfl) ⟨Nat.zero_le _, Nat.zero_le _⟩ d_Ref_loads_223 ?_
    exact Go.vret hx hb hr hK hlk h d_Ref_loads_226
set_option maxHeartbeats 4000000 in
set_option maxRecDepth 100000 in
theorem m_Ref_puts (l : Launch) (D : va_G) (ad : Nat → Nat) (ca : Nat → ClassId) (N : Nat) (st : SG) (sz : Nat) (a0 : Int32) (a1 : Int32) (r : Unit) (u : SG) (h : fR_ValueMachineModel_puts N st a0 a1 = some (r, u)) : Met l y_Ref_puts (Cond.code y_Ref_puts c_Ref_puts 3 none :: tbl) ({ frames := 0, cells := 0, slots := 0, locals := 0 } : Room) (va_Pc [.ref (ad 0), .int a0, .int a1] (goPre (Rw ad ca) D vwCl (Rtys ca) sz st)) (va_Qv (fun u' => u' = u) (goPost (Rw ad ca) D vwCl (Rtys ca) (va_A (Rw ad ca st) sz)) (va_A (Rw ad ca st) sz)) 0 0 (va_A (Rw ad ca st) sz) := by
  refine go_met (Qc := fun A9 => va_Qv (fun u' => u' = u) (goPost (Rw ad ca) D vwCl (Rtys ca) A9) A9) (cc := c_Ref_puts) (maxL := 3) (ret := none) [(0, .ref (ad 0)), (1, .int a0), (2, .int a1)] (by decide) rfl (Nat.le_of_ble_eq_true rfl) rfl ?_
  intro p e s m below meth c A S hr hlk hK hA hsz
  obtain ⟨hx, hb, hml, hown, hts⟩ := id S
  unfold fR_ValueMachineModel_puts at h
  refine Go.aload_n hx hb 0 rfl d_Ref_puts_0 ?_
  refine Go.get (v := .ref (ad 11)) hx hb hts in_Ref hown hK 0 (Rw_0 ad ca _) rfl 16 (by decide) (hts _ k_631) (fun _ h9 => h9) rfl d_Ref_puts_1 ?_
  refine Go.bipush (v := 20) hx hb (by decide) d_Ref_puts_4 ?_
  refine Go.iload_n hx hb 1 rfl d_Ref_puts_6 ?_
  refine Go.imul hx hb d_Ref_puts_7 ?_
  refine Go.iload_n hx hb 2 rfl d_Ref_puts_8 ?_
  refine Go.iadd hx hb d_Ref_puts_9 ?_
  refine Go.aload_n hx hb 0 rfl d_Ref_puts_10 ?_
  refine Go.get (v := .int (gI st 2)) hx hb hts in_Ref hown hK 0 (Rw_0 ad ca _) rfl 4 (by decide) (hts _ k_619) (fun _ h9 => h9) rfl d_Ref_puts_11 ?_
  obtain ⟨c14, h⟩ := gg_some h
  refine Go.iast hx hb hK 11 10 (Rw_11 ad ca _) rfl c14 (uA st 10 (upd (gA st 10) ((20 * a0) + a1).toNatClampNeg (gI st 2))) (Rs_A10 ad ca _ _) d_Ref_puts_14 ?_
  refine Go.aload_n hx hb 0 rfl d_Ref_puts_15 ?_
  refine Go.get (v := .ref (ad 12)) hx hb hts in_Ref hown hK 0 (Rw_0 ad ca _) rfl 17 (by decide) (hts _ k_632) (fun _ h9 => h9) rfl d_Ref_puts_16 ?_
  refine Go.bipush (v := 20) hx hb (by decide) d_Ref_puts_19 ?_
  refine Go.iload_n hx hb 1 rfl d_Ref_puts_21 ?_
  refine Go.imul hx hb d_Ref_puts_22 ?_
  refine Go.iload_n hx hb 2 rfl d_Ref_puts_23 ?_
  refine Go.iadd hx hb d_Ref_puts_24 ?_
  refine Go.aload_n hx hb 0 rfl d_Ref_puts_25 ?_
  refine Go.get (v := .int (gI st 3)) hx hb hts in_Ref hown hK 0 (Rw_0 ad ca _) rfl 5 (by decide) (hts _ k_620) (fun _ h9 => h9) rfl d_Ref_puts_26 ?_
  obtain ⟨c29, h⟩ := gg_some h
  refine Go.iast hx hb hK 12 11 (Rw_12 ad ca _) rfl c29 (uA (uA st 10 (upd (gA st 10) ((20 * a0) + a1).toNatClampNeg (gI st 2))) 11 (upd (gA st 11) ((20 * a0) + a1).toNatClampNeg (gI st 3))) (Rs_A11 ad ca _ _) d_Ref_puts_29 ?_
  exact Go.vret hx hb hr hK hlk h d_Ref_puts_30
set_option maxHeartbeats 4000000 in
set_option maxRecDepth 100000 in
theorem m_Ref_stores (l : Launch) (D : va_G) (ad : Nat → Nat) (ca : Nat → ClassId) (N : Nat) (st : SG) (sz : Nat) (a0 : Int32) (a1 : Int32) (r : Unit) (u : SG) (h : fR_ValueMachineModel_stores N st a0 a1 = some (r, u)) : Met l y_Ref_stores (Cond.code y_Ref_stores c_Ref_stores 3 none :: tbl) ({ frames := 2, cells := 0, slots := 0, locals := 44 } : Room) (va_Pc [.ref (ad 0), .int a0, .int a1] (goPre (Rw ad ca) D vwCl (Rtys ca) sz st)) (va_Qv (fun u' => u' = u) (goPost (Rw ad ca) D vwCl (Rtys ca) (va_A (Rw ad ca st) sz)) (va_A (Rw ad ca st) sz)) 0 0 (va_A (Rw ad ca st) sz) := by
  refine go_met (Qc := fun A9 => va_Qv (fun u' => u' = u) (goPost (Rw ad ca) D vwCl (Rtys ca) A9) A9) (cc := c_Ref_stores) (maxL := 3) (ret := none) [(0, .ref (ad 0)), (1, .int a0), (2, .int a1)] (by decide) rfl (Nat.le_of_ble_eq_true rfl) rfl ?_
  intro p e s m below meth c A S hr hlk hK hA hsz
  obtain ⟨hx, hb, hml, hown, hts⟩ := id S
  unfold fR_ValueMachineModel_stores at h
  refine Go.iload_n hx hb 1 rfl d_Ref_stores_0 ?_
  by_cases c1_0 : a0 = 9
  · replace h := (if_pos c1_0).symm.trans h
    refine Go.tin (tgt := 36) (off := 35) hx hb 9 c1_0 d_Ref_stores_1 (by decide) (by decide) rfl rfl ?_
    refine Go.aload_n hx hb 0 rfl d_Ref_stores_36 ?_
    refine Go.iload_n hx hb 2 rfl d_Ref_stores_37 ?_
    refine Go.if_lt (tgt := 53) hx hb d_Ref_stores_38 rfl (fun c38 => ?_) (fun c38 => ?_)
    · replace h := (if_pos c38).symm.trans h
      refine Go.iconst (v := 0) hx hb (by decide) d_Ref_stores_53 ?_
      refine Go.iconst (v := 3) hx hb (by decide) d_Ref_stores_54 ?_
      obtain ⟨r1, s1, q1, h⟩ := gb_some h
      refine Go.callVi S hK hA 0 (Rw_0 ad ca _) rfl (fun sz9 => m_Ref_needs l D ad ca N _ sz9 _ _ r1 s1 q1) (cwV 2 hts (gwV k_747 k_749 k_40 k_67 k_750) rfl rfl rfl (by decide +kernel) ⟨Nat.le_of_ble_eq_true rfl, Nat.le_of_ble_eq_true rfl⟩) rfl rfl (Nat.le_of_ble_eq_true rfl) ⟨Nat.zero_le _, Nat.zero_le _⟩ d_Ref_stores_55 ?_
      refine Go.if_eq (tgt := 422) hx hb d_Ref_stores_58 rfl (fun c58 => ?_) (fun c58 => ?_)
      · replace h := (if_pos c58).symm.trans h
        exact Go.vret hx hb hr hK hlk h d_Ref_stores_422
      · replace h := (if_neg c58).symm.trans h
        refine Go.aload_n hx hb 0 rfl d_Ref_stores_61 ?_
        refine Go.get (v := .ref (ad 3)) hx hb hts in_Ref hown hK 0 (Rw_0 ad ca _) rfl 6 (by decide) (hts _ k_621) (fun _ h9 => h9) rfl d_Ref_stores_62 ?_
        refine Go.aload_n hx hb 0 rfl d_Ref_stores_65 ?_
        refine Go.iload_n hx hb 2 rfl d_Ref_stores_66 ?_
        obtain ⟨r2, s2, q2, h⟩ := gb_some h
        refine Go.callVi S hK hA 0 (Rw_0 ad ca _) rfl (fun sz9 => m_Ref_deep l D ad ca N _ sz9 _ r2 s2 q2) (cwV 1 hts (gwV k_751 k_753 k_41 k_67 k_754) rfl rfl rfl (by decide +kernel) ⟨Nat.le_of_ble_eq_true rfl, Nat.le_of_ble_eq_true rfl⟩) rfl rfl (Nat.le_of_ble_eq_true rfl) ⟨Nat.zero_le _, Nat.zero_le _⟩ d_Ref_stores_67 ?_
        refine Go.aload_n hx hb 0 rfl d_Ref_stores_70 ?_
        refine Go.get (v := .int (gI s2 2)) hx hb hts in_Ref hown hK 0 (Rw_0 ad ca _) rfl 4 (by decide) (hts _ k_619) (fun _ h9 => h9) rfl d_Ref_stores_71 ?_
        obtain ⟨c74, h⟩ := gg_some h
        refine Go.iast hx hb hK 3 2 (Rw_3 ad ca _) rfl c74 (uA s2 2 (upd (gA s2 2) r2.toNatClampNeg (gI s2 2))) (Rs_A2 ad ca _ _) d_Ref_stores_74 ?_
        refine Go.aload_n hx hb 0 rfl d_Ref_stores_75 ?_
        refine Go.get (v := .ref (ad 4)) hx hb hts in_Ref hown hK 0 (Rw_0 ad ca _) rfl 7 (by decide) (hts _ k_622) (fun _ h9 => h9) rfl d_Ref_stores_76 ?_
        refine Go.aload_n hx hb 0 rfl d_Ref_stores_79 ?_
        refine Go.iload_n hx hb 2 rfl d_Ref_stores_80 ?_
        obtain ⟨r3, s3, q3, h⟩ := gb_some h
        refine Go.callVi S hK hA 0 (Rw_0 ad ca _) rfl (fun sz9 => m_Ref_deep l D ad ca N _ sz9 _ r3 s3 q3) (cwV 1 hts (gwV k_751 k_753 k_41 k_67 k_754) rfl rfl rfl (by decide +kernel) ⟨Nat.le_of_ble_eq_true rfl, Nat.le_of_ble_eq_true rfl⟩) rfl rfl (Nat.le_of_ble_eq_true rfl) ⟨Nat.zero_le _, Nat.zero_le _⟩ d_Ref_stores_81 ?_
        refine Go.aload_n hx hb 0 rfl d_Ref_stores_84 ?_
        refine Go.get (v := .int (gI s3 3)) hx hb hts in_Ref hown hK 0 (Rw_0 ad ca _) rfl 5 (by decide) (hts _ k_620) (fun _ h9 => h9) rfl d_Ref_stores_85 ?_
        obtain ⟨c88, h⟩ := gg_some h
        refine Go.iast hx hb hK 4 3 (Rw_4 ad ca _) rfl c88 (uA s3 3 (upd (gA s3 3) r3.toNatClampNeg (gI s3 3))) (Rs_A3 ad ca _ _) d_Ref_stores_88 ?_
        refine Go.goto (tgt := 422) hx hb d_Ref_stores_89 rfl ?_
        exact Go.vret hx hb hr hK hlk h d_Ref_stores_422
    · replace h := (if_neg c38).symm.trans h
      refine Go.iload_n hx hb 2 rfl d_Ref_stores_41 ?_
      refine Go.aload_n hx hb 0 rfl d_Ref_stores_42 ?_
      refine Go.get (v := .int (gI st 4)) hx hb hts in_Ref hown hK 0 (Rw_0 ad ca _) rfl 8 (by decide) (hts _ k_623) (fun _ h9 => h9) rfl d_Ref_stores_43 ?_
      refine Go.icmp_ge (tgt := 53) hx hb d_Ref_stores_46 rfl (fun c46 => ?_) (fun c46 => ?_)
      · replace h := (if_pos c46).symm.trans h
        refine Go.iconst (v := 0) hx hb (by decide) d_Ref_stores_53 ?_
        refine Go.iconst (v := 3) hx hb (by decide) d_Ref_stores_54 ?_
        obtain ⟨r4, s4, q4, h⟩ := gb_some h
        refine Go.callVi S hK hA 0 (Rw_0 ad ca _) rfl (fun sz9 => m_Ref_needs l D ad ca N _ sz9 _ _ r4 s4 q4) (cwV 2 hts (gwV k_747 k_749 k_40 k_67 k_750) rfl rfl rfl (by decide +kernel) ⟨Nat.le_of_ble_eq_true rfl, Nat.le_of_ble_eq_true rfl⟩) rfl rfl (Nat.le_of_ble_eq_true rfl) ⟨Nat.zero_le _, Nat.zero_le _⟩ d_Ref_stores_55 ?_
        refine Go.if_eq (tgt := 422) hx hb d_Ref_stores_58 rfl (fun c58 => ?_) (fun c58 => ?_)
        · replace h := (if_pos c58).symm.trans h
          exact Go.vret hx hb hr hK hlk h d_Ref_stores_422
        · replace h := (if_neg c58).symm.trans h
          refine Go.aload_n hx hb 0 rfl d_Ref_stores_61 ?_
          refine Go.get (v := .ref (ad 3)) hx hb hts in_Ref hown hK 0 (Rw_0 ad ca _) rfl 6 (by decide) (hts _ k_621) (fun _ h9 => h9) rfl d_Ref_stores_62 ?_
          refine Go.aload_n hx hb 0 rfl d_Ref_stores_65 ?_
          refine Go.iload_n hx hb 2 rfl d_Ref_stores_66 ?_
          obtain ⟨r5, s5, q5, h⟩ := gb_some h
          refine Go.callVi S hK hA 0 (Rw_0 ad ca _) rfl (fun sz9 => m_Ref_deep l D ad ca N _ sz9 _ r5 s5 q5) (cwV 1 hts (gwV k_751 k_753 k_41 k_67 k_754) rfl rfl rfl (by decide +kernel) ⟨Nat.le_of_ble_eq_true rfl, Nat.le_of_ble_eq_true rfl⟩) rfl rfl (Nat.le_of_ble_eq_true rfl) ⟨Nat.zero_le _, Nat.zero_le _⟩ d_Ref_stores_67 ?_
          refine Go.aload_n hx hb 0 rfl d_Ref_stores_70 ?_
          refine Go.get (v := .int (gI s5 2)) hx hb hts in_Ref hown hK 0 (Rw_0 ad ca _) rfl 4 (by decide) (hts _ k_619) (fun _ h9 => h9) rfl d_Ref_stores_71 ?_
          obtain ⟨c74, h⟩ := gg_some h
          refine Go.iast hx hb hK 3 2 (Rw_3 ad ca _) rfl c74 (uA s5 2 (upd (gA s5 2) r5.toNatClampNeg (gI s5 2))) (Rs_A2 ad ca _ _) d_Ref_stores_74 ?_
          refine Go.aload_n hx hb 0 rfl d_Ref_stores_75 ?_
          refine Go.get (v := .ref (ad 4)) hx hb hts in_Ref hown hK 0 (Rw_0 ad ca _) rfl 7 (by decide) (hts _ k_622) (fun _ h9 => h9) rfl d_Ref_stores_76 ?_
          refine Go.aload_n hx hb 0 rfl d_Ref_stores_79 ?_
          refine Go.iload_n hx hb 2 rfl d_Ref_stores_80 ?_
          obtain ⟨r6, s6, q6, h⟩ := gb_some h
          refine Go.callVi S hK hA 0 (Rw_0 ad ca _) rfl (fun sz9 => m_Ref_deep l D ad ca N _ sz9 _ r6 s6 q6) (cwV 1 hts (gwV k_751 k_753 k_41 k_67 k_754) rfl rfl rfl (by decide +kernel) ⟨Nat.le_of_ble_eq_true rfl, Nat.le_of_ble_eq_true rfl⟩) rfl rfl (Nat.le_of_ble_eq_true rfl) ⟨Nat.zero_le _, Nat.zero_le _⟩ d_Ref_stores_81 ?_
          refine Go.aload_n hx hb 0 rfl d_Ref_stores_84 ?_
          refine Go.get (v := .int (gI s6 3)) hx hb hts in_Ref hown hK 0 (Rw_0 ad ca _) rfl 5 (by decide) (hts _ k_620) (fun _ h9 => h9) rfl d_Ref_stores_85 ?_
          obtain ⟨c88, h⟩ := gg_some h
          refine Go.iast hx hb hK 4 3 (Rw_4 ad ca _) rfl c88 (uA s6 3 (upd (gA s6 3) r6.toNatClampNeg (gI s6 3))) (Rs_A3 ad ca _ _) d_Ref_stores_88 ?_
          refine Go.goto (tgt := 422) hx hb d_Ref_stores_89 rfl ?_
          exact Go.vret hx hb hr hK hlk h d_Ref_stores_422
      · replace h := (if_neg c46).symm.trans h
        refine Go.iconst (v := 1) hx hb (by decide) d_Ref_stores_49 ?_
        refine Go.goto (tgt := 54) hx hb d_Ref_stores_50 rfl ?_
        refine Go.iconst (v := 3) hx hb (by decide) d_Ref_stores_54 ?_
        obtain ⟨r7, s7, q7, h⟩ := gb_some h
        refine Go.callVi S hK hA 0 (Rw_0 ad ca _) rfl (fun sz9 => m_Ref_needs l D ad ca N _ sz9 _ _ r7 s7 q7) (cwV 2 hts (gwV k_747 k_749 k_40 k_67 k_750) rfl rfl rfl (by decide +kernel) ⟨Nat.le_of_ble_eq_true rfl, Nat.le_of_ble_eq_true rfl⟩) rfl rfl (Nat.le_of_ble_eq_true rfl) ⟨Nat.zero_le _, Nat.zero_le _⟩ d_Ref_stores_55 ?_
        refine Go.if_eq (tgt := 422) hx hb d_Ref_stores_58 rfl (fun c58 => ?_) (fun c58 => ?_)
        · replace h := (if_pos c58).symm.trans h
          exact Go.vret hx hb hr hK hlk h d_Ref_stores_422
        · replace h := (if_neg c58).symm.trans h
          refine Go.aload_n hx hb 0 rfl d_Ref_stores_61 ?_
          refine Go.get (v := .ref (ad 3)) hx hb hts in_Ref hown hK 0 (Rw_0 ad ca _) rfl 6 (by decide) (hts _ k_621) (fun _ h9 => h9) rfl d_Ref_stores_62 ?_
          refine Go.aload_n hx hb 0 rfl d_Ref_stores_65 ?_
          refine Go.iload_n hx hb 2 rfl d_Ref_stores_66 ?_
          obtain ⟨r8, s8, q8, h⟩ := gb_some h
          refine Go.callVi S hK hA 0 (Rw_0 ad ca _) rfl (fun sz9 => m_Ref_deep l D ad ca N _ sz9 _ r8 s8 q8) (cwV 1 hts (gwV k_751 k_753 k_41 k_67 k_754) rfl rfl rfl (by decide +kernel) ⟨Nat.le_of_ble_eq_true rfl, Nat.le_of_ble_eq_true rfl⟩) rfl rfl (Nat.le_of_ble_eq_true rfl) ⟨Nat.zero_le _, Nat.zero_le _⟩ d_Ref_stores_67 ?_
          refine Go.aload_n hx hb 0 rfl d_Ref_stores_70 ?_
          refine Go.get (v := .int (gI s8 2)) hx hb hts in_Ref hown hK 0 (Rw_0 ad ca _) rfl 4 (by decide) (hts _ k_619) (fun _ h9 => h9) rfl d_Ref_stores_71 ?_
          obtain ⟨c74, h⟩ := gg_some h
          refine Go.iast hx hb hK 3 2 (Rw_3 ad ca _) rfl c74 (uA s8 2 (upd (gA s8 2) r8.toNatClampNeg (gI s8 2))) (Rs_A2 ad ca _ _) d_Ref_stores_74 ?_
          refine Go.aload_n hx hb 0 rfl d_Ref_stores_75 ?_
          refine Go.get (v := .ref (ad 4)) hx hb hts in_Ref hown hK 0 (Rw_0 ad ca _) rfl 7 (by decide) (hts _ k_622) (fun _ h9 => h9) rfl d_Ref_stores_76 ?_
          refine Go.aload_n hx hb 0 rfl d_Ref_stores_79 ?_
          refine Go.iload_n hx hb 2 rfl d_Ref_stores_80 ?_
          obtain ⟨r9, s9, q9, h⟩ := gb_some h
          refine Go.callVi S hK hA 0 (Rw_0 ad ca _) rfl (fun sz9 => m_Ref_deep l D ad ca N _ sz9 _ r9 s9 q9) (cwV 1 hts (gwV k_751 k_753 k_41 k_67 k_754) rfl rfl rfl (by decide +kernel) ⟨Nat.le_of_ble_eq_true rfl, Nat.le_of_ble_eq_true rfl⟩) rfl rfl (Nat.le_of_ble_eq_true rfl) ⟨Nat.zero_le _, Nat.zero_le _⟩ d_Ref_stores_81 ?_
          refine Go.aload_n hx hb 0 rfl d_Ref_stores_84 ?_
          refine Go.get (v := .int (gI s9 3)) hx hb hts in_Ref hown hK 0 (Rw_0 ad ca _) rfl 5 (by decide) (hts _ k_620) (fun _ h9 => h9) rfl d_Ref_stores_85 ?_
          obtain ⟨c88, h⟩ := gg_some h
          refine Go.iast hx hb hK 4 3 (Rw_4 ad ca _) rfl c88 (uA s9 3 (upd (gA s9 3) r9.toNatClampNeg (gI s9 3))) (Rs_A3 ad ca _ _) d_Ref_stores_88 ?_
          refine Go.goto (tgt := 422) hx hb d_Ref_stores_89 rfl ?_
          exact Go.vret hx hb hr hK hlk h d_Ref_stores_422
  replace h := (if_neg c1_0).symm.trans h
  by_cases c1_1 : a0 = 10
  · replace h := (if_pos c1_1).symm.trans h
    refine Go.tin (tgt := 92) (off := 91) hx hb 10 c1_1 d_Ref_stores_1 (by decide) (by decide) rfl rfl ?_
    refine Go.aload_n hx hb 0 rfl d_Ref_stores_92 ?_
    refine Go.iload_n hx hb 2 rfl d_Ref_stores_93 ?_
    refine Go.if_lt (tgt := 107) hx hb d_Ref_stores_94 rfl (fun c94 => ?_) (fun c94 => ?_)
    · replace h := (if_pos c94).symm.trans h
      refine Go.iconst (v := 0) hx hb (by decide) d_Ref_stores_107 ?_
      refine Go.bipush (v := 8) hx hb (by decide) d_Ref_stores_108 ?_
      obtain ⟨r10, s10, q10, h⟩ := gb_some h
      refine Go.callVi S hK hA 0 (Rw_0 ad ca _) rfl (fun sz9 => m_Ref_needs l D ad ca N _ sz9 _ _ r10 s10 q10) (cwV 2 hts (gwV k_747 k_749 k_40 k_67 k_750) rfl rfl rfl (by decide +kernel) ⟨Nat.le_of_ble_eq_true rfl, Nat.le_of_ble_eq_true rfl⟩) rfl rfl (Nat.le_of_ble_eq_true rfl) ⟨Nat.zero_le _, Nat.zero_le _⟩ d_Ref_stores_110 ?_
      refine Go.if_eq (tgt := 422) hx hb d_Ref_stores_113 rfl (fun c113 => ?_) (fun c113 => ?_)
      · replace h := (if_pos c113).symm.trans h
        exact Go.vret hx hb hr hK hlk h d_Ref_stores_422
      · replace h := (if_neg c113).symm.trans h
        refine Go.aload_n hx hb 0 rfl d_Ref_stores_116 ?_
        refine Go.get (v := .ref (ad 5)) hx hb hts in_Ref hown hK 0 (Rw_0 ad ca _) rfl 9 (by decide) (hts _ k_624) (fun _ h9 => h9) rfl d_Ref_stores_117 ?_
        refine Go.iload_n hx hb 2 rfl d_Ref_stores_120 ?_
        refine Go.aload_n hx hb 0 rfl d_Ref_stores_121 ?_
        refine Go.get (v := .int (gI s10 2)) hx hb hts in_Ref hown hK 0 (Rw_0 ad ca _) rfl 4 (by decide) (hts _ k_619) (fun _ h9 => h9) rfl d_Ref_stores_122 ?_
        obtain ⟨c125, h⟩ := gg_some h
        refine Go.iast hx hb hK 5 4 (Rw_5 ad ca _) rfl c125 (uA s10 4 (upd (gA s10 4) a1.toNatClampNeg (gI s10 2))) (Rs_A4 ad ca _ _) d_Ref_stores_125 ?_
        refine Go.aload_n hx hb 0 rfl d_Ref_stores_126 ?_
        refine Go.get (v := .ref (ad 6)) hx hb hts in_Ref hown hK 0 (Rw_0 ad ca _) rfl 10 (by decide) (hts _ k_625) (fun _ h9 => h9) rfl d_Ref_stores_127 ?_
        refine Go.iload_n hx hb 2 rfl d_Ref_stores_130 ?_
        refine Go.aload_n hx hb 0 rfl d_Ref_stores_131 ?_
        refine Go.get (v := .int (gI s10 3)) hx hb hts in_Ref hown hK 0 (Rw_0 ad ca _) rfl 5 (by decide) (hts _ k_620) (fun _ h9 => h9) rfl d_Ref_stores_132 ?_
        obtain ⟨c135, h⟩ := gg_some h
        refine Go.iast hx hb hK 6 5 (Rw_6 ad ca _) rfl c135 (uA (uA s10 4 (upd (gA s10 4) a1.toNatClampNeg (gI s10 2))) 5 (upd (gA s10 5) a1.toNatClampNeg (gI s10 3))) (Rs_A5 ad ca _ _) d_Ref_stores_135 ?_
        refine Go.goto (tgt := 422) hx hb d_Ref_stores_136 rfl ?_
        exact Go.vret hx hb hr hK hlk h d_Ref_stores_422
    · replace h := (if_neg c94).symm.trans h
      refine Go.iload_n hx hb 2 rfl d_Ref_stores_97 ?_
      refine Go.bipush (v := 8) hx hb (by decide) d_Ref_stores_98 ?_
      refine Go.icmp_ge (tgt := 107) hx hb d_Ref_stores_100 rfl (fun c100 => ?_) (fun c100 => ?_)
      · replace h := (if_pos c100).symm.trans h
        refine Go.iconst (v := 0) hx hb (by decide) d_Ref_stores_107 ?_
        refine Go.bipush (v := 8) hx hb (by decide) d_Ref_stores_108 ?_
        obtain ⟨r11, s11, q11, h⟩ := gb_some h
        refine Go.callVi S hK hA 0 (Rw_0 ad ca _) rfl (fun sz9 => m_Ref_needs l D ad ca N _ sz9 _ _ r11 s11 q11) (cwV 2 hts (gwV k_747 k_749 k_40 k_67 k_750) rfl rfl rfl (by decide +kernel) ⟨Nat.le_of_ble_eq_true rfl, Nat.le_of_ble_eq_true rfl⟩) rfl rfl (Nat.le_of_ble_eq_true rfl) ⟨Nat.zero_le _, Nat.zero_le _⟩ d_Ref_stores_110 ?_
        refine Go.if_eq (tgt := 422) hx hb d_Ref_stores_113 rfl (fun c113 => ?_) (fun c113 => ?_)
        · replace h := (if_pos c113).symm.trans h
          exact Go.vret hx hb hr hK hlk h d_Ref_stores_422
        · replace h := (if_neg c113).symm.trans h
          refine Go.aload_n hx hb 0 rfl d_Ref_stores_116 ?_
          refine Go.get (v := .ref (ad 5)) hx hb hts in_Ref hown hK 0 (Rw_0 ad ca _) rfl 9 (by decide) (hts _ k_624) (fun _ h9 => h9) rfl d_Ref_stores_117 ?_
          refine Go.iload_n hx hb 2 rfl d_Ref_stores_120 ?_
          refine Go.aload_n hx hb 0 rfl d_Ref_stores_121 ?_
          refine Go.get (v := .int (gI s11 2)) hx hb hts in_Ref hown hK 0 (Rw_0 ad ca _) rfl 4 (by decide) (hts _ k_619) (fun _ h9 => h9) rfl d_Ref_stores_122 ?_
          obtain ⟨c125, h⟩ := gg_some h
          refine Go.iast hx hb hK 5 4 (Rw_5 ad ca _) rfl c125 (uA s11 4 (upd (gA s11 4) a1.toNatClampNeg (gI s11 2))) (Rs_A4 ad ca _ _) d_Ref_stores_125 ?_
          refine Go.aload_n hx hb 0 rfl d_Ref_stores_126 ?_
          refine Go.get (v := .ref (ad 6)) hx hb hts in_Ref hown hK 0 (Rw_0 ad ca _) rfl 10 (by decide) (hts _ k_625) (fun _ h9 => h9) rfl d_Ref_stores_127 ?_
          refine Go.iload_n hx hb 2 rfl d_Ref_stores_130 ?_
          refine Go.aload_n hx hb 0 rfl d_Ref_stores_131 ?_
          refine Go.get (v := .int (gI s11 3)) hx hb hts in_Ref hown hK 0 (Rw_0 ad ca _) rfl 5 (by decide) (hts _ k_620) (fun _ h9 => h9) rfl d_Ref_stores_132 ?_
          obtain ⟨c135, h⟩ := gg_some h
          refine Go.iast hx hb hK 6 5 (Rw_6 ad ca _) rfl c135 (uA (uA s11 4 (upd (gA s11 4) a1.toNatClampNeg (gI s11 2))) 5 (upd (gA s11 5) a1.toNatClampNeg (gI s11 3))) (Rs_A5 ad ca _ _) d_Ref_stores_135 ?_
          refine Go.goto (tgt := 422) hx hb d_Ref_stores_136 rfl ?_
          exact Go.vret hx hb hr hK hlk h d_Ref_stores_422
      · replace h := (if_neg c100).symm.trans h
        refine Go.iconst (v := 1) hx hb (by decide) d_Ref_stores_103 ?_
        refine Go.goto (tgt := 108) hx hb d_Ref_stores_104 rfl ?_
        refine Go.bipush (v := 8) hx hb (by decide) d_Ref_stores_108 ?_
        obtain ⟨r12, s12, q12, h⟩ := gb_some h
        refine Go.callVi S hK hA 0 (Rw_0 ad ca _) rfl (fun sz9 => m_Ref_needs l D ad ca N _ sz9 _ _ r12 s12 q12) (cwV 2 hts (gwV k_747 k_749 k_40 k_67 k_750) rfl rfl rfl (by decide +kernel) ⟨Nat.le_of_ble_eq_true rfl, Nat.le_of_ble_eq_true rfl⟩) rfl rfl (Nat.le_of_ble_eq_true rfl) ⟨Nat.zero_le _, Nat.zero_le _⟩ d_Ref_stores_110 ?_
        refine Go.if_eq (tgt := 422) hx hb d_Ref_stores_113 rfl (fun c113 => ?_) (fun c113 => ?_)
        · replace h := (if_pos c113).symm.trans h
          exact Go.vret hx hb hr hK hlk h d_Ref_stores_422
        · replace h := (if_neg c113).symm.trans h
          refine Go.aload_n hx hb 0 rfl d_Ref_stores_116 ?_
          refine Go.get (v := .ref (ad 5)) hx hb hts in_Ref hown hK 0 (Rw_0 ad ca _) rfl 9 (by decide) (hts _ k_624) (fun _ h9 => h9) rfl d_Ref_stores_117 ?_
          refine Go.iload_n hx hb 2 rfl d_Ref_stores_120 ?_
          refine Go.aload_n hx hb 0 rfl d_Ref_stores_121 ?_
          refine Go.get (v := .int (gI s12 2)) hx hb hts in_Ref hown hK 0 (Rw_0 ad ca _) rfl 4 (by decide) (hts _ k_619) (fun _ h9 => h9) rfl d_Ref_stores_122 ?_
          obtain ⟨c125, h⟩ := gg_some h
          refine Go.iast hx hb hK 5 4 (Rw_5 ad ca _) rfl c125 (uA s12 4 (upd (gA s12 4) a1.toNatClampNeg (gI s12 2))) (Rs_A4 ad ca _ _) d_Ref_stores_125 ?_
          refine Go.aload_n hx hb 0 rfl d_Ref_stores_126 ?_
          refine Go.get (v := .ref (ad 6)) hx hb hts in_Ref hown hK 0 (Rw_0 ad ca _) rfl 10 (by decide) (hts _ k_625) (fun _ h9 => h9) rfl d_Ref_stores_127 ?_
          refine Go.iload_n hx hb 2 rfl d_Ref_stores_130 ?_
          refine Go.aload_n hx hb 0 rfl d_Ref_stores_131 ?_
          refine Go.get (v := .int (gI s12 3)) hx hb hts in_Ref hown hK 0 (Rw_0 ad ca _) rfl 5 (by decide) (hts _ k_620) (fun _ h9 => h9) rfl d_Ref_stores_132 ?_
          obtain ⟨c135, h⟩ := gg_some h
          refine Go.iast hx hb hK 6 5 (Rw_6 ad ca _) rfl c135 (uA (uA s12 4 (upd (gA s12 4) a1.toNatClampNeg (gI s12 2))) 5 (upd (gA s12 5) a1.toNatClampNeg (gI s12 3))) (Rs_A5 ad ca _ _) d_Ref_stores_135 ?_
          refine Go.goto (tgt := 422) hx hb d_Ref_stores_136 rfl ?_
          exact Go.vret hx hb hr hK hlk h d_Ref_stores_422
  replace h := (if_neg c1_1).symm.trans h
  by_cases c1_2 : a0 = 11
  · replace h := (if_pos c1_2).symm.trans h
    refine Go.tin (tgt := 139) (off := 138) hx hb 11 c1_2 d_Ref_stores_1 (by decide) (by decide) rfl rfl ?_
    refine Go.aload_n hx hb 0 rfl d_Ref_stores_139 ?_
    refine Go.iload_n hx hb 2 rfl d_Ref_stores_140 ?_
    refine Go.if_lt (tgt := 154) hx hb d_Ref_stores_141 rfl (fun c141 => ?_) (fun c141 => ?_)
    · replace h := (if_pos c141).symm.trans h
      refine Go.iconst (v := 0) hx hb (by decide) d_Ref_stores_154 ?_
      refine Go.bipush (v := 8) hx hb (by decide) d_Ref_stores_155 ?_
      obtain ⟨r13, s13, q13, h⟩ := gb_some h
      refine Go.callVi S hK hA 0 (Rw_0 ad ca _) rfl (fun sz9 => m_Ref_needs l D ad ca N _ sz9 _ _ r13 s13 q13) (cwV 2 hts (gwV k_747 k_749 k_40 k_67 k_750) rfl rfl rfl (by decide +kernel) ⟨Nat.le_of_ble_eq_true rfl, Nat.le_of_ble_eq_true rfl⟩) rfl rfl (Nat.le_of_ble_eq_true rfl) ⟨Nat.zero_le _, Nat.zero_le _⟩ d_Ref_stores_157 ?_
      refine Go.pop hx hb rfl d_Ref_stores_160 ?_
      refine Go.aload_n hx hb 0 rfl d_Ref_stores_161 ?_
      refine Go.iconst (v := 1) hx hb (by decide) d_Ref_stores_162 ?_
      obtain ⟨r14, s14, q14, h⟩ := gb_some h
      refine Go.callVi S hK hA 0 (Rw_0 ad ca _) rfl (fun sz9 => m_Ref_has l D ad ca N _ sz9 _ r14 s14 q14) (cwV 1 hts (gwV k_763 k_765 k_44 k_67 k_766) rfl rfl rfl (by decide +kernel) ⟨Nat.le_of_ble_eq_true rfl, Nat.le_of_ble_eq_true rfl⟩) rfl rfl (Nat.le_of_ble_eq_true rfl) ⟨Nat.zero_le _, Nat.zero_le _⟩ d_Ref_stores_163 ?_
      refine Go.if_eq (tgt := 176) hx hb d_Ref_stores_166 rfl (fun c166 => ?_) (fun c166 => ?_)
      · replace h := (if_pos c166).symm.trans h
        refine Go.aload_n hx hb 0 rfl d_Ref_stores_176 ?_
        refine Go.get (v := .int (gI s14 16)) hx hb hts in_Ref hown hK 0 (Rw_0 ad ca _) rfl 29 (by decide) (hts _ k_644) (fun _ h9 => h9) rfl d_Ref_stores_177 ?_
        refine Go.if_ne (tgt := 422) hx hb d_Ref_stores_180 rfl (fun c180 => ?_) (fun c180 => ?_)
        · replace h := (if_neg c180).symm.trans h
          exact Go.vret hx hb hr hK hlk h d_Ref_stores_422
        · replace h := (if_pos c180).symm.trans h
          refine Go.aload_n hx hb 0 rfl d_Ref_stores_183 ?_
          refine Go.aload_n hx hb 0 rfl d_Ref_stores_184 ?_
          refine Go.get (v := .ref (ad 4)) hx hb hts in_Ref hown hK 0 (Rw_0 ad ca _) rfl 7 (by decide) (hts _ k_622) (fun _ h9 => h9) rfl d_Ref_stores_185 ?_
          refine Go.aload_n hx hb 0 rfl d_Ref_stores_188 ?_
          refine Go.iconst (v := 0) hx hb (by decide) d_Ref_stores_189 ?_
          obtain ⟨r15, s15, q15, h⟩ := gb_some h
          refine Go.callVi S hK hA 0 (Rw_0 ad ca _) rfl (fun sz9 => m_Ref_deep l D ad ca N _ sz9 _ r15 s15 q15) (cwV 1 hts (gwV k_751 k_753 k_41 k_67 k_754) rfl rfl rfl (by decide +kernel) ⟨Nat.le_of_ble_eq_true rfl, Nat.le_of_ble_eq_true rfl⟩) rfl rfl (Nat.le_of_ble_eq_true rfl) ⟨Nat.zero_le _, Nat.zero_le _⟩ d_Ref_stores_190 ?_
          obtain ⟨c193, h⟩ := gg_some h
          refine Go.iald (v := gA s15 3 r15.toNatClampNeg) hx hb hK 4 3 (Rw_4 ad ca _) rfl c193 rfl d_Ref_stores_193 ?_
          refine Go.iload_n hx hb 2 rfl d_Ref_stores_194 ?_
          obtain ⟨_, s16, q16, h⟩ := gb_some h
          refine Go.callVv S hK hA 0 (Rw_0 ad ca _) rfl (fun sz9 => m_Ref_puts l D ad ca N _ sz9 _ _ _ s16 q16) (cwV 2 hts (gwV k_775 k_777 k_47 k_67 k_778) rfl rfl rfl (by decide +kernel) ⟨Nat.le_of_ble_eq_true rfl, Nat.le_of_ble_eq_true rfl⟩) rfl rfl (Nat.le_of_ble_eq_true rfl) ⟨Nat.zero_le _, Nat.zero_le _⟩ d_Ref_stores_195 ?_
          refine Go.aload_n hx hb 0 rfl d_Ref_stores_198 ?_
          refine Go.dup hx hb rfl d_Ref_stores_199 ?_
          refine Go.get (v := .int (gI s16 4)) hx hb hts in_Ref hown hK 0 (Rw_0 ad ca _) rfl 8 (by decide) (hts _ k_623) (fun _ h9 => h9) rfl d_Ref_stores_200 ?_
          refine Go.iconst (v := 1) hx hb (by decide) d_Ref_stores_203 ?_
          refine Go.isub hx hb d_Ref_stores_204 ?_
          refine Go.put (ty := (.int)) hx hb hts in_Ref ty_Ref tyok_Ref nm_Ref hown hK 0 (Rw_0 ad ca _) rfl 8 (by decide) (hts _ k_623) (fun _ h9 => h9) rfl (by decide +kernel) rfl rfl (Nat.le_of_ble_eq_true rfl) (uI s16 4 ((gI s16 4) - 1)) (Rs_I4 ad ca _ _) d_Ref_stores_205 ?_
          refine Go.goto (tgt := 422) hx hb d_Ref_stores_208 rfl ?_
          exact Go.vret hx hb hr hK hlk h d_Ref_stores_422
      · replace h := (if_neg c166).symm.trans h
        refine Go.aload_n hx hb 0 rfl d_Ref_stores_169 ?_
        refine Go.iconst (v := 0) hx hb (by decide) d_Ref_stores_170 ?_
        refine Go.iconst (v := 4) hx hb (by decide) d_Ref_stores_171 ?_
        obtain ⟨r17, s17, q17, h⟩ := gb_some h
        refine Go.callVi S hK hA 0 (Rw_0 ad ca _) rfl (fun sz9 => m_Ref_isSort l D ad ca N _ sz9 _ _ r17 s17 q17) (cwV 2 hts (gwV k_767 k_769 k_45 k_67 k_770) rfl rfl rfl (by decide +kernel) ⟨Nat.le_of_ble_eq_true rfl, Nat.le_of_ble_eq_true rfl⟩) rfl rfl (Nat.le_of_ble_eq_true rfl) ⟨Nat.zero_le _, Nat.zero_le _⟩ d_Ref_stores_172 ?_
        refine Go.pop hx hb rfl d_Ref_stores_175 ?_
        refine Go.aload_n hx hb 0 rfl d_Ref_stores_176 ?_
        refine Go.get (v := .int (gI s17 16)) hx hb hts in_Ref hown hK 0 (Rw_0 ad ca _) rfl 29 (by decide) (hts _ k_644) (fun _ h9 => h9) rfl d_Ref_stores_177 ?_
        refine Go.if_ne (tgt := 422) hx hb d_Ref_stores_180 rfl (fun c180 => ?_) (fun c180 => ?_)
        · replace h := (if_neg c180).symm.trans h
          exact Go.vret hx hb hr hK hlk h d_Ref_stores_422
        · replace h := (if_pos c180).symm.trans h
          refine Go.aload_n hx hb 0 rfl d_Ref_stores_183 ?_
          refine Go.aload_n hx hb 0 rfl d_Ref_stores_184 ?_
          refine Go.get (v := .ref (ad 4)) hx hb hts in_Ref hown hK 0 (Rw_0 ad ca _) rfl 7 (by decide) (hts _ k_622) (fun _ h9 => h9) rfl d_Ref_stores_185 ?_
          refine Go.aload_n hx hb 0 rfl d_Ref_stores_188 ?_
          refine Go.iconst (v := 0) hx hb (by decide) d_Ref_stores_189 ?_
          obtain ⟨r18, s18, q18, h⟩ := gb_some h
          refine Go.callVi S hK hA 0 (Rw_0 ad ca _) rfl (fun sz9 => m_Ref_deep l D ad ca N _ sz9 _ r18 s18 q18) (cwV 1 hts (gwV k_751 k_753 k_41 k_67 k_754) rfl rfl rfl (by decide +kernel) ⟨Nat.le_of_ble_eq_true rfl, Nat.le_of_ble_eq_true rfl⟩) rfl rfl (Nat.le_of_ble_eq_true rfl) ⟨Nat.zero_le _, Nat.zero_le _⟩ d_Ref_stores_190 ?_
          obtain ⟨c193, h⟩ := gg_some h
          refine Go.iald (v := gA s18 3 r18.toNatClampNeg) hx hb hK 4 3 (Rw_4 ad ca _) rfl c193 rfl d_Ref_stores_193 ?_
          refine Go.iload_n hx hb 2 rfl d_Ref_stores_194 ?_
          obtain ⟨_, s19, q19, h⟩ := gb_some h
          refine Go.callVv S hK hA 0 (Rw_0 ad ca _) rfl (fun sz9 => m_Ref_puts l D ad ca N _ sz9 _ _ _ s19 q19) (cwV 2 hts (gwV k_775 k_777 k_47 k_67 k_778) rfl rfl rfl (by decide +kernel) ⟨Nat.le_of_ble_eq_true rfl, Nat.le_of_ble_eq_true rfl⟩) rfl rfl (Nat.le_of_ble_eq_true rfl) ⟨Nat.zero_le _, Nat.zero_le _⟩ d_Ref_stores_195 ?_
          refine Go.aload_n hx hb 0 rfl d_Ref_stores_198 ?_
          refine Go.dup hx hb rfl d_Ref_stores_199 ?_
          refine Go.get (v := .int (gI s19 4)) hx hb hts in_Ref hown hK 0 (Rw_0 ad ca _) rfl 8 (by decide) (hts _ k_623) (fun _ h9 => h9) rfl d_Ref_stores_200 ?_
          refine Go.iconst (v := 1) hx hb (by decide) d_Ref_stores_203 ?_
          refine Go.isub hx hb d_Ref_stores_204 ?_
          refine Go.put (ty := (.int)) hx hb hts in_Ref ty_Ref tyok_Ref nm_Ref hown hK 0 (Rw_0 ad ca _) rfl 8 (by decide) (hts _ k_623) (fun _ h9 => h9) rfl (by decide +kernel) rfl rfl (Nat.le_of_ble_eq_true rfl) (uI s19 4 ((gI s19 4) - 1)) (Rs_I4 ad ca _ _) d_Ref_stores_205 ?_
          refine Go.goto (tgt := 422) hx hb d_Ref_stores_208 rfl ?_
          exact Go.vret hx hb hr hK hlk h d_Ref_stores_422
    · replace h := (if_neg c141).symm.trans h
      refine Go.iload_n hx hb 2 rfl d_Ref_stores_144 ?_
      refine Go.bipush (v := 16) hx hb (by decide) d_Ref_stores_145 ?_
      refine Go.icmp_ge (tgt := 154) hx hb d_Ref_stores_147 rfl (fun c147 => ?_) (fun c147 => ?_)
      · replace h := (if_pos c147).symm.trans h
        refine Go.iconst (v := 0) hx hb (by decide) d_Ref_stores_154 ?_
        refine Go.bipush (v := 8) hx hb (by decide) d_Ref_stores_155 ?_
        obtain ⟨r20, s20, q20, h⟩ := gb_some h
        refine Go.callVi S hK hA 0 (Rw_0 ad ca _) rfl (fun sz9 => m_Ref_needs l D ad ca N _ sz9 _ _ r20 s20 q20) (cwV 2 hts (gwV k_747 k_749 k_40 k_67 k_750) rfl rfl rfl (by decide +kernel) ⟨Nat.le_of_ble_eq_true rfl, Nat.le_of_ble_eq_true rfl⟩) rfl rfl (Nat.le_of_ble_eq_true rfl) ⟨Nat.zero_le _, Nat.zero_le _⟩ d_Ref_stores_157 ?_
        refine Go.pop hx hb rfl d_Ref_stores_160 ?_
        refine Go.aload_n hx hb 0 rfl d_Ref_stores_161 ?_
        refine Go.iconst (v := 1) hx hb (by decide) d_Ref_stores_162 ?_
        obtain ⟨r21, s21, q21, h⟩ := gb_some h
        refine Go.callVi S hK hA 0 (Rw_0 ad ca _) rfl (fun sz9 => m_Ref_has l D ad ca N _ sz9 _ r21 s21 q21) (cwV 1 hts (gwV k_763 k_765 k_44 k_67 k_766) rfl rfl rfl (by decide +kernel) ⟨Nat.le_of_ble_eq_true rfl, Nat.le_of_ble_eq_true rfl⟩) rfl rfl (Nat.le_of_ble_eq_true rfl) ⟨Nat.zero_le _, Nat.zero_le _⟩ d_Ref_stores_163 ?_
        refine Go.if_eq (tgt := 176) hx hb d_Ref_stores_166 rfl (fun c166 => ?_) (fun c166 => ?_)
        · replace h := (if_pos c166).symm.trans h
          refine Go.aload_n hx hb 0 rfl d_Ref_stores_176 ?_
          refine Go.get (v := .int (gI s21 16)) hx hb hts in_Ref hown hK 0 (Rw_0 ad ca _) rfl 29 (by decide) (hts _ k_644) (fun _ h9 => h9) rfl d_Ref_stores_177 ?_
          refine Go.if_ne (tgt := 422) hx hb d_Ref_stores_180 rfl (fun c180 => ?_) (fun c180 => ?_)
          · replace h := (if_neg c180).symm.trans h
            exact Go.vret hx hb hr hK hlk h d_Ref_stores_422
          · replace h := (if_pos c180).symm.trans h
            refine Go.aload_n hx hb 0 rfl d_Ref_stores_183 ?_
            refine Go.aload_n hx hb 0 rfl d_Ref_stores_184 ?_
            refine Go.get (v := .ref (ad 4)) hx hb hts in_Ref hown hK 0 (Rw_0 ad ca _) rfl 7 (by decide) (hts _ k_622) (fun _ h9 => h9) rfl d_Ref_stores_185 ?_
            refine Go.aload_n hx hb 0 rfl d_Ref_stores_188 ?_
            refine Go.iconst (v := 0) hx hb (by decide) d_Ref_stores_189 ?_
            obtain ⟨r22, s22, q22, h⟩ := gb_some h
            refine Go.callVi S hK hA 0 (Rw_0 ad ca _) rfl (fun sz9 => m_Ref_deep l D ad ca N _ sz9 _ r22 s22 q22) (cwV 1 hts (gwV k_751 k_753 k_41 k_67 k_754) rfl rfl rfl (by decide +kernel) ⟨Nat.le_of_ble_eq_true rfl, Nat.le_of_ble_eq_true rfl⟩) rfl rfl (Nat.le_of_ble_eq_true rfl) ⟨Nat.zero_le _, Nat.zero_le _⟩ d_Ref_stores_190 ?_
            obtain ⟨c193, h⟩ := gg_some h
            refine Go.iald (v := gA s22 3 r22.toNatClampNeg) hx hb hK 4 3 (Rw_4 ad ca _) rfl c193 rfl d_Ref_stores_193 ?_
            refine Go.iload_n hx hb 2 rfl d_Ref_stores_194 ?_
            obtain ⟨_, s23, q23, h⟩ := gb_some h
            refine Go.callVv S hK hA 0 (Rw_0 ad ca _) rfl (fun sz9 => m_Ref_puts l D ad ca N _ sz9 _ _ _ s23 q23) (cwV 2 hts (gwV k_775 k_777 k_47 k_67 k_778) rfl rfl rfl (by decide +kernel) ⟨Nat.le_of_ble_eq_true rfl, Nat.le_of_ble_eq_true rfl⟩) rfl rfl (Nat.le_of_ble_eq_true rfl) ⟨Nat.zero_le _, Nat.zero_le _⟩ d_Ref_stores_195 ?_
            refine Go.aload_n hx hb 0 rfl d_Ref_stores_198 ?_
            refine Go.dup hx hb rfl d_Ref_stores_199 ?_
            refine Go.get (v := .int (gI s23 4)) hx hb hts in_Ref hown hK 0 (Rw_0 ad ca _) rfl 8 (by decide) (hts _ k_623) (fun _ h9 => h9) rfl d_Ref_stores_200 ?_
            refine Go.iconst (v := 1) hx hb (by decide) d_Ref_stores_203 ?_
            refine Go.isub hx hb d_Ref_stores_204 ?_
            refine Go.put (ty := (.int)) hx hb hts in_Ref ty_Ref tyok_Ref nm_Ref hown hK 0 (Rw_0 ad ca _) rfl 8 (by decide) (hts _ k_623) (fun _ h9 => h9) rfl (by decide +kernel) rfl rfl (Nat.le_of_ble_eq_true rfl) (uI s23 4 ((gI s23 4) - 1)) (Rs_I4 ad ca _ _) d_Ref_stores_205 ?_
            refine Go.goto (tgt := 422) hx hb d_Ref_stores_208 rfl ?_
            exact Go.vret hx hb hr hK hlk h d_Ref_stores_422
        · replace h := (if_neg c166).symm.trans h
          refine Go.aload_n hx hb 0 rfl d_Ref_stores_169 ?_
          refine Go.iconst (v := 0) hx hb (by decide) d_Ref_stores_170 ?_
          refine Go.iconst (v := 4) hx hb (by decide) d_Ref_stores_171 ?_
          obtain ⟨r24, s24, q24, h⟩ := gb_some h
          refine Go.callVi S hK hA 0 (Rw_0 ad ca _) rfl (fun sz9 => m_Ref_isSort l D ad ca N _ sz9 _ _ r24 s24 q24) (cwV 2 hts (gwV k_767 k_769 k_45 k_67 k_770) rfl rfl rfl (by decide +kernel) ⟨Nat.le_of_ble_eq_true rfl, Nat.le_of_ble_eq_true rfl⟩) rfl rfl (Nat.le_of_ble_eq_true rfl) ⟨Nat.zero_le _, Nat.zero_le _⟩ d_Ref_stores_172 ?_
          refine Go.pop hx hb rfl d_Ref_stores_175 ?_
          refine Go.aload_n hx hb 0 rfl d_Ref_stores_176 ?_
          refine Go.get (v := .int (gI s24 16)) hx hb hts in_Ref hown hK 0 (Rw_0 ad ca _) rfl 29 (by decide) (hts _ k_644) (fun _ h9 => h9) rfl d_Ref_stores_177 ?_
          refine Go.if_ne (tgt := 422) hx hb d_Ref_stores_180 rfl (fun c180 => ?_) (fun c180 => ?_)
          · replace h := (if_neg c180).symm.trans h
            exact Go.vret hx hb hr hK hlk h d_Ref_stores_422
          · replace h := (if_pos c180).symm.trans h
            refine Go.aload_n hx hb 0 rfl d_Ref_stores_183 ?_
            refine Go.aload_n hx hb 0 rfl d_Ref_stores_184 ?_
            refine Go.get (v := .ref (ad 4)) hx hb hts in_Ref hown hK 0 (Rw_0 ad ca _) rfl 7 (by decide) (hts _ k_622) (fun _ h9 => h9) rfl d_Ref_stores_185 ?_
            refine Go.aload_n hx hb 0 rfl d_Ref_stores_188 ?_
            refine Go.iconst (v := 0) hx hb (by decide) d_Ref_stores_189 ?_
            obtain ⟨r25, s25, q25, h⟩ := gb_some h
            refine Go.callVi S hK hA 0 (Rw_0 ad ca _) rfl (fun sz9 => m_Ref_deep l D ad ca N _ sz9 _ r25 s25 q25) (cwV 1 hts (gwV k_751 k_753 k_41 k_67 k_754) rfl rfl rfl (by decide +kernel) ⟨Nat.le_of_ble_eq_true rfl, Nat.le_of_ble_eq_true rfl⟩) rfl rfl (Nat.le_of_ble_eq_true rfl) ⟨Nat.zero_le _, Nat.zero_le _⟩ d_Ref_stores_190 ?_
            obtain ⟨c193, h⟩ := gg_some h
            refine Go.iald (v := gA s25 3 r25.toNatClampNeg) hx hb hK 4 3 (Rw_4 ad ca _) rfl c193 rfl d_Ref_stores_193 ?_
            refine Go.iload_n hx hb 2 rfl d_Ref_stores_194 ?_
            obtain ⟨_, s26, q26, h⟩ := gb_some h
            refine Go.callVv S hK hA 0 (Rw_0 ad ca _) rfl (fun sz9 => m_Ref_puts l D ad ca N _ sz9 _ _ _ s26 q26) (cwV 2 hts (gwV k_775 k_777 k_47 k_67 k_778) rfl rfl rfl (by decide +kernel) ⟨Nat.le_of_ble_eq_true rfl, Nat.le_of_ble_eq_true rfl⟩) rfl rfl (Nat.le_of_ble_eq_true rfl) ⟨Nat.zero_le _, Nat.zero_le _⟩ d_Ref_stores_195 ?_
            refine Go.aload_n hx hb 0 rfl d_Ref_stores_198 ?_
            refine Go.dup hx hb rfl d_Ref_stores_199 ?_
            refine Go.get (v := .int (gI s26 4)) hx hb hts in_Ref hown hK 0 (Rw_0 ad ca _) rfl 8 (by decide) (hts _ k_623) (fun _ h9 => h9) rfl d_Ref_stores_200 ?_
            refine Go.iconst (v := 1) hx hb (by decide) d_Ref_stores_203 ?_
            refine Go.isub hx hb d_Ref_stores_204 ?_
            refine Go.put (ty := (.int)) hx hb hts in_Ref ty_Ref tyok_Ref nm_Ref hown hK 0 (Rw_0 ad ca _) rfl 8 (by decide) (hts _ k_623) (fun _ h9 => h9) rfl (by decide +kernel) rfl rfl (Nat.le_of_ble_eq_true rfl) (uI s26 4 ((gI s26 4) - 1)) (Rs_I4 ad ca _ _) d_Ref_stores_205 ?_
            refine Go.goto (tgt := 422) hx hb d_Ref_stores_208 rfl ?_
            exact Go.vret hx hb hr hK hlk h d_Ref_stores_422
      · replace h := (if_neg c147).symm.trans h
        refine Go.iconst (v := 1) hx hb (by decide) d_Ref_stores_150 ?_
        refine Go.goto (tgt := 155) hx hb d_Ref_stores_151 rfl ?_
        refine Go.bipush (v := 8) hx hb (by decide) d_Ref_stores_155 ?_
        obtain ⟨r27, s27, q27, h⟩ := gb_some h
        refine Go.callVi S hK hA 0 (Rw_0 ad ca _) rfl (fun sz9 => m_Ref_needs l D ad ca N _ sz9 _ _ r27 s27 q27) (cwV 2 hts (gwV k_747 k_749 k_40 k_67 k_750) rfl rfl rfl (by decide +kernel) ⟨Nat.le_of_ble_eq_true rfl, Nat.le_of_ble_eq_true rfl⟩) rfl rfl (Nat.le_of_ble_eq_true rfl) ⟨Nat.zero_le _, Nat.zero_le _⟩ d_Ref_stores_157 ?_
        refine Go.pop hx hb rfl d_Ref_stores_160 ?_
        refine Go.aload_n hx hb 0 rfl d_Ref_stores_161 ?_
        refine Go.iconst (v := 1) hx hb (by decide) d_Ref_stores_162 ?_
        obtain ⟨r28, s28, q28, h⟩ := gb_some h
        refine Go.callVi S hK hA 0 (Rw_0 ad ca _) rfl (fun sz9 => m_Ref_has l D ad ca N _ sz9 _ r28 s28 q28) (cwV 1 hts (gwV k_763 k_765 k_44 k_67 k_766) rfl rfl rfl (by decide +kernel) ⟨Nat.le_of_ble_eq_true rfl, Nat.le_of_ble_eq_true rfl⟩) rfl rfl (Nat.le_of_ble_eq_true rfl) ⟨Nat.zero_le _, Nat.zero_le _⟩ d_Ref_stores_163 ?_
        refine Go.if_eq (tgt := 176) hx hb d_Ref_stores_166 rfl (fun c166 => ?_) (fun c166 => ?_)
        · replace h := (if_pos c166).symm.trans h
          refine Go.aload_n hx hb 0 rfl d_Ref_stores_176 ?_
          refine Go.get (v := .int (gI s28 16)) hx hb hts in_Ref hown hK 0 (Rw_0 ad ca _) rfl 29 (by decide) (hts _ k_644) (fun _ h9 => h9) rfl d_Ref_stores_177 ?_
          refine Go.if_ne (tgt := 422) hx hb d_Ref_stores_180 rfl (fun c180 => ?_) (fun c180 => ?_)
          · replace h := (if_neg c180).symm.trans h
            exact Go.vret hx hb hr hK hlk h d_Ref_stores_422
          · replace h := (if_pos c180).symm.trans h
            refine Go.aload_n hx hb 0 rfl d_Ref_stores_183 ?_
            refine Go.aload_n hx hb 0 rfl d_Ref_stores_184 ?_
            refine Go.get (v := .ref (ad 4)) hx hb hts in_Ref hown hK 0 (Rw_0 ad ca _) rfl 7 (by decide) (hts _ k_622) (fun _ h9 => h9) rfl d_Ref_stores_185 ?_
            refine Go.aload_n hx hb 0 rfl d_Ref_stores_188 ?_
            refine Go.iconst (v := 0) hx hb (by decide) d_Ref_stores_189 ?_
            obtain ⟨r29, s29, q29, h⟩ := gb_some h
            refine Go.callVi S hK hA 0 (Rw_0 ad ca _) rfl (fun sz9 => m_Ref_deep l D ad ca N _ sz9 _ r29 s29 q29) (cwV 1 hts (gwV k_751 k_753 k_41 k_67 k_754) rfl rfl rfl (by decide +kernel) ⟨Nat.le_of_ble_eq_true rfl, Nat.le_of_ble_eq_true rfl⟩) rfl rfl (Nat.le_of_ble_eq_true rfl) ⟨Nat.zero_le _, Nat.zero_le _⟩ d_Ref_stores_190 ?_
            obtain ⟨c193, h⟩ := gg_some h
            refine Go.iald (v := gA s29 3 r29.toNatClampNeg) hx hb hK 4 3 (Rw_4 ad ca _) rfl c193 rfl d_Ref_stores_193 ?_
            refine Go.iload_n hx hb 2 rfl d_Ref_stores_194 ?_
            obtain ⟨_, s30, q30, h⟩ := gb_some h
            refine Go.callVv S hK hA 0 (Rw_0 ad ca _) rfl (fun sz9 => m_Ref_puts l D ad ca N _ sz9 _ _ _ s30 q30) (cwV 2 hts (gwV k_775 k_777 k_47 k_67 k_778) rfl rfl rfl (by decide +kernel) ⟨Nat.le_of_ble_eq_true rfl, Nat.le_of_ble_eq_true rfl⟩) rfl rfl (Nat.le_of_ble_eq_true rfl) ⟨Nat.zero_le _, Nat.zero_le _⟩ d_Ref_stores_195 ?_
            refine Go.aload_n hx hb 0 rfl d_Ref_stores_198 ?_
            refine Go.dup hx hb rfl d_Ref_stores_199 ?_
            refine Go.get (v := .int (gI s30 4)) hx hb hts in_Ref hown hK 0 (Rw_0 ad ca _) rfl 8 (by decide) (hts _ k_623) (fun _ h9 => h9) rfl d_Ref_stores_200 ?_
            refine Go.iconst (v := 1) hx hb (by decide) d_Ref_stores_203 ?_
            refine Go.isub hx hb d_Ref_stores_204 ?_
            refine Go.put (ty := (.int)) hx hb hts in_Ref ty_Ref tyok_Ref nm_Ref hown hK 0 (Rw_0 ad ca _) rfl 8 (by decide) (hts _ k_623) (fun _ h9 => h9) rfl (by decide +kernel) rfl rfl (Nat.le_of_ble_eq_true rfl) (uI s30 4 ((gI s30 4) - 1)) (Rs_I4 ad ca _ _) d_Ref_stores_205 ?_
            refine Go.goto (tgt := 422) hx hb d_Ref_stores_208 rfl ?_
            exact Go.vret hx hb hr hK hlk h d_Ref_stores_422
        · replace h := (if_neg c166).symm.trans h
          refine Go.aload_n hx hb 0 rfl d_Ref_stores_169 ?_
          refine Go.iconst (v := 0) hx hb (by decide) d_Ref_stores_170 ?_
          refine Go.iconst (v := 4) hx hb (by decide) d_Ref_stores_171 ?_
          obtain ⟨r31, s31, q31, h⟩ := gb_some h
          refine Go.callVi S hK hA 0 (Rw_0 ad ca _) rfl (fun sz9 => m_Ref_isSort l D ad ca N _ sz9 _ _ r31 s31 q31) (cwV 2 hts (gwV k_767 k_769 k_45 k_67 k_770) rfl rfl rfl (by decide +kernel) ⟨Nat.le_of_ble_eq_true rfl, Nat.le_of_ble_eq_true rfl⟩) rfl rfl (Nat.le_of_ble_eq_true rfl) ⟨Nat.zero_le _, Nat.zero_le _⟩ d_Ref_stores_172 ?_
          refine Go.pop hx hb rfl d_Ref_stores_175 ?_
          refine Go.aload_n hx hb 0 rfl d_Ref_stores_176 ?_
          refine Go.get (v := .int (gI s31 16)) hx hb hts in_Ref hown hK 0 (Rw_0 ad ca _) rfl 29 (by decide) (hts _ k_644) (fun _ h9 => h9) rfl d_Ref_stores_177 ?_
          refine Go.if_ne (tgt := 422) hx hb d_Ref_stores_180 rfl (fun c180 => ?_) (fun c180 => ?_)
          · replace h := (if_neg c180).symm.trans h
            exact Go.vret hx hb hr hK hlk h d_Ref_stores_422
          · replace h := (if_pos c180).symm.trans h
            refine Go.aload_n hx hb 0 rfl d_Ref_stores_183 ?_
            refine Go.aload_n hx hb 0 rfl d_Ref_stores_184 ?_
            refine Go.get (v := .ref (ad 4)) hx hb hts in_Ref hown hK 0 (Rw_0 ad ca _) rfl 7 (by decide) (hts _ k_622) (fun _ h9 => h9) rfl d_Ref_stores_185 ?_
            refine Go.aload_n hx hb 0 rfl d_Ref_stores_188 ?_
            refine Go.iconst (v := 0) hx hb (by decide) d_Ref_stores_189 ?_
            obtain ⟨r32, s32, q32, h⟩ := gb_some h
            refine Go.callVi S hK hA 0 (Rw_0 ad ca _) rfl (fun sz9 => m_Ref_deep l D ad ca N _ sz9 _ r32 s32 q32) (cwV 1 hts (gwV k_751 k_753 k_41 k_67 k_754) rfl rfl rfl (by decide +kernel) ⟨Nat.le_of_ble_eq_true rfl, Nat.le_of_ble_eq_true rfl⟩) rfl rfl (Nat.le_of_ble_eq_true rfl) ⟨Nat.zero_le _, Nat.zero_le _⟩ d_Ref_stores_190 ?_
            obtain ⟨c193, h⟩ := gg_some h
            refine Go.iald (v := gA s32 3 r32.toNatClampNeg) hx hb hK 4 3 (Rw_4 ad ca _) rfl c193 rfl d_Ref_stores_193 ?_
            refine Go.iload_n hx hb 2 rfl d_Ref_stores_194 ?_
            obtain ⟨_, s33, q33, h⟩ := gb_some h
            refine Go.callVv S hK hA 0 (Rw_0 ad ca _) rfl (fun sz9 => m_Ref_puts l D ad ca N _ sz9 _ _ _ s33 q33) (cwV 2 hts (gwV k_775 k_777 k_47 k_67 k_778) rfl rfl rfl (by decide +kernel) ⟨Nat.le_of_ble_eq_true rfl, Nat.le_of_ble_eq_true rfl⟩) rfl rfl (Nat.le_of_ble_eq_true rfl) ⟨Nat.zero_le _, Nat.zero_le _⟩ d_Ref_stores_195 ?_
            refine Go.aload_n hx hb 0 rfl d_Ref_stores_198 ?_
            refine Go.dup hx hb rfl d_Ref_stores_199 ?_
            refine Go.get (v := .int (gI s33 4)) hx hb hts in_Ref hown hK 0 (Rw_0 ad ca _) rfl 8 (by decide) (hts _ k_623) (fun _ h9 => h9) rfl d_Ref_stores_200 ?_
            refine Go.iconst (v := 1) hx hb (by decide) d_Ref_stores_203 ?_
            refine Go.isub hx hb d_Ref_stores_204 ?_
            refine Go.put (ty := (.int)) hx hb hts in_Ref ty_Ref tyok_Ref nm_Ref hown hK 0 (Rw_0 ad ca _) rfl 8 (by decide) (hts _ k_623) (fun _ h9 => h9) rfl (by decide +kernel) rfl rfl (Nat.le_of_ble_eq_true rfl) (uI s33 4 ((gI s33 4) - 1)) (Rs_I4 ad ca _ _) d_Ref_stores_205 ?_
            refine Go.goto (tgt := 422) hx hb d_Ref_stores_208 rfl ?_
            exact Go.vret hx hb hr hK hlk h d_Ref_stores_422
  replace h := (if_neg c1_2).symm.trans h
  by_cases c1_3 : a0 = 12
  · replace h := (if_pos c1_3).symm.trans h
    refine Go.tin (tgt := 211) (off := 210) hx hb 12 c1_3 d_Ref_stores_1 (by decide) (by decide) rfl rfl ?_
    refine Go.aload_n hx hb 0 rfl d_Ref_stores_211 ?_
    refine Go.iconst (v := 2) hx hb (by decide) d_Ref_stores_212 ?_
    obtain ⟨r34, s34, q34, h⟩ := gb_some h
    refine Go.callVi S hK hA 0 (Rw_0 ad ca _) rfl (fun sz9 => m_Ref_has l D ad ca N _ sz9 _ r34 s34 q34) (cwV 1 hts (gwV k_763 k_765 k_44 k_67 k_766) rfl rfl rfl (by decide +kernel) ⟨Nat.le_of_ble_eq_true rfl, Nat.le_of_ble_eq_true rfl⟩) rfl rfl (Nat.le_of_ble_eq_true rfl) ⟨Nat.zero_le _, Nat.zero_le _⟩ d_Ref_stores_213 ?_
    refine Go.if_eq (tgt := 251) hx hb d_Ref_stores_216 rfl (fun c216 => ?_) (fun c216 => ?_)
    · replace h := (if_pos c216).symm.trans h
      exact Go.vret hx hb hr hK hlk h d_Ref_stores_251
    · replace h := (if_neg c216).symm.trans h
      refine Go.aload_n hx hb 0 rfl d_Ref_stores_219 ?_
      refine Go.iconst (v := 1) hx hb (by decide) d_Ref_stores_220 ?_
      refine Go.iconst (v := 5) hx hb (by decide) d_Ref_stores_221 ?_
      obtain ⟨r35, s35, q35, h⟩ := gb_some h
      refine Go.callVi S hK hA 0 (Rw_0 ad ca _) rfl (fun sz9 => m_Ref_isSort l D ad ca N _ sz9 _ _ r35 s35 q35) (cwV 2 hts (gwV k_767 k_769 k_45 k_67 k_770) rfl rfl rfl (by decide +kernel) ⟨Nat.le_of_ble_eq_true rfl, Nat.le_of_ble_eq_true rfl⟩) rfl rfl (Nat.le_of_ble_eq_true rfl) ⟨Nat.zero_le _, Nat.zero_le _⟩ d_Ref_stores_222 ?_
      refine Go.if_ne (tgt := 232) hx hb d_Ref_stores_225 rfl (fun c225 => ?_) (fun c225 => ?_)
      · replace h := (if_neg c225).symm.trans h
        refine Go.iconst (v := 0) hx hb (by decide) d_Ref_stores_232 ?_
        refine Go.aload_n hx hb 0 rfl d_Ref_stores_233 ?_
        refine Go.iconst (v := 0) hx hb (by decide) d_Ref_stores_234 ?_
        refine Go.iconst (v := 3) hx hb (by decide) d_Ref_stores_235 ?_
        obtain ⟨r36, s36, q36, h⟩ := gb_some h
        refine Go.callVi S hK hA 0 (Rw_0 ad ca _) rfl (fun sz9 => m_Ref_isSort l D ad ca N _ sz9 _ _ r36 s36 q36) (cwV 2 hts (gwV k_767 k_769 k_45 k_67 k_770) rfl rfl rfl (by decide +kernel) ⟨Nat.le_of_ble_eq_true rfl, Nat.le_of_ble_eq_true rfl⟩) rfl rfl (Nat.le_of_ble_eq_true rfl) ⟨Nat.zero_le _, Nat.zero_le _⟩ d_Ref_stores_236 ?_
        refine Go.if_ne (tgt := 246) hx hb d_Ref_stores_239 rfl (fun c239 => ?_) (fun c239 => ?_)
        · replace h := (if_neg c239).symm.trans h
          refine Go.iconst (v := 0) hx hb (by decide) d_Ref_stores_246 ?_
          refine Go.ior hx hb d_Ref_stores_247 ?_
          refine Go.if_eq (tgt := 252) hx hb d_Ref_stores_248 rfl (fun c248 => ?_) (fun c248 => ?_)
          · replace h := (if_pos c248).symm.trans h
            refine Go.aload_n hx hb 0 rfl d_Ref_stores_252 ?_
            refine Go.aload_n hx hb 0 rfl d_Ref_stores_253 ?_
            refine Go.get (v := .ref (ad 4)) hx hb hts in_Ref hown hK 0 (Rw_0 ad ca _) rfl 7 (by decide) (hts _ k_622) (fun _ h9 => h9) rfl d_Ref_stores_254 ?_
            refine Go.aload_n hx hb 0 rfl d_Ref_stores_257 ?_
            refine Go.iconst (v := 0) hx hb (by decide) d_Ref_stores_258 ?_
            obtain ⟨r37, s37, q37, h⟩ := gb_some h
            refine Go.callVi S hK hA 0 (Rw_0 ad ca _) rfl (fun sz9 => m_Ref_deep l D ad ca N _ sz9 _ r37 s37 q37) (cwV 1 hts (gwV k_751 k_753 k_41 k_67 k_754) rfl rfl rfl (by decide +kernel) ⟨Nat.le_of_ble_eq_true rfl, Nat.le_of_ble_eq_true rfl⟩) rfl rfl (Nat.le_of_ble_eq_true rfl) ⟨Nat.zero_le _, Nat.zero_le _⟩ d_Ref_stores_259 ?_
            obtain ⟨c262, h⟩ := gg_some h
            refine Go.iald (v := gA s37 3 r37.toNatClampNeg) hx hb hK 4 3 (Rw_4 ad ca _) rfl c262 rfl d_Ref_stores_262 ?_
            refine Go.if_lt (tgt := 298) hx hb d_Ref_stores_263 rfl (fun c263 => ?_) (fun c263 => ?_)
            · replace h := (if_pos c263).symm.trans h
              refine Go.iconst (v := 0) hx hb (by decide) d_Ref_stores_298 ?_
              refine Go.iconst (v := 2) hx hb (by decide) d_Ref_stores_299 ?_
              obtain ⟨r38, s38, q38, h⟩ := gb_some h
              refine Go.callVi S hK hA 0 (Rw_0 ad ca _) rfl (fun sz9 => m_Ref_needs l D ad ca N _ sz9 _ _ r38 s38 q38) (cwV 2 hts (gwV k_747 k_749 k_40 k_67 k_750) rfl rfl rfl (by decide +kernel) ⟨Nat.le_of_ble_eq_true rfl, Nat.le_of_ble_eq_true rfl⟩) rfl rfl (Nat.le_of_ble_eq_true rfl) ⟨Nat.zero_le _, Nat.zero_le _⟩ d_Ref_stores_300 ?_
              refine Go.if_eq (tgt := 422) hx hb d_Ref_stores_303 rfl (fun c303 => ?_) (fun c303 => ?_)
              · replace h := (if_pos c303).symm.trans h
                exact Go.vret hx hb hr hK hlk h d_Ref_stores_422
              · replace h := (if_neg c303).symm.trans h
                refine Go.aload_n hx hb 0 rfl d_Ref_stores_306 ?_
                refine Go.aload_n hx hb 0 rfl d_Ref_stores_307 ?_
                refine Go.get (v := .ref (ad 4)) hx hb hts in_Ref hown hK 0 (Rw_0 ad ca _) rfl 7 (by decide) (hts _ k_622) (fun _ h9 => h9) rfl d_Ref_stores_308 ?_
                refine Go.aload_n hx hb 0 rfl d_Ref_stores_311 ?_
                refine Go.iconst (v := 1) hx hb (by decide) d_Ref_stores_312 ?_
                obtain ⟨r39, s39, q39, h⟩ := gb_some h
                refine Go.callVi S hK hA 0 (Rw_0 ad ca _) rfl (fun sz9 => m_Ref_deep l D ad ca N _ sz9 _ r39 s39 q39) (cwV 1 hts (gwV k_751 k_753 k_41 k_67 k_754) rfl rfl rfl (by decide +kernel) ⟨Nat.le_of_ble_eq_true rfl, Nat.le_of_ble_eq_true rfl⟩) rfl rfl (Nat.le_of_ble_eq_true rfl) ⟨Nat.zero_le _, Nat.zero_le _⟩ d_Ref_stores_313 ?_
                obtain ⟨c316, h⟩ := gg_some h
                refine Go.iald (v := gA s39 3 r39.toNatClampNeg) hx hb hK 4 3 (Rw_4 ad ca _) rfl c316 rfl d_Ref_stores_316 ?_
                refine Go.aload_n hx hb 0 rfl d_Ref_stores_317 ?_
                refine Go.get (v := .ref (ad 4)) hx hb hts in_Ref hown hK 0 (Rw_0 ad ca _) rfl 7 (by decide) (hts _ k_622) (fun _ h9 => h9) rfl d_Ref_stores_318 ?_
                refine Go.aload_n hx hb 0 rfl d_Ref_stores_321 ?_
                refine Go.iconst (v := 0) hx hb (by decide) d_Ref_stores_322 ?_
                obtain ⟨r40, s40, q40, h⟩ := gb_some h
                refine Go.callVi S hK hA 0 (Rw_0 ad ca _) rfl (fun sz9 => m_Ref_deep l D ad ca N _ sz9 _ r40 s40 q40) (cwV 1 hts (gwV k_751 k_753 k_41 k_67 k_754) rfl rfl rfl (by decide +kernel) ⟨Nat.le_of_ble_eq_true rfl, Nat.le_of_ble_eq_true rfl⟩) rfl rfl (Nat.le_of_ble_eq_true rfl) ⟨Nat.zero_le _, Nat.zero_le _⟩ d_Ref_stores_323 ?_
                obtain ⟨c326, h⟩ := gg_some h
                refine Go.iald (v := gA s40 3 r40.toNatClampNeg) hx hb hK 4 3 (Rw_4 ad ca _) rfl c326 rfl d_Ref_stores_326 ?_
                obtain ⟨_, s41, q41, h⟩ := gb_some h
                refine Go.callVv S hK hA 0 (Rw_0 ad ca _) rfl (fun sz9 => m_Ref_puts l D ad ca N _ sz9 _ _ _ s41 q41) (cwV 2 hts (gwV k_775 k_777 k_47 k_67 k_778) rfl rfl rfl (by decide +kernel) ⟨Nat.le_of_ble_eq_true rfl, Nat.le_of_ble_eq_true rfl⟩) rfl rfl (Nat.le_of_ble_eq_true rfl) ⟨Nat.zero_le _, Nat.zero_le _⟩ d_Ref_stores_327 ?_
                refine Go.aload_n hx hb 0 rfl d_Ref_stores_330 ?_
                refine Go.dup hx hb rfl d_Ref_stores_331 ?_
                refine Go.get (v := .int (gI s41 4)) hx hb hts in_Ref hown hK 0 (Rw_0 ad ca _) rfl 8 (by decide) (hts _ k_623) (fun _ h9 => h9) rfl d_Ref_stores_332 ?_
                refine Go.iconst (v := 2) hx hb (by decide) d_Ref_stores_335 ?_
                refine Go.isub hx hb d_Ref_stores_336 ?_
                refine Go.put (ty := (.int)) hx hb hts in_Ref ty_Ref tyok_Ref nm_Ref hown hK 0 (Rw_0 ad ca _) rfl 8 (by decide) (hts _ k_623) (fun _ h9 => h9) rfl (by decide +kernel) rfl rfl (Nat.le_of_ble_eq_true rfl) (uI s41 4 ((gI s41 4) - 2)) (Rs_I4 ad ca _ _) d_Ref_stores_337 ?_
                refine Go.goto (tgt := 422) hx hb d_Ref_stores_340 rfl ?_
                exact Go.vret hx hb hr hK hlk h d_Ref_stores_422
            · replace h := (if_neg c263).symm.trans h
              refine Go.aload_n hx hb 0 rfl d_Ref_stores_266 ?_
              refine Go.get (v := .ref (ad 4)) hx hb hts in_Ref hown hK 0 (Rw_0 ad ca _) rfl 7 (by decide) (hts _ k_622) (fun _ h9 => h9) rfl d_Ref_stores_267 ?_
              refine Go.aload_n hx hb 0 rfl d_Ref_stores_270 ?_
              refine Go.iconst (v := 0) hx hb (by decide) d_Ref_stores_271 ?_
              obtain ⟨r42, s42, q42, h⟩ := gb_some h
              refine Go.callVi S hK hA 0 (Rw_0 ad ca _) rfl (fun sz9 => m_Ref_deep l D ad ca N _ sz9 _ r42 s42 q42) (cwV 1 hts (gwV k_751 k_753 k_41 k_67 k_754) rfl rfl rfl (by decide +kernel) ⟨Nat.le_of_ble_eq_true rfl, Nat.le_of_ble_eq_true rfl⟩) rfl rfl (Nat.le_of_ble_eq_true rfl) ⟨Nat.zero_le _, Nat.zero_le _⟩ d_Ref_stores_272 ?_
              obtain ⟨c275, h⟩ := gg_some h
              refine Go.iald (v := gA s42 3 r42.toNatClampNeg) hx hb hK 4 3 (Rw_4 ad ca _) rfl c275 rfl d_Ref_stores_275 ?_
              refine Go.aload_n hx hb 0 rfl d_Ref_stores_276 ?_
              refine Go.get (v := .ref (ad 10)) hx hb hts in_Ref hown hK 0 (Rw_0 ad ca _) rfl 15 (by decide) (hts _ k_630) (fun _ h9 => h9) rfl d_Ref_stores_277 ?_
              refine Go.aload_n hx hb 0 rfl d_Ref_stores_280 ?_
              refine Go.get (v := .ref (ad 4)) hx hb hts in_Ref hown hK 0 (Rw_0 ad ca _) rfl 7 (by decide) (hts _ k_622) (fun _ h9 => h9) rfl d_Ref_stores_281 ?_
              refine Go.aload_n hx hb 0 rfl d_Ref_stores_284 ?_
              refine Go.iconst (v := 1) hx hb (by decide) d_Ref_stores_285 ?_
              obtain ⟨r43, s43, q43, h⟩ := gb_some h
              refine Go.callVi S hK hA 0 (Rw_0 ad ca _) rfl (fun sz9 => m_Ref_deep l D ad ca N _ sz9 _ r43 s43 q43) (cwV 1 hts (gwV k_751 k_753 k_41 k_67 k_754) rfl rfl rfl (by decide +kernel) ⟨Nat.le_of_ble_eq_true rfl, Nat.le_of_ble_eq_true rfl⟩) rfl rfl (Nat.le_of_ble_eq_true rfl) ⟨Nat.zero_le _, Nat.zero_le _⟩ d_Ref_stores_286 ?_
              obtain ⟨c289, h⟩ := gg_some h
              refine Go.iald (v := gA s43 3 r43.toNatClampNeg) hx hb hK 4 3 (Rw_4 ad ca _) rfl c289 rfl d_Ref_stores_289 ?_
              obtain ⟨c290, h⟩ := gg_some h
              refine Go.iald (v := gA s43 9 (gA s43 3 r43.toNatClampNeg).toNatClampNeg) hx hb hK 10 9 (Rw_10 ad ca _) rfl c290 rfl d_Ref_stores_290 ?_
              refine Go.icmp_ge (tgt := 298) hx hb d_Ref_stores_291 rfl (fun c291 => ?_) (fun c291 => ?_)
              · replace h := (if_pos c291).symm.trans h
                refine Go.iconst (v := 0) hx hb (by decide) d_Ref_stores_298 ?_
                refine Go.iconst (v := 2) hx hb (by decide) d_Ref_stores_299 ?_
                obtain ⟨r44, s44, q44, h⟩ := gb_some h
                refine Go.callVi S hK hA 0 (Rw_0 ad ca _) rfl (fun sz9 => m_Ref_needs l D ad ca N _ sz9 _ _ r44 s44 q44) (cwV 2 hts (gwV k_747 k_749 k_40 k_67 k_750) rfl rfl rfl (by decide +kernel) ⟨Nat.le_of_ble_eq_true rfl, Nat.le_of_ble_eq_true rfl⟩) rfl rfl (Nat.le_of_ble_eq_true rfl) ⟨Nat.zero_le _, Nat.zero_le _⟩ d_Ref_stores_300 ?_
                refine Go.if_eq (tgt := 422) hx hb d_Ref_stores_303 rfl (fun c303 => ?_) (fun c303 => ?_)
                · replace h := (if_pos c303).symm.trans h
                  exact Go.vret hx hb hr hK hlk h d_Ref_stores_422
                · replace h := (if_neg c303).symm.trans h
                  refine Go.aload_n hx hb 0 rfl d_Ref_stores_306 ?_
                  refine Go.aload_n hx hb 0 rfl d_Ref_stores_307 ?_
                  refine Go.get (v := .ref (ad 4)) hx hb hts in_Ref hown hK 0 (Rw_0 ad ca _) rfl 7 (by decide) (hts _ k_622) (fun _ h9 => h9) rfl d_Ref_stores_308 ?_
                  refine Go.aload_n hx hb 0 rfl d_Ref_stores_311 ?_
                  refine Go.iconst (v := 1) hx hb (by decide) d_Ref_stores_312 ?_
                  obtain ⟨r45, s45, q45, h⟩ := gb_some h
                  refine Go.callVi S hK hA 0 (Rw_0 ad ca _) rfl (fun sz9 => m_Ref_deep l D ad ca N _ sz9 _ r45 s45 q45) (cwV 1 hts (gwV k_751 k_753 k_41 k_67 k_754) rfl rfl rfl (by decide +kernel) ⟨Nat.le_of_ble_eq_true rfl, Nat.le_of_ble_eq_true rfl⟩) rfl rfl (Nat.le_of_ble_eq_true rfl) ⟨Nat.zero_le _, Nat.zero_le _⟩ d_Ref_stores_313 ?_
                  obtain ⟨c316, h⟩ := gg_some h
                  refine Go.iald (v := gA s45 3 r45.toNatClampNeg) hx hb hK 4 3 (Rw_4 ad ca _) rfl c316 rfl d_Ref_stores_316 ?_
                  refine Go.aload_n hx hb 0 rfl d_Ref_stores_317 ?_
                  refine Go.get (v := .ref (ad 4)) hx hb hts in_Ref hown hK 0 (Rw_0 ad ca _) rfl 7 (by decide) (hts _ k_622) (fun _ h9 => h9) rfl d_Ref_stores_318 ?_
                  refine Go.aload_n hx hb 0 rfl d_Ref_stores_321 ?_
                  refine Go.iconst (v := 0) hx hb (by decide) d_Ref_stores_322 ?_
                  obtain ⟨r46, s46, q46, h⟩ := gb_some h
                  refine Go.callVi S hK hA 0 (Rw_0 ad ca _) rfl (fun sz9 => m_Ref_deep l D ad ca N _ sz9 _ r46 s46 q46) (cwV 1 hts (gwV k_751 k_753 k_41 k_67 k_754) rfl rfl rfl (by decide +kernel) ⟨Nat.le_of_ble_eq_true rfl, Nat.le_of_ble_eq_true rfl⟩) rfl rfl (Nat.le_of_ble_eq_true rfl) ⟨Nat.zero_le _, Nat.zero_le _⟩ d_Ref_stores_323 ?_
                  obtain ⟨c326, h⟩ := gg_some h
                  refine Go.iald (v := gA s46 3 r46.toNatClampNeg) hx hb hK 4 3 (Rw_4 ad ca _) rfl c326 rfl d_Ref_stores_326 ?_
                  obtain ⟨_, s47, q47, h⟩ := gb_some h
                  refine Go.callVv S hK hA 0 (Rw_0 ad ca _) rfl (fun sz9 => m_Ref_puts l D ad ca N _ sz9 _ _ _ s47 q47) (cwV 2 hts (gwV k_775 k_777 k_47 k_67 k_778) rfl rfl rfl (by decide +kernel) ⟨Nat.le_of_ble_eq_true rfl, Nat.le_of_ble_eq_true rfl⟩) rfl rfl (Nat.le_of_ble_eq_true rfl) ⟨Nat.zero_le _, Nat.zero_le _⟩ d_Ref_stores_327 ?_
                  refine Go.aload_n hx hb 0 rfl d_Ref_stores_330 ?_
                  refine Go.dup hx hb rfl d_Ref_stores_331 ?_
                  refine Go.get (v := .int (gI s47 4)) hx hb hts in_Ref hown hK 0 (Rw_0 ad ca _) rfl 8 (by decide) (hts _ k_623) (fun _ h9 => h9) rfl d_Ref_stores_332 ?_
                  refine Go.iconst (v := 2) hx hb (by decide) d_Ref_stores_335 ?_
                  refine Go.isub hx hb d_Ref_stores_336 ?_
                  refine Go.put (ty := (.int)) hx hb hts in_Ref ty_Ref tyok_Ref nm_Ref hown hK 0 (Rw_0 ad ca _) rfl 8 (by decide) (hts _ k_623) (fun _ h9 => h9) rfl (by decide +kernel) rfl rfl (Nat.le_of_ble_eq_true rfl) (uI s47 4 ((gI s47 4) - 2)) (Rs_I4 ad ca _ _) d_Ref_stores_337 ?_
                  refine Go.goto (tgt := 422) hx hb d_Ref_stores_340 rfl ?_
                  exact Go.vret hx hb hr hK hlk h d_Ref_stores_422
              · replace h := (if_neg c291).symm.trans h
                refine Go.iconst (v := 1) hx hb (by decide) d_Ref_stores_294 ?_
                refine Go.goto (tgt := 299) hx hb d_Ref_stores_295 rfl ?_
                refine Go.iconst (v := 2) hx hb (by decide) d_Ref_stores_299 ?_
                obtain ⟨r48, s48, q48, h⟩ := gb_some h
                refine Go.callVi S hK hA 0 (Rw_0 ad ca _) rfl (fun sz9 => m_Ref_needs l D ad ca N _ sz9 _ _ r48 s48 q48) (cwV 2 hts (gwV k_747 k_749 k_40 k_67 k_750) rfl rfl rfl (by decide +kernel) ⟨Nat.le_of_ble_eq_true rfl, Nat.le_of_ble_eq_true rfl⟩) rfl rfl (Nat.le_of_ble_eq_true rfl) ⟨Nat.zero_le _, Nat.zero_le _⟩ d_Ref_stores_300 ?_
                refine Go.if_eq (tgt := 422) hx hb d_Ref_stores_303 rfl (fun c303 => ?_) (fun c303 => ?_)
                · replace h := (if_pos c303).symm.trans h
                  exact Go.vret hx hb hr hK hlk h d_Ref_stores_422
                · replace h := (if_neg c303).symm.trans h
                  refine Go.aload_n hx hb 0 rfl d_Ref_stores_306 ?_
                  refine Go.aload_n hx hb 0 rfl d_Ref_stores_307 ?_
                  refine Go.get (v := .ref (ad 4)) hx hb hts in_Ref hown hK 0 (Rw_0 ad ca _) rfl 7 (by decide) (hts _ k_622) (fun _ h9 => h9) rfl d_Ref_stores_308 ?_
                  refine Go.aload_n hx hb 0 rfl d_Ref_stores_311 ?_
                  refine Go.iconst (v := 1) hx hb (by decide) d_Ref_stores_312 ?_
                  obtain ⟨r49, s49, q49, h⟩ := gb_some h
                  refine Go.callVi S hK hA 0 (Rw_0 ad ca _) rfl (fun sz9 => m_Ref_deep l D ad ca N _ sz9 _ r49 s49 q49) (cwV 1 hts (gwV k_751 k_753 k_41 k_67 k_754) rfl rfl rfl (by decide +kernel) ⟨Nat.le_of_ble_eq_true rfl, Nat.le_of_ble_eq_true rfl⟩) rfl rfl (Nat.le_of_ble_eq_true rfl) ⟨Nat.zero_le _, Nat.zero_le _⟩ d_Ref_stores_313 ?_
                  obtain ⟨c316, h⟩ := gg_some h
                  refine Go.iald (v := gA s49 3 r49.toNatClampNeg) hx hb hK 4 3 (Rw_4 ad ca _) rfl c316 rfl d_Ref_stores_316 ?_
                  refine Go.aload_n hx hb 0 rfl d_Ref_stores_317 ?_
                  refine Go.get (v := .ref (ad 4)) hx hb hts in_Ref hown hK 0 (Rw_0 ad ca _) rfl 7 (by decide) (hts _ k_622) (fun _ h9 => h9) rfl d_Ref_stores_318 ?_
                  refine Go.aload_n hx hb 0 rfl d_Ref_stores_321 ?_
                  refine Go.iconst (v := 0) hx hb (by decide) d_Ref_stores_322 ?_
                  obtain ⟨r50, s50, q50, h⟩ := gb_some h
                  refine Go.callVi S hK hA 0 (Rw_0 ad ca _) rfl (fun sz9 => m_Ref_deep l D ad ca N _ sz9 _ r50 s50 q50) (cwV 1 hts (gwV k_751 k_753 k_41 k_67 k_754) rfl rfl rfl (by decide +kernel) ⟨Nat.le_of_ble_eq_true rfl, Nat.le_of_ble_eq_true rfl⟩) rfl rfl (Nat.le_of_ble_eq_true rfl) ⟨Nat.zero_le _, Nat.zero_le _⟩ d_Ref_stores_323 ?_
                  obtain ⟨c326, h⟩ := gg_some h
                  refine Go.iald (v := gA s50 3 r50.toNatClampNeg) hx hb hK 4 3 (Rw_4 ad ca _) rfl c326 rfl d_Ref_stores_326 ?_
                  obtain ⟨_, s51, q51, h⟩ := gb_some h
                  refine Go.callVv S hK hA 0 (Rw_0 ad ca _) rfl (fun sz9 => m_Ref_puts l D ad ca N _ sz9 _ _ _ s51 q51) (cwV 2 hts (gwV k_775 k_777 k_47 k_67 k_778) rfl rfl rfl (by decide +kernel) ⟨Nat.le_of_ble_eq_true rfl, Nat.le_of_ble_eq_true rfl⟩) rfl rfl (Nat.le_of_ble_eq_true rfl) ⟨Nat.zero_le _, Nat.zero_le _⟩ d_Ref_stores_327 ?_
                  refine Go.aload_n hx hb 0 rfl d_Ref_stores_330 ?_
                  refine Go.dup hx hb rfl d_Ref_stores_331 ?_
                  refine Go.get (v := .int (gI s51 4)) hx hb hts in_Ref hown hK 0 (Rw_0 ad ca _) rfl 8 (by decide) (hts _ k_623) (fun _ h9 => h9) rfl d_Ref_stores_332 ?_
                  refine Go.iconst (v := 2) hx hb (by decide) d_Ref_stores_335 ?_
                  refine Go.isub hx hb d_Ref_stores_336 ?_
                  refine Go.put (ty := (.int)) hx hb hts in_Ref ty_Ref tyok_Ref nm_Ref hown hK 0 (Rw_0 ad ca _) rfl 8 (by decide) (hts _ k_623) (fun _ h9 => h9) rfl (by decide +kernel) rfl rfl (Nat.le_of_ble_eq_true rfl) (uI s51 4 ((gI s51 4) - 2)) (Rs_I4 ad ca _ _) d_Ref_stores_337 ?_
                  refine Go.goto (tgt := 422) hx hb d_Ref_stores_340 rfl ?_
                  exact Go.vret hx hb hr hK hlk h d_Ref_stores_422
          · replace h := (if_neg c248).symm.trans h
            exact Go.vret hx hb hr hK hlk h d_Ref_stores_251
        · replace h := (if_pos c239).symm.trans h
          refine Go.iconst (v := 1) hx hb (by decide) d_Ref_stores_242 ?_
          refine Go.goto (tgt := 247) hx hb d_Ref_stores_243 rfl ?_
          refine Go.ior hx hb d_Ref_stores_247 ?_
          refine Go.if_eq (tgt := 252) hx hb d_Ref_stores_248 rfl (fun c248 => ?_) (fun c248 => ?_)
          · replace h := (if_pos c248).symm.trans h
            refine Go.aload_n hx hb 0 rfl d_Ref_stores_252 ?_
            refine Go.aload_n hx hb 0 rfl d_Ref_stores_253 ?_
            refine Go.get (v := .ref (ad 4)) hx hb hts in_Ref hown hK 0 (Rw_0 ad ca _) rfl 7 (by decide) (hts _ k_622) (fun _ h9 => h9) rfl d_Ref_stores_254 ?_
            refine Go.aload_n hx hb 0 rfl d_Ref_stores_257 ?_
            refine Go.iconst (v := 0) hx hb (by decide) d_Ref_stores_258 ?_
            obtain ⟨r52, s52, q52, h⟩ := gb_some h
            refine Go.callVi S hK hA 0 (Rw_0 ad ca _) rfl (fun sz9 => m_Ref_deep l D ad ca N _ sz9 _ r52 s52 q52) (cwV 1 hts (gwV k_751 k_753 k_41 k_67 k_754) rfl rfl rfl (by decide +kernel) ⟨Nat.le_of_ble_eq_true rfl, Nat.le_of_ble_eq_true rfl⟩) rfl rfl (Nat.le_of_ble_eq_true rfl) ⟨Nat.zero_le _, Nat.zero_le _⟩ d_Ref_stores_259 ?_
            obtain ⟨c262, h⟩ := gg_some h
            refine Go.iald (v := gA s52 3 r52.toNatClampNeg) hx hb hK 4 3 (Rw_4 ad ca _) rfl c262 rfl d_Ref_stores_262 ?_
            refine Go.if_lt (tgt := 298) hx hb d_Ref_stores_263 rfl (fun c263 => ?_) (fun c263 => ?_)
            · replace h := (if_pos c263).symm.trans h
              refine Go.iconst (v := 0) hx hb (by decide) d_Ref_stores_298 ?_
              refine Go.iconst (v := 2) hx hb (by decide) d_Ref_stores_299 ?_
              obtain ⟨r53, s53, q53, h⟩ := gb_some h
              refine Go.callVi S hK hA 0 (Rw_0 ad ca _) rfl (fun sz9 => m_Ref_needs l D ad ca N _ sz9 _ _ r53 s53 q53) (cwV 2 hts (gwV k_747 k_749 k_40 k_67 k_750) rfl rfl rfl (by decide +kernel) ⟨Nat.le_of_ble_eq_true rfl, Nat.le_of_ble_eq_true rfl⟩) rfl rfl (Nat.le_of_ble_eq_true rfl) ⟨Nat.zero_le _, Nat.zero_le _⟩ d_Ref_stores_300 ?_
              refine Go.if_eq (tgt := 422) hx hb d_Ref_stores_303 rfl (fun c303 => ?_) (fun c303 => ?_)
              · replace h := (if_pos c303).symm.trans h
                exact Go.vret hx hb hr hK hlk h d_Ref_stores_422
              · replace h := (if_neg c303).symm.trans h
                refine Go.aload_n hx hb 0 rfl d_Ref_stores_306 ?_
                refine Go.aload_n hx hb 0 rfl d_Ref_stores_307 ?_
                refine Go.get (v := .ref (ad 4)) hx hb hts in_Ref hown hK 0 (Rw_0 ad ca _) rfl 7 (by decide) (hts _ k_622) (fun _ h9 => h9) rfl d_Ref_stores_308 ?_
                refine Go.aload_n hx hb 0 rfl d_Ref_stores_311 ?_
                refine Go.iconst (v := 1) hx hb (by decide) d_Ref_stores_312 ?_
                obtain ⟨r54, s54, q54, h⟩ := gb_some h
                refine Go.callVi S hK hA 0 (Rw_0 ad ca _) rfl (fun sz9 => m_Ref_deep l D ad ca N _ sz9 _ r54 s54 q54) (cwV 1 hts (gwV k_751 k_753 k_41 k_67 k_754) rfl rfl rfl (by decide +kernel) ⟨Nat.le_of_ble_eq_true rfl, Nat.le_of_ble_eq_true rfl⟩) rfl rfl (Nat.le_of_ble_eq_true rfl) ⟨Nat.zero_le _, Nat.zero_le _⟩ d_Ref_stores_313 ?_
                obtain ⟨c316, h⟩ := gg_some h
                refine Go.iald (v := gA s54 3 r54.toNatClampNeg) hx hb hK 4 3 (Rw_4 ad ca _) rfl c316 rfl d_Ref_stores_316 ?_
                refine Go.aload_n hx hb 0 rfl d_Ref_stores_317 ?_
                refine Go.get (v := .ref (ad 4)) hx hb hts in_Ref hown hK 0 (Rw_0 ad ca _) rfl 7 (by decide) (hts _ k_622) (fun _ h9 => h9) rfl d_Ref_stores_318 ?_
                refine Go.aload_n hx hb 0 rfl d_Ref_stores_321 ?_
                refine Go.iconst (v := 0) hx hb (by decide) d_Ref_stores_322 ?_
                obtain ⟨r55, s55, q55, h⟩ := gb_some h
                refine Go.callVi S hK hA 0 (Rw_0 ad ca _) rfl (fun sz9 => m_Ref_deep l D ad ca N _ sz9 _ r55 s55 q55) (cwV 1 hts (gwV k_751 k_753 k_41 k_67 k_754) rfl rfl rfl (by decide +kernel) ⟨Nat.le_of_ble_eq_true rfl, Nat.le_of_ble_eq_true rfl⟩) rfl rfl (Nat.le_of_ble_eq_true rfl) ⟨Nat.zero_le _, Nat.zero_le _⟩ d_Ref_stores_323 ?_
                obtain ⟨c326, h⟩ := gg_some h
                refine Go.iald (v := gA s55 3 r55.toNatClampNeg) hx hb hK 4 3 (Rw_4 ad ca _) rfl c326 rfl d_Ref_stores_326 ?_
                obtain ⟨_, s56, q56, h⟩ := gb_some h
                refine Go.callVv S hK hA 0 (Rw_0 ad ca _) rfl (fun sz9 => m_Ref_puts l D ad ca N _ sz9 _ _ _ s56 q56) (cwV 2 hts (gwV k_775 k_777 k_47 k_67 k_778) rfl rfl rfl (by decide +kernel) ⟨Nat.le_of_ble_eq_true rfl, Nat.le_of_ble_eq_true rfl⟩) rfl rfl (Nat.le_of_ble_eq_true rfl) ⟨Nat.zero_le _, Nat.zero_le _⟩ d_Ref_stores_327 ?_
                refine Go.aload_n hx hb 0 rfl d_Ref_stores_330 ?_
                refine Go.dup hx hb rfl d_Ref_stores_331 ?_
                refine Go.get (v := .int (gI s56 4)) hx hb hts in_Ref hown hK 0 (Rw_0 ad ca _) rfl 8 (by decide) (hts _ k_623) (fun _ h9 => h9) rfl d_Ref_stores_332 ?_
                refine Go.iconst (v := 2) hx hb (by decide) d_Ref_stores_335 ?_
                refine Go.isub hx hb d_Ref_stores_336 ?_
                refine Go.put (ty := (.int)) hx hb hts in_Ref ty_Ref tyok_Ref nm_Ref hown hK 0 (Rw_0 ad ca _) rfl 8 (by decide) (hts _ k_623) (fun _ h9 => h9) rfl (by decide +kernel) rfl rfl (Nat.le_of_ble_eq_true rfl) (uI s56 4 ((gI s56 4) - 2)) (Rs_I4 ad ca _ _) d_Ref_stores_337 ?_
                refine Go.goto (tgt := 422) hx hb d_Ref_stores_340 rfl ?_
                exact Go.vret hx hb hr hK hlk h d_Ref_stores_422
            · replace h := (if_neg c263).symm.trans h
              refine Go.aload_n hx hb 0 rfl d_Ref_stores_266 ?_
              refine Go.get (v := .ref (ad 4)) hx hb hts in_Ref hown hK 0 (Rw_0 ad ca _) rfl 7 (by decide) (hts _ k_622) (fun _ h9 => h9) rfl d_Ref_stores_267 ?_
              refine Go.aload_n hx hb 0 rfl d_Ref_stores_270 ?_
              refine Go.iconst (v := 0) hx hb (by decide) d_Ref_stores_271 ?_
              obtain ⟨r57, s57, q57, h⟩ := gb_some h
              refine Go.callVi S hK hA 0 (Rw_0 ad ca _) rfl (fun sz9 => m_Ref_deep l D ad ca N _ sz9 _ r57 s57 q57) (cwV 1 hts (gwV k_751 k_753 k_41 k_67 k_754) rfl rfl rfl (by decide +kernel) ⟨Nat.le_of_ble_eq_true rfl, Nat.le_of_ble_eq_true rfl⟩) rfl rfl (Nat.le_of_ble_eq_true rfl) ⟨Nat.zero_le _, Nat.zero_le _⟩ d_Ref_stores_272 ?_
              obtain ⟨c275, h⟩ := gg_some h
              refine Go.iald (v := gA s57 3 r57.toNatClampNeg) hx hb hK 4 3 (Rw_4 ad ca _) rfl c275 rfl d_Ref_stores_275 ?_
              refine Go.aload_n hx hb 0 rfl d_Ref_stores_276 ?_
              refine Go.get (v := .ref (ad 10)) hx hb hts in_Ref hown hK 0 (Rw_0 ad ca _) rfl 15 (by decide) (hts _ k_630) (fun _ h9 => h9) rfl d_Ref_stores_277 ?_
              refine Go.aload_n hx hb 0 rfl d_Ref_stores_280 ?_
              refine Go.get (v := .ref (ad 4)) hx hb hts in_Ref hown hK 0 (Rw_0 ad ca _) rfl 7 (by decide) (hts _ k_622) (fun _ h9 => h9) rfl d_Ref_stores_281 ?_
              refine Go.aload_n hx hb 0 rfl d_Ref_stores_284 ?_
              refine Go.iconst (v := 1) hx hb (by decide) d_Ref_stores_285 ?_
              obtain ⟨r58, s58, q58, h⟩ := gb_some h
              refine Go.callVi S hK hA 0 (Rw_0 ad ca _) rfl (fun sz9 => m_Ref_deep l D ad ca N _ sz9 _ r58 s58 q58) (cwV 1 hts (gwV k_751 k_753 k_41 k_67 k_754) rfl rfl rfl (by decide +kernel) ⟨Nat.le_of_ble_eq_true rfl, Nat.le_of_ble_eq_true rfl⟩) rfl rfl (Nat.le_of_ble_eq_true rfl) ⟨Nat.zero_le _, Nat.zero_le _⟩ d_Ref_stores_286 ?_
              obtain ⟨c289, h⟩ := gg_some h
              refine Go.iald (v := gA s58 3 r58.toNatClampNeg) hx hb hK 4 3 (Rw_4 ad ca _) rfl c289 rfl d_Ref_stores_289 ?_
              obtain ⟨c290, h⟩ := gg_some h
              refine Go.iald (v := gA s58 9 (gA s58 3 r58.toNatClampNeg).toNatClampNeg) hx hb hK 10 9 (Rw_10 ad ca _) rfl c290 rfl d_Ref_stores_290 ?_
              refine Go.icmp_ge (tgt := 298) hx hb d_Ref_stores_291 rfl (fun c291 => ?_) (fun c291 => ?_)
              · replace h := (if_pos c291).symm.trans h
                refine Go.iconst (v := 0) hx hb (by decide) d_Ref_stores_298 ?_
                refine Go.iconst (v := 2) hx hb (by decide) d_Ref_stores_299 ?_
                obtain ⟨r59, s59, q59, h⟩ := gb_some h
                refine Go.callVi S hK hA 0 (Rw_0 ad ca _) rfl (fun sz9 => m_Ref_needs l D ad ca N _ sz9 _ _ r59 s59 q59) (cwV 2 hts (gwV k_747 k_749 k_40 k_67 k_750) rfl rfl rfl (by decide +kernel) ⟨Nat.le_of_ble_eq_true rfl, Nat.le_of_ble_eq_true rfl⟩) rfl rfl (Nat.le_of_ble_eq_true rfl) ⟨Nat.zero_le _, Nat.zero_le _⟩ d_Ref_stores_300 ?_
                refine Go.if_eq (tgt := 422) hx hb d_Ref_stores_303 rfl (fun c303 => ?_) (fun c303 => ?_)
                · replace h := (if_pos c303).symm.trans h
                  exact Go.vret hx hb hr hK hlk h d_Ref_stores_422
                · replace h := (if_neg c303).symm.trans h
                  refine Go.aload_n hx hb 0 rfl d_Ref_stores_306 ?_
                  refine Go.aload_n hx hb 0 rfl d_Ref_stores_307 ?_
                  refine Go.get (v := .ref (ad 4)) hx hb hts in_Ref hown hK 0 (Rw_0 ad ca _) rfl 7 (by decide) (hts _ k_622) (fun _ h9 => h9) rfl d_Ref_stores_308 ?_
                  refine Go.aload_n hx hb 0 rfl d_Ref_stores_311 ?_
                  refine Go.iconst (v := 1) hx hb (by decide) d_Ref_stores_312 ?_
                  obtain ⟨r60, s60, q60, h⟩ := gb_some h
                  refine Go.callVi S hK hA 0 (Rw_0 ad ca _) rfl (fun sz9 => m_Ref_deep l D ad ca N _ sz9 _ r60 s60 q60) (cwV 1 hts (gwV k_751 k_753 k_41 k_67 k_754) rfl rfl rfl (by decide +kernel) ⟨Nat.le_of_ble_eq_true rfl, Nat.le_of_ble_eq_true rfl⟩) rfl rfl (Nat.le_of_ble_eq_true rfl) ⟨Nat.zero_le _, Nat.zero_le _⟩ d_Ref_stores_313 ?_
                  obtain ⟨c316, h⟩ := gg_some h
                  refine Go.iald (v := gA s60 3 r60.toNatClampNeg) hx hb hK 4 3 (Rw_4 ad ca _) rfl c316 rfl d_Ref_stores_316 ?_
                  refine Go.aload_n hx hb 0 rfl d_Ref_stores_317 ?_
                  refine Go.get (v := .ref (ad 4)) hx hb hts in_Ref hown hK 0 (Rw_0 ad ca _) rfl 7 (by decide) (hts _ k_622) (fun _ h9 => h9) rfl d_Ref_stores_318 ?_
                  refine Go.aload_n hx hb 0 rfl d_Ref_stores_321 ?_
                  refine Go.iconst (v := 0) hx hb (by decide) d_Ref_stores_322 ?_
                  obtain ⟨r61, s61, q61, h⟩ := gb_some h
                  refine Go.callVi S hK hA 0 (Rw_0 ad ca _) rfl (fun sz9 => m_Ref_deep l D ad ca N _ sz9 _ r61 s61 q61) (cwV 1 hts (gwV k_751 k_753 k_41 k_67 k_754) rfl rfl rfl (by decide +kernel) ⟨Nat.le_of_ble_eq_true rfl, Nat.le_of_ble_eq_true rfl⟩) rfl rfl (Nat.le_of_ble_eq_true rfl) ⟨Nat.zero_le _, Nat.zero_le _⟩ d_Ref_stores_323 ?_
                  obtain ⟨c326, h⟩ := gg_some h
                  refine Go.iald (v := gA s61 3 r61.toNatClampNeg) hx hb hK 4 3 (Rw_4 ad ca _) rfl c326 rfl d_Ref_stores_326 ?_
                  obtain ⟨_, s62, q62, h⟩ := gb_some h
                  refine Go.callVv S hK hA 0 (Rw_0 ad ca _) rfl (fun sz9 => m_Ref_puts l D ad ca N _ sz9 _ _ _ s62 q62) (cwV 2 hts (gwV k_775 k_777 k_47 k_67 k_778) rfl rfl rfl (by decide +kernel) ⟨Nat.le_of_ble_eq_true rfl, Nat.le_of_ble_eq_true rfl⟩) rfl rfl (Nat.le_of_ble_eq_true rfl) ⟨Nat.zero_le _, Nat.zero_le _⟩ d_Ref_stores_327 ?_
                  refine Go.aload_n hx hb 0 rfl d_Ref_stores_330 ?_
                  refine Go.dup hx hb rfl d_Ref_stores_331 ?_
                  refine Go.get (v := .int (gI s62 4)) hx hb hts in_Ref hown hK 0 (Rw_0 ad ca _) rfl 8 (by decide) (hts _ k_623) (fun _ h9 => h9) rfl d_Ref_stores_332 ?_
                  refine Go.iconst (v := 2) hx hb (by decide) d_Ref_stores_335 ?_
                  refine Go.isub hx hb d_Ref_stores_336 ?_
                  refine Go.put (ty := (.int)) hx hb hts in_Ref ty_Ref tyok_Ref nm_Ref hown hK 0 (Rw_0 ad ca _) rfl 8 (by decide) (hts _ k_623) (fun _ h9 => h9) rfl (by decide +kernel) rfl rfl (Nat.le_of_ble_eq_true rfl) (uI s62 4 ((gI s62 4) - 2)) (Rs_I4 ad ca _ _) d_Ref_stores_337 ?_
                  refine Go.goto (tgt := 422) hx hb d_Ref_stores_340 rfl ?_
                  exact Go.vret hx hb hr hK hlk h d_Ref_stores_422
              · replace h := (if_neg c291).symm.trans h
                refine Go.iconst (v := 1) hx hb (by decide) d_Ref_stores_294 ?_
                refine Go.goto (tgt := 299) hx hb d_Ref_stores_295 rfl ?_
                refine Go.iconst (v := 2) hx hb (by decide) d_Ref_stores_299 ?_
                obtain ⟨r63, s63, q63, h⟩ := gb_some h
                refine Go.callVi S hK hA 0 (Rw_0 ad ca _) rfl (fun sz9 => m_Ref_needs l D ad ca N _ sz9 _ _ r63 s63 q63) (cwV 2 hts (gwV k_747 k_749 k_40 k_67 k_750) rfl rfl rfl (by decide +kernel) ⟨Nat.le_of_ble_eq_true rfl, Nat.le_of_ble_eq_true rfl⟩) rfl rfl (Nat.le_of_ble_eq_true rfl) ⟨Nat.zero_le _, Nat.zero_le _⟩ d_Ref_stores_300 ?_
                refine Go.if_eq (tgt := 422) hx hb d_Ref_stores_303 rfl (fun c303 => ?_) (fun c303 => ?_)
                · replace h := (if_pos c303).symm.trans h
                  exact Go.vret hx hb hr hK hlk h d_Ref_stores_422
                · replace h := (if_neg c303).symm.trans h
                  refine Go.aload_n hx hb 0 rfl d_Ref_stores_306 ?_
                  refine Go.aload_n hx hb 0 rfl d_Ref_stores_307 ?_
                  refine Go.get (v := .ref (ad 4)) hx hb hts in_Ref hown hK 0 (Rw_0 ad ca _) rfl 7 (by decide) (hts _ k_622) (fun _ h9 => h9) rfl d_Ref_stores_308 ?_
                  refine Go.aload_n hx hb 0 rfl d_Ref_stores_311 ?_
                  refine Go.iconst (v := 1) hx hb (by decide) d_Ref_stores_312 ?_
                  obtain ⟨r64, s64, q64, h⟩ := gb_some h
                  refine Go.callVi S hK hA 0 (Rw_0 ad ca _) rfl (fun sz9 => m_Ref_deep l D ad ca N _ sz9 _ r64 s64 q64) (cwV 1 hts (gwV k_751 k_753 k_41 k_67 k_754) rfl rfl rfl (by decide +kernel) ⟨Nat.le_of_ble_eq_true rfl, Nat.le_of_ble_eq_true rfl⟩) rfl rfl (Nat.le_of_ble_eq_true rfl) ⟨Nat.zero_le _, Nat.zero_le _⟩ d_Ref_stores_313 ?_
                  obtain ⟨c316, h⟩ := gg_some h
                  refine Go.iald (v := gA s64 3 r64.toNatClampNeg) hx hb hK 4 3 (Rw_4 ad ca _) rfl c316 rfl d_Ref_stores_316 ?_
                  refine Go.aload_n hx hb 0 rfl d_Ref_stores_317 ?_
                  refine Go.get (v := .ref (ad 4)) hx hb hts in_Ref hown hK 0 (Rw_0 ad ca _) rfl 7 (by decide) (hts _ k_622) (fun _ h9 => h9) rfl d_Ref_stores_318 ?_
                  refine Go.aload_n hx hb 0 rfl d_Ref_stores_321 ?_
                  refine Go.iconst (v := 0) hx hb (by decide) d_Ref_stores_322 ?_
                  obtain ⟨r65, s65, q65, h⟩ := gb_some h
                  refine Go.callVi S hK hA 0 (Rw_0 ad ca _) rfl (fun sz9 => m_Ref_deep l D ad ca N _ sz9 _ r65 s65 q65) (cwV 1 hts (gwV k_751 k_753 k_41 k_67 k_754) rfl rfl rfl (by decide +kernel) ⟨Nat.le_of_ble_eq_true rfl, Nat.le_of_ble_eq_true rfl⟩) rfl rfl (Nat.le_of_ble_eq_true rfl) ⟨Nat.zero_le _, Nat.zero_le _⟩ d_Ref_stores_323 ?_
                  obtain ⟨c326, h⟩ := gg_some h
                  refine Go.iald (v := gA s65 3 r65.toNatClampNeg) hx hb hK 4 3 (Rw_4 ad ca _) rfl c326 rfl d_Ref_stores_326 ?_
                  obtain ⟨_, s66, q66, h⟩ := gb_some h
                  refine Go.callVv S hK hA 0 (Rw_0 ad ca _) rfl (fun sz9 => m_Ref_puts l D ad ca N _ sz9 _ _ _ s66 q66) (cwV 2 hts (gwV k_775 k_777 k_47 k_67 k_778) rfl rfl rfl (by decide +kernel) ⟨Nat.le_of_ble_eq_true rfl, Nat.le_of_ble_eq_true rfl⟩) rfl rfl (Nat.le_of_ble_eq_true rfl) ⟨Nat.zero_le _, Nat.zero_le _⟩ d_Ref_stores_327 ?_
                  refine Go.aload_n hx hb 0 rfl d_Ref_stores_330 ?_
                  refine Go.dup hx hb rfl d_Ref_stores_331 ?_
                  refine Go.get (v := .int (gI s66 4)) hx hb hts in_Ref hown hK 0 (Rw_0 ad ca _) rfl 8 (by decide) (hts _ k_623) (fun _ h9 => h9) rfl d_Ref_stores_332 ?_
                  refine Go.iconst (v := 2) hx hb (by decide) d_Ref_stores_335 ?_
                  refine Go.isub hx hb d_Ref_stores_336 ?_
                  refine Go.put (ty := (.int)) hx hb hts in_Ref ty_Ref tyok_Ref nm_Ref hown hK 0 (Rw_0 ad ca _) rfl 8 (by decide) (hts _ k_623) (fun _ h9 => h9) rfl (by decide +kernel) rfl rfl (Nat.le_of_ble_eq_true rfl) (uI s66 4 ((gI s66 4) - 2)) (Rs_I4 ad ca _ _) d_Ref_stores_337 ?_
                  refine Go.goto (tgt := 422) hx hb d_Ref_stores_340 rfl ?_
                  exact Go.vret hx hb hr hK hlk h d_Ref_stores_422
          · replace h := (if_neg c248).symm.trans h
            exact Go.vret hx hb hr hK hlk h d_Ref_stores_251
      · replace h := (if_pos c225).symm.trans h
        refine Go.iconst (v := 1) hx hb (by decide) d_Ref_stores_228 ?_
        refine Go.goto (tgt := 233) hx hb d_Ref_stores_229 rfl ?_
        refine Go.aload_n hx hb 0 rfl d_Ref_stores_233 ?_
        refine Go.iconst (v := 0) hx hb (by decide) d_Ref_stores_234 ?_
        refine Go.iconst (v := 3) hx hb (by decide) d_Ref_stores_235 ?_
        obtain ⟨r67, s67, q67, h⟩ := gb_some h
        refine Go.callVi S hK hA 0 (Rw_0 ad ca _) rfl (fun sz9 => m_Ref_isSort l D ad ca N _ sz9 _ _ r67 s67 q67) (cwV 2 hts (gwV k_767 k_769 k_45 k_67 k_770) rfl rfl rfl (by decide +kernel) ⟨Nat.le_of_ble_eq_true rfl, Nat.le_of_ble_eq_true rfl⟩) rfl rfl (Nat.le_of_ble_eq_true rfl) ⟨Nat.zero_le _, Nat.zero_le _⟩ d_Ref_stores_236 ?_
        refine Go.if_ne (tgt := 246) hx hb d_Ref_stores_239 rfl (fun c239 => ?_) (fun c239 => ?_)
        · replace h := (if_neg c239).symm.trans h
          refine Go.iconst (v := 0) hx hb (by decide) d_Ref_stores_246 ?_
          refine Go.ior hx hb d_Ref_stores_247 ?_
          refine Go.if_eq (tgt := 252) hx hb d_Ref_stores_248 rfl (fun c248 => ?_) (fun c248 => ?_)
          · replace h := (if_pos c248).symm.trans h
            refine Go.aload_n hx hb 0 rfl d_Ref_stores_252 ?_
            refine Go.aload_n hx hb 0 rfl d_Ref_stores_253 ?_
            refine Go.get (v := .ref (ad 4)) hx hb hts in_Ref hown hK 0 (Rw_0 ad ca _) rfl 7 (by decide) (hts _ k_622) (fun _ h9 => h9) rfl d_Ref_stores_254 ?_
            refine Go.aload_n hx hb 0 rfl d_Ref_stores_257 ?_
            refine Go.iconst (v := 0) hx hb (by decide) d_Ref_stores_258 ?_
            obtain ⟨r68, s68, q68, h⟩ := gb_some h
            refine Go.callVi S hK hA 0 (Rw_0 ad ca _) rfl (fun sz9 => m_Ref_deep l D ad ca N _ sz9 _ r68 s68 q68) (cwV 1 hts (gwV k_751 k_753 k_41 k_67 k_754) rfl rfl rfl (by decide +kernel) ⟨Nat.le_of_ble_eq_true rfl, Nat.le_of_ble_eq_true rfl⟩) rfl rfl (Nat.le_of_ble_eq_true rfl) ⟨Nat.zero_le _, Nat.zero_le _⟩ d_Ref_stores_259 ?_
            obtain ⟨c262, h⟩ := gg_some h
            refine Go.iald (v := gA s68 3 r68.toNatClampNeg) hx hb hK 4 3 (Rw_4 ad ca _) rfl c262 rfl d_Ref_stores_262 ?_
            refine Go.if_lt (tgt := 298) hx hb d_Ref_stores_263 rfl (fun c263 => ?_) (fun c263 => ?_)
            · replace h := (if_pos c263).symm.trans h
              refine Go.iconst (v := 0) hx hb (by decide) d_Ref_stores_298 ?_
              refine Go.iconst (v := 2) hx hb (by decide) d_Ref_stores_299 ?_
              obtain ⟨r69, s69, q69, h⟩ := gb_some h
              refine Go.callVi S hK hA 0 (Rw_0 ad ca _) rfl (fun sz9 => m_Ref_needs l D ad ca N _ sz9 _ _ r69 s69 q69) (cwV 2 hts (gwV k_747 k_749 k_40 k_67 k_750) rfl rfl rfl (by decide +kernel) ⟨Nat.le_of_ble_eq_true rfl, Nat.le_of_ble_eq_true rfl⟩) rfl rfl (Nat.le_of_ble_eq_true rfl) ⟨Nat.zero_le _, Nat.zero_le _⟩ d_Ref_stores_300 ?_
              refine Go.if_eq (tgt := 422) hx hb d_Ref_stores_303 rfl (fun c303 => ?_) (fun c303 => ?_)
              · replace h := (if_pos c303).symm.trans h
                exact Go.vret hx hb hr hK hlk h d_Ref_stores_422
              · replace h := (if_neg c303).symm.trans h
                refine Go.aload_n hx hb 0 rfl d_Ref_stores_306 ?_
                refine Go.aload_n hx hb 0 rfl d_Ref_stores_307 ?_
                refine Go.get (v := .ref (ad 4)) hx hb hts in_Ref hown hK 0 (Rw_0 ad ca _) rfl 7 (by decide) (hts _ k_622) (fun _ h9 => h9) rfl d_Ref_stores_308 ?_
                refine Go.aload_n hx hb 0 rfl d_Ref_stores_311 ?_
                refine Go.iconst (v := 1) hx hb (by decide) d_Ref_stores_312 ?_
                obtain ⟨r70, s70, q70, h⟩ := gb_some h
                refine Go.callVi S hK hA 0 (Rw_0 ad ca _) rfl (fun sz9 => m_Ref_deep l D ad ca N _ sz9 _ r70 s70 q70) (cwV 1 hts (gwV k_751 k_753 k_41 k_67 k_754) rfl rfl rfl (by decide +kernel) ⟨Nat.le_of_ble_eq_true rfl, Nat.le_of_ble_eq_true rfl⟩) rfl rfl (Nat.le_of_ble_eq_true rfl) ⟨Nat.zero_le _, Nat.zero_le _⟩ d_Ref_stores_313 ?_
                obtain ⟨c316, h⟩ := gg_some h
                refine Go.iald (v := gA s70 3 r70.toNatClampNeg) hx hb hK 4 3 (Rw_4 ad ca _) rfl c316 rfl d_Ref_stores_316 ?_
                refine Go.aload_n hx hb 0 rfl d_Ref_stores_317 ?_
                refine Go.get (v := .ref (ad 4)) hx hb hts in_Ref hown hK 0 (Rw_0 ad ca _) rfl 7 (by decide) (hts _ k_622) (fun _ h9 => h9) rfl d_Ref_stores_318 ?_
                refine Go.aload_n hx hb 0 rfl d_Ref_stores_321 ?_
                refine Go.iconst (v := 0) hx hb (by decide) d_Ref_stores_322 ?_
                obtain ⟨r71, s71, q71, h⟩ := gb_some h
                refine Go.callVi S hK hA 0 (Rw_0 ad ca _) rfl (fun sz9 => m_Ref_deep l D ad ca N _ sz9 _ r71 s71 q71) (cwV 1 hts (gwV k_751 k_753 k_41 k_67 k_754) rfl rfl rfl (by decide +kernel) ⟨Nat.le_of_ble_eq_true rfl, Nat.le_of_ble_eq_true rfl⟩) rfl rfl (Nat.le_of_ble_eq_true rfl) ⟨Nat.zero_le _, Nat.zero_le _⟩ d_Ref_stores_323 ?_
                obtain ⟨c326, h⟩ := gg_some h
                refine Go.iald (v := gA s71 3 r71.toNatClampNeg) hx hb hK 4 3 (Rw_4 ad ca _) rfl c326 rfl d_Ref_stores_326 ?_
                obtain ⟨_, s72, q72, h⟩ := gb_some h
                refine Go.callVv S hK hA 0 (Rw_0 ad ca _) rfl (fun sz9 => m_Ref_puts l D ad ca N _ sz9 _ _ _ s72 q72) (cwV 2 hts (gwV k_775 k_777 k_47 k_67 k_778) rfl rfl rfl (by decide +kernel) ⟨Nat.le_of_ble_eq_true rfl, Nat.le_of_ble_eq_true rfl⟩) rfl rfl (Nat.le_of_ble_eq_true rfl) ⟨Nat.zero_le _, Nat.zero_le _⟩ d_Ref_stores_327 ?_
                refine Go.aload_n hx hb 0 rfl d_Ref_stores_330 ?_
                refine Go.dup hx hb rfl d_Ref_stores_331 ?_
                refine Go.get (v := .int (gI s72 4)) hx hb hts in_Ref hown hK 0 (Rw_0 ad ca _) rfl 8 (by decide) (hts _ k_623) (fun _ h9 => h9) rfl d_Ref_stores_332 ?_
                refine Go.iconst (v := 2) hx hb (by decide) d_Ref_stores_335 ?_
                refine Go.isub hx hb d_Ref_stores_336 ?_
                refine Go.put (ty := (.int)) hx hb hts in_Ref ty_Ref tyok_Ref nm_Ref hown hK 0 (Rw_0 ad ca _) rfl 8 (by decide) (hts _ k_623) (fun _ h9 => h9) rfl (by decide +kernel) rfl rfl (Nat.le_of_ble_eq_true rfl) (uI s72 4 ((gI s72 4) - 2)) (Rs_I4 ad ca _ _) d_Ref_stores_337 ?_
                refine Go.goto (tgt := 422) hx hb d_Ref_stores_340 rfl ?_
                exact Go.vret hx hb hr hK hlk h d_Ref_stores_422
            · replace h := (if_neg c263).symm.trans h
              refine Go.aload_n hx hb 0 rfl d_Ref_stores_266 ?_
              refine Go.get (v := .ref (ad 4)) hx hb hts in_Ref hown hK 0 (Rw_0 ad ca _) rfl 7 (by decide) (hts _ k_622) (fun _ h9 => h9) rfl d_Ref_stores_267 ?_
              refine Go.aload_n hx hb 0 rfl d_Ref_stores_270 ?_
              refine Go.iconst (v := 0) hx hb (by decide) d_Ref_stores_271 ?_
              obtain ⟨r73, s73, q73, h⟩ := gb_some h
              refine Go.callVi S hK hA 0 (Rw_0 ad ca _) rfl (fun sz9 => m_Ref_deep l D ad ca N _ sz9 _ r73 s73 q73) (cwV 1 hts (gwV k_751 k_753 k_41 k_67 k_754) rfl rfl rfl (by decide +kernel) ⟨Nat.le_of_ble_eq_true rfl, Nat.le_of_ble_eq_true rfl⟩) rfl rfl (Nat.le_of_ble_eq_true rfl) ⟨Nat.zero_le _, Nat.zero_le _⟩ d_Ref_stores_272 ?_
              obtain ⟨c275, h⟩ := gg_some h
              refine Go.iald (v := gA s73 3 r73.toNatClampNeg) hx hb hK 4 3 (Rw_4 ad ca _) rfl c275 rfl d_Ref_stores_275 ?_
              refine Go.aload_n hx hb 0 rfl d_Ref_stores_276 ?_
              refine Go.get (v := .ref (ad 10)) hx hb hts in_Ref hown hK 0 (Rw_0 ad ca _) rfl 15 (by decide) (hts _ k_630) (fun _ h9 => h9) rfl d_Ref_stores_277 ?_
              refine Go.aload_n hx hb 0 rfl d_Ref_stores_280 ?_
              refine Go.get (v := .ref (ad 4)) hx hb hts in_Ref hown hK 0 (Rw_0 ad ca _) rfl 7 (by decide) (hts _ k_622) (fun _ h9 => h9) rfl d_Ref_stores_281 ?_
              refine Go.aload_n hx hb 0 rfl d_Ref_stores_284 ?_
              refine Go.iconst (v := 1) hx hb (by decide) d_Ref_stores_285 ?_
              obtain ⟨r74, s74, q74, h⟩ := gb_some h
              refine Go.callVi S hK hA 0 (Rw_0 ad ca _) rfl (fun sz9 => m_Ref_deep l D ad ca N _ sz9 _ r74 s74 q74) (cwV 1 hts (gwV k_751 k_753 k_41 k_67 k_754) rfl rfl rfl (by decide +kernel) ⟨Nat.le_of_ble_eq_true rfl, Nat.le_of_ble_eq_true rfl⟩) rfl rfl (Nat.le_of_ble_eq_true rfl) ⟨Nat.zero_le _, Nat.zero_le _⟩ d_Ref_stores_286 ?_
              obtain ⟨c289, h⟩ := gg_some h
              refine Go.iald (v := gA s74 3 r74.toNatClampNeg) hx hb hK 4 3 (Rw_4 ad ca _) rfl c289 rfl d_Ref_stores_289 ?_
              obtain ⟨c290, h⟩ := gg_some h
              refine Go.iald (v := gA s74 9 (gA s74 3 r74.toNatClampNeg).toNatClampNeg) hx hb hK 10 9 (Rw_10 ad ca _) rfl c290 rfl d_Ref_stores_290 ?_
              refine Go.icmp_ge (tgt := 298) hx hb d_Ref_stores_291 rfl (fun c291 => ?_) (fun c291 => ?_)
              · replace h := (if_pos c291).symm.trans h
                refine Go.iconst (v := 0) hx hb (by decide) d_Ref_stores_298 ?_
                refine Go.iconst (v := 2) hx hb (by decide) d_Ref_stores_299 ?_
                obtain ⟨r75, s75, q75, h⟩ := gb_some h
                refine Go.callVi S hK hA 0 (Rw_0 ad ca _) rfl (fun sz9 => m_Ref_needs l D ad ca N _ sz9 _ _ r75 s75 q75) (cwV 2 hts (gwV k_747 k_749 k_40 k_67 k_750) rfl rfl rfl (by decide +kernel) ⟨Nat.le_of_ble_eq_true rfl, Nat.le_of_ble_eq_true rfl⟩) rfl rfl (Nat.le_of_ble_eq_true rfl) ⟨Nat.zero_le _, Nat.zero_le _⟩ d_Ref_stores_300 ?_
                refine Go.if_eq (tgt := 422) hx hb d_Ref_stores_303 rfl (fun c303 => ?_) (fun c303 => ?_)
                · replace h := (if_pos c303).symm.trans h
                  exact Go.vret hx hb hr hK hlk h d_Ref_stores_422
                · replace h := (if_neg c303).symm.trans h
                  refine Go.aload_n hx hb 0 rfl d_Ref_stores_306 ?_
                  refine Go.aload_n hx hb 0 rfl d_Ref_stores_307 ?_
                  refine Go.get (v := .ref (ad 4)) hx hb hts in_Ref hown hK 0 (Rw_0 ad ca _) rfl 7 (by decide) (hts _ k_622) (fun _ h9 => h9) rfl d_Ref_stores_308 ?_
                  refine Go.aload_n hx hb 0 rfl d_Ref_stores_311 ?_
                  refine Go.iconst (v := 1) hx hb (by decide) d_Ref_stores_312 ?_
                  obtain ⟨r76, s76, q76, h⟩ := gb_some h
                  refine Go.callVi S hK hA 0 (Rw_0 ad ca _) rfl (fun sz9 => m_Ref_deep l D ad ca N _ sz9 _ r76 s76 q76) (cwV 1 hts (gwV k_751 k_753 k_41 k_67 k_754) rfl rfl rfl (by decide +kernel) ⟨Nat.le_of_ble_eq_true rfl, Nat.le_of_ble_eq_true rfl⟩) rfl rfl (Nat.le_of_ble_eq_true rfl) ⟨Nat.zero_le _, Nat.zero_le _⟩ d_Ref_stores_313 ?_
                  obtain ⟨c316, h⟩ := gg_some h
                  refine Go.iald (v := gA s76 3 r76.toNatClampNeg) hx hb hK 4 3 (Rw_4 ad ca _) rfl c316 rfl d_Ref_stores_316 ?_
                  refine Go.aload_n hx hb 0 rfl d_Ref_stores_317 ?_
                  refine Go.get (v := .ref (ad 4)) hx hb hts in_Ref hown hK 0 (Rw_0 ad ca _) rfl 7 (by decide) (hts _ k_622) (fun _ h9 => h9) rfl d_Ref_stores_318 ?_
                  refine Go.aload_n hx hb 0 rfl d_Ref_stores_321 ?_
                  refine Go.iconst (v := 0) hx hb (by decide) d_Ref_stores_322 ?_
                  obtain ⟨r77, s77, q77, h⟩ := gb_some h
                  refine Go.callVi S hK hA 0 (Rw_0 ad ca _) rfl (fun sz9 => m_Ref_deep l D ad ca N _ sz9 _ r77 s77 q77) (cwV 1 hts (gwV k_751 k_753 k_41 k_67 k_754) rfl rfl rfl (by decide +kernel) ⟨Nat.le_of_ble_eq_true rfl, Nat.le_of_ble_eq_true rfl⟩) rfl rfl (Nat.le_of_ble_eq_true rfl) ⟨Nat.zero_le _, Nat.zero_le _⟩ d_Ref_stores_323 ?_
                  obtain ⟨c326, h⟩ := gg_some h
                  refine Go.iald (v := gA s77 3 r77.toNatClampNeg) hx hb hK 4 3 (Rw_4 ad ca _) rfl c326 rfl d_Ref_stores_326 ?_
                  obtain ⟨_, s78, q78, h⟩ := gb_some h
                  refine Go.callVv S hK hA 0 (Rw_0 ad ca _) rfl (fun sz9 => m_Ref_puts l D ad ca N _ sz9 _ _ _ s78 q78) (cwV 2 hts (gwV k_775 k_777 k_47 k_67 k_778) rfl rfl rfl (by decide +kernel) ⟨Nat.le_of_ble_eq_true rfl, Nat.le_of_ble_eq_true rfl⟩) rfl rfl (Nat.le_of_ble_eq_true rfl) ⟨Nat.zero_le _, Nat.zero_le _⟩ d_Ref_stores_327 ?_
                  refine Go.aload_n hx hb 0 rfl d_Ref_stores_330 ?_
                  refine Go.dup hx hb rfl d_Ref_stores_331 ?_
                  refine Go.get (v := .int (gI s78 4)) hx hb hts in_Ref hown hK 0 (Rw_0 ad ca _) rfl 8 (by decide) (hts _ k_623) (fun _ h9 => h9) rfl d_Ref_stores_332 ?_
                  refine Go.iconst (v := 2) hx hb (by decide) d_Ref_stores_335 ?_
                  refine Go.isub hx hb d_Ref_stores_336 ?_
                  refine Go.put (ty := (.int)) hx hb hts in_Ref ty_Ref tyok_Ref nm_Ref hown hK 0 (Rw_0 ad ca _) rfl 8 (by decide) (hts _ k_623) (fun _ h9 => h9) rfl (by decide +kernel) rfl rfl (Nat.le_of_ble_eq_true rfl) (uI s78 4 ((gI s78 4) - 2)) (Rs_I4 ad ca _ _) d_Ref_stores_337 ?_
                  refine Go.goto (tgt := 422) hx hb d_Ref_stores_340 rfl ?_
                  exact Go.vret hx hb hr hK hlk h d_Ref_stores_422
              · replace h := (if_neg c291).symm.trans h
                refine Go.iconst (v := 1) hx hb (by decide) d_Ref_stores_294 ?_
                refine Go.goto (tgt := 299) hx hb d_Ref_stores_295 rfl ?_
                refine Go.iconst (v := 2) hx hb (by decide) d_Ref_stores_299 ?_
                obtain ⟨r79, s79, q79, h⟩ := gb_some h
                refine Go.callVi S hK hA 0 (Rw_0 ad ca _) rfl (fun sz9 => m_Ref_needs l D ad ca N _ sz9 _ _ r79 s79 q79) (cwV 2 hts (gwV k_747 k_749 k_40 k_67 k_750) rfl rfl rfl (by decide +kernel) ⟨Nat.le_of_ble_eq_true rfl, Nat.le_of_ble_eq_true rfl⟩) rfl rfl (Nat.le_of_ble_eq_true rfl) ⟨Nat.zero_le _, Nat.zero_le _⟩ d_Ref_stores_300 ?_
                refine Go.if_eq (tgt := 422) hx hb d_Ref_stores_303 rfl (fun c303 => ?_) (fun c303 => ?_)
                · replace h := (if_pos c303).symm.trans h
                  exact Go.vret hx hb hr hK hlk h d_Ref_stores_422
                · replace h := (if_neg c303).symm.trans h
                  refine Go.aload_n hx hb 0 rfl d_Ref_stores_306 ?_
                  refine Go.aload_n hx hb 0 rfl d_Ref_stores_307 ?_
                  refine Go.get (v := .ref (ad 4)) hx hb hts in_Ref hown hK 0 (Rw_0 ad ca _) rfl 7 (by decide) (hts _ k_622) (fun _ h9 => h9) rfl d_Ref_stores_308 ?_
                  refine Go.aload_n hx hb 0 rfl d_Ref_stores_311 ?_
                  refine Go.iconst (v := 1) hx hb (by decide) d_Ref_stores_312 ?_
                  obtain ⟨r80, s80, q80, h⟩ := gb_some h
                  refine Go.callVi S hK hA 0 (Rw_0 ad ca _) rfl (fun sz9 => m_Ref_deep l D ad ca N _ sz9 _ r80 s80 q80) (cwV 1 hts (gwV k_751 k_753 k_41 k_67 k_754) rfl rfl rfl (by decide +kernel) ⟨Nat.le_of_ble_eq_true rfl, Nat.le_of_ble_eq_true rfl⟩) rfl rfl (Nat.le_of_ble_eq_true rfl) ⟨Nat.zero_le _, Nat.zero_le _⟩ d_Ref_stores_313 ?_
                  obtain ⟨c316, h⟩ := gg_some h
                  refine Go.iald (v := gA s80 3 r80.toNatClampNeg) hx hb hK 4 3 (Rw_4 ad ca _) rfl c316 rfl d_Ref_stores_316 ?_
                  refine Go.aload_n hx hb 0 rfl d_Ref_stores_317 ?_
                  refine Go.get (v := .ref (ad 4)) hx hb hts in_Ref hown hK 0 (Rw_0 ad ca _) rfl 7 (by decide) (hts _ k_622) (fun _ h9 => h9) rfl d_Ref_stores_318 ?_
                  refine Go.aload_n hx hb 0 rfl d_Ref_stores_321 ?_
                  refine Go.iconst (v := 0) hx hb (by decide) d_Ref_stores_322 ?_
                  obtain ⟨r81, s81, q81, h⟩ := gb_some h
                  refine Go.callVi S hK hA 0 (Rw_0 ad ca _) rfl (fun sz9 => m_Ref_deep l D ad ca N _ sz9 _ r81 s81 q81) (cwV 1 hts (gwV k_751 k_753 k_41 k_67 k_754) rfl rfl rfl (by decide +kernel) ⟨Nat.le_of_ble_eq_true rfl, Nat.le_of_ble_eq_true rfl⟩) rfl rfl (Nat.le_of_ble_eq_true rfl) ⟨Nat.zero_le _, Nat.zero_le _⟩ d_Ref_stores_323 ?_
                  obtain ⟨c326, h⟩ := gg_some h
                  refine Go.iald (v := gA s81 3 r81.toNatClampNeg) hx hb hK 4 3 (Rw_4 ad ca _) rfl c326 rfl d_Ref_stores_326 ?_
                  obtain ⟨_, s82, q82, h⟩ := gb_some h
                  refine Go.callVv S hK hA 0 (Rw_0 ad ca _) rfl (fun sz9 => m_Ref_puts l D ad ca N _ sz9 _ _ _ s82 q82) (cwV 2 hts (gwV k_775 k_777 k_47 k_67 k_778) rfl rfl rfl (by decide +kernel) ⟨Nat.le_of_ble_eq_true rfl, Nat.le_of_ble_eq_true rfl⟩) rfl rfl (Nat.le_of_ble_eq_true rfl) ⟨Nat.zero_le _, Nat.zero_le _⟩ d_Ref_stores_327 ?_
                  refine Go.aload_n hx hb 0 rfl d_Ref_stores_330 ?_
                  refine Go.dup hx hb rfl d_Ref_stores_331 ?_
                  refine Go.get (v := .int (gI s82 4)) hx hb hts in_Ref hown hK 0 (Rw_0 ad ca _) rfl 8 (by decide) (hts _ k_623) (fun _ h9 => h9) rfl d_Ref_stores_332 ?_
                  refine Go.iconst (v := 2) hx hb (by decide) d_Ref_stores_335 ?_
                  refine Go.isub hx hb d_Ref_stores_336 ?_
                  refine Go.put (ty := (.int)) hx hb hts in_Ref ty_Ref tyok_Ref nm_Ref hown hK 0 (Rw_0 ad ca _) rfl 8 (by decide) (hts _ k_623) (fun _ h9 => h9) rfl (by decide +kernel) rfl rfl (Nat.le_of_ble_eq_true rfl) (uI s82 4 ((gI s82 4) - 2)) (Rs_I4 ad ca _ _) d_Ref_stores_337 ?_
                  refine Go.goto (tgt := 422) hx hb d_Ref_stores_340 rfl ?_
                  exact Go.vret hx hb hr hK hlk h d_Ref_stores_422
          · replace h := (if_neg c248).symm.trans h
            exact Go.vret hx hb hr hK hlk h d_Ref_stores_251
        · replace h := (if_pos c239).symm.trans h
          refine Go.iconst (v := 1) hx hb (by decide) d_Ref_stores_242 ?_
          refine Go.goto (tgt := 247) hx hb d_Ref_stores_243 rfl ?_
          refine Go.ior hx hb d_Ref_stores_247 ?_
          refine Go.if_eq (tgt := 252) hx hb d_Ref_stores_248 rfl (fun c248 => ?_) (fun c248 => ?_)
          · replace h := (if_pos c248).symm.trans h
            refine Go.aload_n hx hb 0 rfl d_Ref_stores_252 ?_
            refine Go.aload_n hx hb 0 rfl d_Ref_stores_253 ?_
            refine Go.get (v := .ref (ad 4)) hx hb hts in_Ref hown hK 0 (Rw_0 ad ca _) rfl 7 (by decide) (hts _ k_622) (fun _ h9 => h9) rfl d_Ref_stores_254 ?_
            refine Go.aload_n hx hb 0 rfl d_Ref_stores_257 ?_
            refine Go.iconst (v := 0) hx hb (by decide) d_Ref_stores_258 ?_
            obtain ⟨r83, s83, q83, h⟩ := gb_some h
            refine Go.callVi S hK hA 0 (Rw_0 ad ca _) rfl (fun sz9 => m_Ref_deep l D ad ca N _ sz9 _ r83 s83 q83) (cwV 1 hts (gwV k_751 k_753 k_41 k_67 k_754) rfl rfl rfl (by decide +kernel) ⟨Nat.le_of_ble_eq_true rfl, Nat.le_of_ble_eq_true rfl⟩) rfl rfl (Nat.le_of_ble_eq_true rfl) ⟨Nat.zero_le _, Nat.zero_le _⟩ d_Ref_stores_259 ?_
            obtain ⟨c262, h⟩ := gg_some h
            refine Go.iald (v := gA s83 3 r83.toNatClampNeg) hx hb hK 4 3 (Rw_4 ad ca _) rfl c262 rfl d_Ref_stores_262 ?_
            refine Go.if_lt (tgt := 298) hx hb d_Ref_stores_263 rfl (fun c263 => ?_) (fun c263 => ?_)
            · replace h := (if_pos c263).symm.trans h
              refine Go.iconst (v := 0) hx hb (by decide) d_Ref_stores_298 ?_
              refine Go.iconst (v := 2) hx hb (by decide) d_Ref_stores_299 ?_
              obtain ⟨r84, s84, q84, h⟩ := gb_some h
              refine Go.callVi S hK hA 0 (Rw_0 ad ca _) rfl (fun sz9 => m_Ref_needs l D ad ca N _ sz9 _ _ r84 s84 q84) (cwV 2 hts (gwV k_747 k_749 k_40 k_67 k_750) rfl rfl rfl (by decide +kernel) ⟨Nat.le_of_ble_eq_true rfl, Nat.le_of_ble_eq_true rfl⟩) rfl rfl (Nat.le_of_ble_eq_true rfl) ⟨Nat.zero_le _, Nat.zero_le _⟩ d_Ref_stores_300 ?_
              refine Go.if_eq (tgt := 422) hx hb d_Ref_stores_303 rfl (fun c303 => ?_) (fun c303 => ?_)
              · replace h := (if_pos c303).symm.trans h
                exact Go.vret hx hb hr hK hlk h d_Ref_stores_422
              · replace h := (if_neg c303).symm.trans h
                refine Go.aload_n hx hb 0 rfl d_Ref_stores_306 ?_
                refine Go.aload_n hx hb 0 rfl d_Ref_stores_307 ?_
                refine Go.get (v := .ref (ad 4)) hx hb hts in_Ref hown hK 0 (Rw_0 ad ca _) rfl 7 (by decide) (hts _ k_622) (fun _ h9 => h9) rfl d_Ref_stores_308 ?_
                refine Go.aload_n hx hb 0 rfl d_Ref_stores_311 ?_
                refine Go.iconst (v := 1) hx hb (by decide) d_Ref_stores_312 ?_
                obtain ⟨r85, s85, q85, h⟩ := gb_some h
                refine Go.callVi S hK hA 0 (Rw_0 ad ca _) rfl (fun sz9 => m_Ref_deep l D ad ca N _ sz9 _ r85 s85 q85) (cwV 1 hts (gwV k_751 k_753 k_41 k_67 k_754) rfl rfl rfl (by decide +kernel) ⟨Nat.le_of_ble_eq_true rfl, Nat.le_of_ble_eq_true rfl⟩) rfl rfl (Nat.le_of_ble_eq_true rfl) ⟨Nat.zero_le _, Nat.zero_le _⟩ d_Ref_stores_313 ?_
                obtain ⟨c316, h⟩ := gg_some h
                refine Go.iald (v := gA s85 3 r85.toNatClampNeg) hx hb hK 4 3 (Rw_4 ad ca _) rfl c316 rfl d_Ref_stores_316 ?_
                refine Go.aload_n hx hb 0 rfl d_Ref_stores_317 ?_
                refine Go.get (v := .ref (ad 4)) hx hb hts in_Ref hown hK 0 (Rw_0 ad ca _) rfl 7 (by decide) (hts _ k_622) (fun _ h9 => h9) rfl d_Ref_stores_318 ?_
                refine Go.aload_n hx hb 0 rfl d_Ref_stores_321 ?_
                refine Go.iconst (v := 0) hx hb (by decide) d_Ref_stores_322 ?_
                obtain ⟨r86, s86, q86, h⟩ := gb_some h
                refine Go.callVi S hK hA 0 (Rw_0 ad ca _) rfl (fun sz9 => m_Ref_deep l D ad ca N _ sz9 _ r86 s86 q86) (cwV 1 hts (gwV k_751 k_753 k_41 k_67 k_754) rfl rfl rfl (by decide +kernel) ⟨Nat.le_of_ble_eq_true rfl, Nat.le_of_ble_eq_true rfl⟩) rfl rfl (Nat.le_of_ble_eq_true rfl) ⟨Nat.zero_le _, Nat.zero_le _⟩ d_Ref_stores_323 ?_
                obtain ⟨c326, h⟩ := gg_some h
                refine Go.iald (v := gA s86 3 r86.toNatClampNeg) hx hb hK 4 3 (Rw_4 ad ca _) rfl c326 rfl d_Ref_stores_326 ?_
                obtain ⟨_, s87, q87, h⟩ := gb_some h
                refine Go.callVv S hK hA 0 (Rw_0 ad ca _) rfl (fun sz9 => m_Ref_puts l D ad ca N _ sz9 _ _ _ s87 q87) (cwV 2 hts (gwV k_775 k_777 k_47 k_67 k_778) rfl rfl rfl (by decide +kernel) ⟨Nat.le_of_ble_eq_true rfl, Nat.le_of_ble_eq_true rfl⟩) rfl rfl (Nat.le_of_ble_eq_true rfl) ⟨Nat.zero_le _, Nat.zero_le _⟩ d_Ref_stores_327 ?_
                refine Go.aload_n hx hb 0 rfl d_Ref_stores_330 ?_
                refine Go.dup hx hb rfl d_Ref_stores_331 ?_
                refine Go.get (v := .int (gI s87 4)) hx hb hts in_Ref hown hK 0 (Rw_0 ad ca _) rfl 8 (by decide) (hts _ k_623) (fun _ h9 => h9) rfl d_Ref_stores_332 ?_
                refine Go.iconst (v := 2) hx hb (by decide) d_Ref_stores_335 ?_
                refine Go.isub hx hb d_Ref_stores_336 ?_
                refine Go.put (ty := (.int)) hx hb hts in_Ref ty_Ref tyok_Ref nm_Ref hown hK 0 (Rw_0 ad ca _) rfl 8 (by decide) (hts _ k_623) (fun _ h9 => h9) rfl (by decide +kernel) rfl rfl (Nat.le_of_ble_eq_true rfl) (uI s87 4 ((gI s87 4) - 2)) (Rs_I4 ad ca _ _) d_Ref_stores_337 ?_
                refine Go.goto (tgt := 422) hx hb d_Ref_stores_340 rfl ?_
                exact Go.vret hx hb hr hK hlk h d_Ref_stores_422
            · replace h := (if_neg c263).symm.trans h
              refine Go.aload_n hx hb 0 rfl d_Ref_stores_266 ?_
              refine Go.get (v := .ref (ad 4)) hx hb hts in_Ref hown hK 0 (Rw_0 ad ca _) rfl 7 (by decide) (hts _ k_622) (fun _ h9 => h9) rfl d_Ref_stores_267 ?_
              refine Go.aload_n hx hb 0 rfl d_Ref_stores_270 ?_
              refine Go.iconst (v := 0) hx hb (by decide) d_Ref_stores_271 ?_
              obtain ⟨r88, s88, q88, h⟩ := gb_some h
              refine Go.callVi S hK hA 0 (Rw_0 ad ca _) rfl (fun sz9 => m_Ref_deep l D ad ca N _ sz9 _ r88 s88 q88) (cwV 1 hts (gwV k_751 k_753 k_41 k_67 k_754) rfl rfl rfl (by decide +kernel) ⟨Nat.le_of_ble_eq_true rfl, Nat.le_of_ble_eq_true rfl⟩) rfl rfl (Nat.le_of_ble_eq_true rfl) ⟨Nat.zero_le _, Nat.zero_le _⟩ d_Ref_stores_272 ?_
              obtain ⟨c275, h⟩ := gg_some h
              refine Go.iald (v := gA s88 3 r88.toNatClampNeg) hx hb hK 4 3 (Rw_4 ad ca _) rfl c275 rfl d_Ref_stores_275 ?_
              refine Go.aload_n hx hb 0 rfl d_Ref_stores_276 ?_
              refine Go.get (v := .ref (ad 10)) hx hb hts in_Ref hown hK 0 (Rw_0 ad ca _) rfl 15 (by decide) (hts _ k_630) (fun _ h9 => h9) rfl d_Ref_stores_277 ?_
              refine Go.aload_n hx hb 0 rfl d_Ref_stores_280 ?_
              refine Go.get (v := .ref (ad 4)) hx hb hts in_Ref hown hK 0 (Rw_0 ad ca _) rfl 7 (by decide) (hts _ k_622) (fun _ h9 => h9) rfl d_Ref_stores_281 ?_
              refine Go.aload_n hx hb 0 rfl d_Ref_stores_284 ?_
              refine Go.iconst (v := 1) hx hb (by decide) d_Ref_stores_285 ?_
              obtain ⟨r89, s89, q89, h⟩ := gb_some h
              refine Go.callVi S hK hA 0 (Rw_0 ad ca _) rfl (fun sz9 => m_Ref_deep l D ad ca N _ sz9 _ r89 s89 q89) (cwV 1 hts (gwV k_751 k_753 k_41 k_67 k_754) rfl rfl rfl (by decide +kernel) ⟨Nat.le_of_ble_eq_true rfl, Nat.le_of_ble_eq_true rfl⟩) rfl rfl (Nat.le_of_ble_eq_true rfl) ⟨Nat.zero_le _, Nat.zero_le _⟩ d_Ref_stores_286 ?_
              obtain ⟨c289, h⟩ := gg_some h
              refine Go.iald (v := gA s89 3 r89.toNatClampNeg) hx hb hK 4 3 (Rw_4 ad ca _) rfl c289 rfl d_Ref_stores_289 ?_
              obtain ⟨c290, h⟩ := gg_some h
              refine Go.iald (v := gA s89 9 (gA s89 3 r89.toNatClampNeg).toNatClampNeg) hx hb hK 10 9 (Rw_10 ad ca _) rfl c290 rfl d_Ref_stores_290 ?_
              refine Go.icmp_ge (tgt := 298) hx hb d_Ref_stores_291 rfl (fun c291 => ?_) (fun c291 => ?_)
              · replace h := (if_pos c291).symm.trans h
                refine Go.iconst (v := 0) hx hb (by decide) d_Ref_stores_298 ?_
                refine Go.iconst (v := 2) hx hb (by decide) d_Ref_stores_299 ?_
                obtain ⟨r90, s90, q90, h⟩ := gb_some h
                refine Go.callVi S hK hA 0 (Rw_0 ad ca _) rfl (fun sz9 => m_Ref_needs l D ad ca N _ sz9 _ _ r90 s90 q90) (cwV 2 hts (gwV k_747 k_749 k_40 k_67 k_750) rfl rfl rfl (by decide +kernel) ⟨Nat.le_of_ble_eq_true rfl, Nat.le_of_ble_eq_true rfl⟩) rfl rfl (Nat.le_of_ble_eq_true rfl) ⟨Nat.zero_le _, Nat.zero_le _⟩ d_Ref_stores_300 ?_
                refine Go.if_eq (tgt := 422) hx hb d_Ref_stores_303 rfl (fun c303 => ?_) (fun c303 => ?_)
                · replace h := (if_pos c303).symm.trans h
                  exact Go.vret hx hb hr hK hlk h d_Ref_stores_422
                · replace h := (if_neg c303).symm.trans h
                  refine Go.aload_n hx hb 0 rfl d_Ref_stores_306 ?_
                  refine Go.aload_n hx hb 0 rfl d_Ref_stores_307 ?_
                  refine Go.get (v := .ref (ad 4)) hx hb hts in_Ref hown hK 0 (Rw_0 ad ca _) rfl 7 (by decide) (hts _ k_622) (fun _ h9 => h9) rfl d_Ref_stores_308 ?_
                  refine Go.aload_n hx hb 0 rfl d_Ref_stores_311 ?_
                  refine Go.iconst (v := 1) hx hb (by decide) d_Ref_stores_312 ?_
                  obtain ⟨r91, s91, q91, h⟩ := gb_some h
                  refine Go.callVi S hK hA 0 (Rw_0 ad ca _) rfl (fun sz9 => m_Ref_deep l D ad ca N _ sz9 _ r91 s91 q91) (cwV 1 hts (gwV k_751 k_753 k_41 k_67 k_754) rfl rfl rfl (by decide +kernel) ⟨Nat.le_of_ble_eq_true rfl, Nat.le_of_ble_eq_true rfl⟩) rfl rfl (Nat.le_of_ble_eq_true rfl) ⟨Nat.zero_le _, Nat.zero_le _⟩ d_Ref_stores_313 ?_
                  obtain ⟨c316, h⟩ := gg_some h
                  refine Go.iald (v := gA s91 3 r91.toNatClampNeg) hx hb hK 4 3 (Rw_4 ad ca _) rfl c316 rfl d_Ref_stores_316 ?_
                  refine Go.aload_n hx hb 0 rfl d_Ref_stores_317 ?_
                  refine Go.get (v := .ref (ad 4)) hx hb hts in_Ref hown hK 0 (Rw_0 ad ca _) rfl 7 (by decide) (hts _ k_622) (fun _ h9 => h9) rfl d_Ref_stores_318 ?_
                  refine Go.aload_n hx hb 0 rfl d_Ref_stores_321 ?_
                  refine Go.iconst (v := 0) hx hb (by decide) d_Ref_stores_322 ?_
                  obtain ⟨r92, s92, q92, h⟩ := gb_some h
                  refine Go.callVi S hK hA 0 (Rw_0 ad ca _) rfl (fun sz9 => m_Ref_deep l D ad ca N _ sz9 _ r92 s92 q92) (cwV 1 hts (gwV k_751 k_753 k_41 k_67 k_754) rfl rfl rfl (by decide +kernel) ⟨Nat.le_of_ble_eq_true rfl, Nat.le_of_ble_eq_true rfl⟩) rfl rfl (Nat.le_of_ble_eq_true rfl) ⟨Nat.zero_le _, Nat.zero_le _⟩ d_Ref_stores_323 ?_
                  obtain ⟨c326, h⟩ := gg_some h
                  refine Go.iald (v := gA s92 3 r92.toNatClampNeg) hx hb hK 4 3 (Rw_4 ad ca _) rfl c326 rfl d_Ref_stores_326 ?_
                  obtain ⟨_, s93, q93, h⟩ := gb_some h
                  refine Go.callVv S hK hA 0 (Rw_0 ad ca _) rfl (fun sz9 => m_Ref_puts l D ad ca N _ sz9 _ _ _ s93 q93) (cwV 2 hts (gwV k_775 k_777 k_47 k_67 k_778) rfl rfl rfl (by decide +kernel) ⟨Nat.le_of_ble_eq_true rfl, Nat.le_of_ble_eq_true rfl⟩) rfl rfl (Nat.le_of_ble_eq_true rfl) ⟨Nat.zero_le _, Nat.zero_le _⟩ d_Ref_stores_327 ?_
                  refine Go.aload_n hx hb 0 rfl d_Ref_stores_330 ?_
                  refine Go.dup hx hb rfl d_Ref_stores_331 ?_
                  refine Go.get (v := .int (gI s93 4)) hx hb hts in_Ref hown hK 0 (Rw_0 ad ca _) rfl 8 (by decide) (hts _ k_623) (fun _ h9 => h9) rfl d_Ref_stores_332 ?_
                  refine Go.iconst (v := 2) hx hb (by decide) d_Ref_stores_335 ?_
                  refine Go.isub hx hb d_Ref_stores_336 ?_
                  refine Go.put (ty := (.int)) hx hb hts in_Ref ty_Ref tyok_Ref nm_Ref hown hK 0 (Rw_0 ad ca _) rfl 8 (by decide) (hts _ k_623) (fun _ h9 => h9) rfl (by decide +kernel) rfl rfl (Nat.le_of_ble_eq_true rfl) (uI s93 4 ((gI s93 4) - 2)) (Rs_I4 ad ca _ _) d_Ref_stores_337 ?_
                  refine Go.goto (tgt := 422) hx hb d_Ref_stores_340 rfl ?_
                  exact Go.vret hx hb hr hK hlk h d_Ref_stores_422
              · replace h := (if_neg c291).symm.trans h
                refine Go.iconst (v := 1) hx hb (by decide) d_Ref_stores_294 ?_
                refine Go.goto (tgt := 299) hx hb d_Ref_stores_295 rfl ?_
                refine Go.iconst (v := 2) hx hb (by decide) d_Ref_stores_299 ?_
                obtain ⟨r94, s94, q94, h⟩ := gb_some h
                refine Go.callVi S hK hA 0 (Rw_0 ad ca _) rfl (fun sz9 => m_Ref_needs l D ad ca N _ sz9 _ _ r94 s94 q94) (cwV 2 hts (gwV k_747 k_749 k_40 k_67 k_750) rfl rfl rfl (by decide +kernel) ⟨Nat.le_of_ble_eq_true rfl, Nat.le_of_ble_eq_true rfl⟩) rfl rfl (Nat.le_of_ble_eq_true rfl) ⟨Nat.zero_le _, Nat.zero_le _⟩ d_Ref_stores_300 ?_
                refine Go.if_eq (tgt := 422) hx hb d_Ref_stores_303 rfl (fun c303 => ?_) (fun c303 => ?_)
                · replace h := (if_pos c303).symm.trans h
                  exact Go.vret hx hb hr hK hlk h d_Ref_stores_422
                · replace h := (if_neg c303).symm.trans h
                  refine Go.aload_n hx hb 0 rfl d_Ref_stores_306 ?_
                  refine Go.aload_n hx hb 0 rfl d_Ref_stores_307 ?_
                  refine Go.get (v := .ref (ad 4)) hx hb hts in_Ref hown hK 0 (Rw_0 ad ca _) rfl 7 (by decide) (hts _ k_622) (fun _ h9 => h9) rfl d_Ref_stores_308 ?_
                  refine Go.aload_n hx hb 0 rfl d_Ref_stores_311 ?_
                  refine Go.iconst (v := 1) hx hb (by decide) d_Ref_stores_312 ?_
                  obtain ⟨r95, s95, q95, h⟩ := gb_some h
                  refine Go.callVi S hK hA 0 (Rw_0 ad ca _) rfl (fun sz9 => m_Ref_deep l D ad ca N _ sz9 _ r95 s95 q95) (cwV 1 hts (gwV k_751 k_753 k_41 k_67 k_754) rfl rfl rfl (by decide +kernel) ⟨Nat.le_of_ble_eq_true rfl, Nat.le_of_ble_eq_true rfl⟩) rfl rfl (Nat.le_of_ble_eq_true rfl) ⟨Nat.zero_le _, Nat.zero_le _⟩ d_Ref_stores_313 ?_
                  obtain ⟨c316, h⟩ := gg_some h
                  refine Go.iald (v := gA s95 3 r95.toNatClampNeg) hx hb hK 4 3 (Rw_4 ad ca _) rfl c316 rfl d_Ref_stores_316 ?_
                  refine Go.aload_n hx hb 0 rfl d_Ref_stores_317 ?_
                  refine Go.get (v := .ref (ad 4)) hx hb hts in_Ref hown hK 0 (Rw_0 ad ca _) rfl 7 (by decide) (hts _ k_622) (fun _ h9 => h9) rfl d_Ref_stores_318 ?_
                  refine Go.aload_n hx hb 0 rfl d_Ref_stores_321 ?_
                  refine Go.iconst (v := 0) hx hb (by decide) d_Ref_stores_322 ?_
                  obtain ⟨r96, s96, q96, h⟩ := gb_some h
                  refine Go.callVi S hK hA 0 (Rw_0 ad ca _) rfl (fun sz9 => m_Ref_deep l D ad ca N _ sz9 _ r96 s96 q96) (cwV 1 hts (gwV k_751 k_753 k_41 k_67 k_754) rfl rfl rfl (by decide +kernel) ⟨Nat.le_of_ble_eq_true rfl, Nat.le_of_ble_eq_true rfl⟩) rfl rfl (Nat.le_of_ble_eq_true rfl) ⟨Nat.zero_le _, Nat.zero_le _⟩ d_Ref_stores_323 ?_
                  obtain ⟨c326, h⟩ := gg_some h
                  refine Go.iald (v := gA s96 3 r96.toNatClampNeg) hx hb hK 4 3 (Rw_4 ad ca _) rfl c326 rfl d_Ref_stores_326 ?_
                  obtain ⟨_, s97, q97, h⟩ := gb_some h
                  refine Go.callVv S hK hA 0 (Rw_0 ad ca _) rfl (fun sz9 => m_Ref_puts l D ad ca N _ sz9 _ _ _ s97 q97) (cwV 2 hts (gwV k_775 k_777 k_47 k_67 k_778) rfl rfl rfl (by decide +kernel) ⟨Nat.le_of_ble_eq_true rfl, Nat.le_of_ble_eq_true rfl⟩) rfl rfl (Nat.le_of_ble_eq_true rfl) ⟨Nat.zero_le _, Nat.zero_le _⟩ d_Ref_stores_327 ?_
                  refine Go.aload_n hx hb 0 rfl d_Ref_stores_330 ?_
                  refine Go.dup hx hb rfl d_Ref_stores_331 ?_
                  refine Go.get (v := .int (gI s97 4)) hx hb hts in_Ref hown hK 0 (Rw_0 ad ca _) rfl 8 (by decide) (hts _ k_623) (fun _ h9 => h9) rfl d_Ref_stores_332 ?_
                  refine Go.iconst (v := 2) hx hb (by decide) d_Ref_stores_335 ?_
                  refine Go.isub hx hb d_Ref_stores_336 ?_
                  refine Go.put (ty := (.int)) hx hb hts in_Ref ty_Ref tyok_Ref nm_Ref hown hK 0 (Rw_0 ad ca _) rfl 8 (by decide) (hts _ k_623) (fun _ h9 => h9) rfl (by decide +kernel) rfl rfl (Nat.le_of_ble_eq_true rfl) (uI s97 4 ((gI s97 4) - 2)) (Rs_I4 ad ca _ _) d_Ref_stores_337 ?_
                  refine Go.goto (tgt := 422) hx hb d_Ref_stores_340 rfl ?_
                  exact Go.vret hx hb hr hK hlk h d_Ref_stores_422
          · replace h := (if_neg c248).symm.trans h
            exact Go.vret hx hb hr hK hlk h d_Ref_stores_251
  replace h := (if_neg c1_3).symm.trans h
  by_cases c1_4 : a0 = 13
  · replace h := (if_pos c1_4).symm.trans h
    refine Go.tin (tgt := 343) (off := 342) hx hb 13 c1_4 d_Ref_stores_1 (by decide) (by decide) rfl rfl ?_
    refine Go.aload_n hx hb 0 rfl d_Ref_stores_343 ?_
    refine Go.aload_n hx hb 0 rfl d_Ref_stores_344 ?_
    refine Go.get (v := .int (gI st 4)) hx hb hts in_Ref hown hK 0 (Rw_0 ad ca _) rfl 8 (by decide) (hts _ k_623) (fun _ h9 => h9) rfl d_Ref_stores_345 ?_
    refine Go.bipush (v := 120) hx hb (by decide) d_Ref_stores_348 ?_
    refine Go.icmp_ge (tgt := 357) hx hb d_Ref_stores_350 rfl (fun c350 => ?_) (fun c350 => ?_)
    · replace h := (if_pos c350).symm.trans h
      refine Go.iconst (v := 0) hx hb (by decide) d_Ref_stores_357 ?_
      refine Go.iconst (v := 4) hx hb (by decide) d_Ref_stores_358 ?_
      obtain ⟨r98, s98, q98, h⟩ := gb_some h
      refine Go.callVi S hK hA 0 (Rw_0 ad ca _) rfl (fun sz9 => m_Ref_needs l D ad ca N _ sz9 _ _ r98 s98 q98) (cwV 2 hts (gwV k_747 k_749 k_40 k_67 k_750) rfl rfl rfl (by decide +kernel) ⟨Nat.le_of_ble_eq_true rfl, Nat.le_of_ble_eq_true rfl⟩) rfl rfl (Nat.le_of_ble_eq_true rfl) ⟨Nat.zero_le _, Nat.zero_le _⟩ d_Ref_stores_359 ?_
      refine Go.if_eq (tgt := 422) hx hb d_Ref_stores_362 rfl (fun c362 => ?_) (fun c362 => ?_)
      · replace h := (if_pos c362).symm.trans h
        exact Go.vret hx hb hr hK hlk h d_Ref_stores_422
      · replace h := (if_neg c362).symm.trans h
        refine Go.aload_n hx hb 0 rfl d_Ref_stores_365 ?_
        refine Go.get (v := .ref (ad 3)) hx hb hts in_Ref hown hK 0 (Rw_0 ad ca _) rfl 6 (by decide) (hts _ k_621) (fun _ h9 => h9) rfl d_Ref_stores_366 ?_
        refine Go.aload_n hx hb 0 rfl d_Ref_stores_369 ?_
        refine Go.get (v := .int (gI s98 4)) hx hb hts in_Ref hown hK 0 (Rw_0 ad ca _) rfl 8 (by decide) (hts _ k_623) (fun _ h9 => h9) rfl d_Ref_stores_370 ?_
        refine Go.aload_n hx hb 0 rfl d_Ref_stores_373 ?_
        refine Go.get (v := .int (gI s98 2)) hx hb hts in_Ref hown hK 0 (Rw_0 ad ca _) rfl 4 (by decide) (hts _ k_619) (fun _ h9 => h9) rfl d_Ref_stores_374 ?_
        obtain ⟨c377, h⟩ := gg_some h
        refine Go.iast hx hb hK 3 2 (Rw_3 ad ca _) rfl c377 (uA s98 2 (upd (gA s98 2) (gI s98 4).toNatClampNeg (gI s98 2))) (Rs_A2 ad ca _ _) d_Ref_stores_377 ?_
        refine Go.aload_n hx hb 0 rfl d_Ref_stores_378 ?_
        refine Go.get (v := .ref (ad 4)) hx hb hts in_Ref hown hK 0 (Rw_0 ad ca _) rfl 7 (by decide) (hts _ k_622) (fun _ h9 => h9) rfl d_Ref_stores_379 ?_
        refine Go.aload_n hx hb 0 rfl d_Ref_stores_382 ?_
        refine Go.get (v := .int (gI s98 4)) hx hb hts in_Ref hown hK 0 (Rw_0 ad ca _) rfl 8 (by decide) (hts _ k_623) (fun _ h9 => h9) rfl d_Ref_stores_383 ?_
        refine Go.aload_n hx hb 0 rfl d_Ref_stores_386 ?_
        refine Go.get (v := .int (gI s98 3)) hx hb hts in_Ref hown hK 0 (Rw_0 ad ca _) rfl 5 (by decide) (hts _ k_620) (fun _ h9 => h9) rfl d_Ref_stores_387 ?_
        obtain ⟨c390, h⟩ := gg_some h
        refine Go.iast hx hb hK 4 3 (Rw_4 ad ca _) rfl c390 (uA (uA s98 2 (upd (gA s98 2) (gI s98 4).toNatClampNeg (gI s98 2))) 3 (upd (gA s98 3) (gI s98 4).toNatClampNeg (gI s98 3))) (Rs_A3 ad ca _ _) d_Ref_stores_390 ?_
        refine Go.aload_n hx hb 0 rfl d_Ref_stores_391 ?_
        refine Go.dup hx hb rfl d_Ref_stores_392 ?_
        refine Go.get (v := .int (gI s98 4)) hx hb hts in_Ref hown hK 0 (Rw_0 ad ca _) rfl 8 (by decide) (hts _ k_623) (fun _ h9 => h9) rfl d_Ref_stores_393 ?_
        refine Go.iconst (v := 1) hx hb (by decide) d_Ref_stores_396 ?_
        refine Go.iadd hx hb d_Ref_stores_397 ?_
        refine Go.put (ty := (.int)) hx hb hts in_Ref ty_Ref tyok_Ref nm_Ref hown hK 0 (Rw_0 ad ca _) rfl 8 (by decide) (hts _ k_623) (fun _ h9 => h9) rfl (by decide +kernel) rfl rfl (Nat.le_of_ble_eq_true rfl) (uI (uA (uA s98 2 (upd (gA s98 2) (gI s98 4).toNatClampNeg (gI s98 2))) 3 (upd (gA s98 3) (gI s98 4).toNatClampNeg (gI s98 3))) 4 ((gI s98 4) + 1)) (Rs_I4 ad ca _ _) d_Ref_stores_398 ?_
        refine Go.goto (tgt := 422) hx hb d_Ref_stores_401 rfl ?_
        exact Go.vret hx hb hr hK hlk h d_Ref_stores_422
    · replace h := (if_neg c350).symm.trans h
      refine Go.iconst (v := 1) hx hb (by decide) d_Ref_stores_353 ?_
      refine Go.goto (tgt := 358) hx hb d_Ref_stores_354 rfl ?_
      refine Go.iconst (v := 4) hx hb (by decide) d_Ref_stores_358 ?_
      obtain ⟨r99, s99, q99, h⟩ := gb_some h
      refine Go.callVi S hK hA 0 (Rw_0 ad ca _) rfl (fun sz9 => m_Ref_needs l D ad ca N _ sz9 _ _ r99 s99 q99) (cwV 2 hts (gwV k_747 k_749 k_40 k_67 k_750) rfl rfl rfl (by decide +kernel) ⟨Nat.le_of_ble_eq_true rfl, Nat.le_of_ble_eq_true rfl⟩) rfl rfl (Nat.le_of_ble_eq_true rfl) ⟨Nat.zero_le _, Nat.zero_le _⟩ d_Ref_stores_359 ?_
      refine Go.if_eq (tgt := 422) hx hb d_Ref_stores_362 rfl (fun c362 => ?_) (fun c362 => ?_)
      · replace h := (if_pos c362).symm.trans h
        exact Go.vret hx hb hr hK hlk h d_Ref_stores_422
      · replace h := (if_neg c362).symm.trans h
        refine Go.aload_n hx hb 0 rfl d_Ref_stores_365 ?_
        refine Go.get (v := .ref (ad 3)) hx hb hts in_Ref hown hK 0 (Rw_0 ad ca _) rfl 6 (by decide) (hts _ k_621) (fun _ h9 => h9) rfl d_Ref_stores_366 ?_
        refine Go.aload_n hx hb 0 rfl d_Ref_stores_369 ?_
        refine Go.get (v := .int (gI s99 4)) hx hb hts in_Ref hown hK 0 (Rw_0 ad ca _) rfl 8 (by decide) (hts _ k_623) (fun _ h9 => h9) rfl d_Ref_stores_370 ?_
        refine Go.aload_n hx hb 0 rfl d_Ref_stores_373 ?_
        refine Go.get (v := .int (gI s99 2)) hx hb hts in_Ref hown hK 0 (Rw_0 ad ca _) rfl 4 (by decide) (hts _ k_619) (fun _ h9 => h9) rfl d_Ref_stores_374 ?_
        obtain ⟨c377, h⟩ := gg_some h
        refine Go.iast hx hb hK 3 2 (Rw_3 ad ca _) rfl c377 (uA s99 2 (upd (gA s99 2) (gI s99 4).toNatClampNeg (gI s99 2))) (Rs_A2 ad ca _ _) d_Ref_stores_377 ?_
        refine Go.aload_n hx hb 0 rfl d_Ref_stores_378 ?_
        refine Go.get (v := .ref (ad 4)) hx hb hts in_Ref hown hK 0 (Rw_0 ad ca _) rfl 7 (by decide) (hts _ k_622) (fun _ h9 => h9) rfl d_Ref_stores_379 ?_
        refine Go.aload_n hx hb 0 rfl d_Ref_stores_382 ?_
        refine Go.get (v := .int (gI s99 4)) hx hb hts in_Ref hown hK 0 (Rw_0 ad ca _) rfl 8 (by decide) (hts _ k_623) (fun _ h9 => h9) rfl d_Ref_stores_383 ?_
        refine Go.aload_n hx hb 0 rfl d_Ref_stores_386 ?_
        refine Go.get (v := .int (gI s99 3)) hx hb hts in_Ref hown hK 0 (Rw_0 ad ca _) rfl 5 (by decide) (hts _ k_620) (fun _ h9 => h9) rfl d_Ref_stores_387 ?_
        obtain ⟨c390, h⟩ := gg_some h
        refine Go.iast hx hb hK 4 3 (Rw_4 ad ca _) rfl c390 (uA (uA s99 2 (upd (gA s99 2) (gI s99 4).toNatClampNeg (gI s99 2))) 3 (upd (gA s99 3) (gI s99 4).toNatClampNeg (gI s99 3))) (Rs_A3 ad ca _ _) d_Ref_stores_390 ?_
        refine Go.aload_n hx hb 0 rfl d_Ref_stores_391 ?_
        refine Go.dup hx hb rfl d_Ref_stores_392 ?_
        refine Go.get (v := .int (gI s99 4)) hx hb hts in_Ref hown hK 0 (Rw_0 ad ca _) rfl 8 (by decide) (hts _ k_623) (fun _ h9 => h9) rfl d_Ref_stores_393 ?_
        refine Go.iconst (v := 1) hx hb (by decide) d_Ref_stores_396 ?_
        refine Go.iadd hx hb d_Ref_stores_397 ?_
        refine Go.put (ty := (.int)) hx hb hts in_Ref ty_Ref tyok_Ref nm_Ref hown hK 0 (Rw_0 ad ca _) rfl 8 (by decide) (hts _ k_623) (fun _ h9 => h9) rfl (by decide +kernel) rfl rfl (Nat.le_of_ble_eq_true rfl) (uI (uA (uA s99 2 (upd (gA s99 2) (gI s99 4).toNatClampNeg (gI s99 2))) 3 (upd (gA s99 3) (gI s99 4).toNatClampNeg (gI s99 3))) 4 ((gI s99 4) + 1)) (Rs_I4 ad ca _ _) d_Ref_stores_398 ?_
        refine Go.goto (tgt := 422) hx hb d_Ref_stores_401 rfl ?_
        exact Go.vret hx hb hr hK hlk h d_Ref_stores_422
  replace h := (if_neg c1_4).symm.trans h
  have n1_0 := lv_neT (a := 9) c1_0 (by decide)
  have n1_1 := lv_neT (a := 10) c1_1 (by decide)
  have n1_2 := lv_neT (a := 11) c1_2 (by decide)
  have n1_3 := lv_neT (a := 12) c1_3 (by decide)
  have n1_4 := lv_neT (a := 13) c1_4 (by decide)
  refine Go.tout (tgt := 404) hx hb d_Ref_stores_1 (by omega) rfl ?_
  refine Go.aload_n hx hb 0 rfl d_Ref_stores_404 ?_
  refine Go.iload_n hx hb 2 rfl d_Ref_stores_405 ?_
  obtain ⟨r100, s100, q100, h⟩ := gb_some h
  refine Go.callVi S hK hA 0 (Rw_0 ad ca _) rfl (fun sz9 => m_Ref_has l D ad ca N _ sz9 _ r100 s100 q100) (cwV 1 hts (gwV k_763 k_765 k_44 k_67 k_766) rfl rfl rfl (by decide +kernel) ⟨Nat.le_of_ble_eq_true rfl, Nat.le_of_ble_eq_true rfl⟩) rfl rfl (Nat.le_of_ble_eq_true rfl) ⟨Nat.zero_le _, Nat.zero_le _⟩ d_Ref_stores_406 ?_
  refine Go.if_eq (tgt := 422) hx hb d_Ref_stores_409 rfl (fun c409 => ?_) (fun c409 => ?_)
  · replace h := (if_pos c409).symm.trans h
    exact Go.vret hx hb hr hK hlk h d_Ref_stores_422
  · replace h := (if_neg c409).symm.trans h
    refine Go.aload_n hx hb 0 rfl d_Ref_stores_412 ?_
    refine Go.dup hx hb rfl d_Ref_stores_413 ?_
    refine Go.get (v := .int (gI s100 4)) hx hb hts in_Ref hown hK 0 (Rw_0 ad ca _) rfl 8 (by decide) (hts _ k_623) (fun _ h9 => h9) rfl d_Ref_stores_414 ?_
    refine Go.iload_n hx hb 2 rfl d_Ref_stores_417 ?_
    refine Go.isub hx hb d_Ref_stores_418 ?_
    refine Go.put (ty := (.int)) hx hb hts in_Ref ty_Ref tyok_Ref nm_Ref hown hK 0 (Rw_0 ad ca _) rfl 8 (by decide) (hts _ k_623) (fun _ h9 => h9) rfl (by decide +kernel) rfl rfl (Nat.le_of_ble_eq_true rfl) (uI s100 4 ((gI s100 4) - a1)) (Rs_I4 ad ca _ _) d_Ref_stores_419 ?_
    exact Go.vret hx hb hr hK hlk h d_Ref_stores_422
