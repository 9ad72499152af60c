set_option maxHeartbeats 4000000 in
set_option maxRecDepth 100000 in
theorem m_Ref_makes (l : Launch) (D : va_G) (ad : Nat → Nat) (ca : Nat → ClassId) (N : Nat) (st : SG) (sz : Nat) (a0 : Int32) (a1 : Int32) (r : Int32) (u : SG) (h : fR_ValueMachineModel_makes N st a0 a1 = some (r, u)) : Met l y_Ref_makes (Cond.code y_Ref_makes c_Ref_makes 5 (some .int) :: tbl) ({ frames := 2, cells := 0, slots := 0, locals := 45 } : Room) (va_Pc [.ref (ad 0), .int a0, .int a1] (goPre (Rw ad ca) D vwCl (Rtys ca) sz st)) (va_Qi (fun r' u' => r' = r ∧ u' = u) (goPost (Rw ad ca) D vwCl (Rtys ca) (va_A (Rw ad ca st) sz)) (va_A (Rw ad ca st) sz)) 0 0 (va_A (Rw ad ca st) sz) := by
  refine go_met (Qc := fun A9 => va_Qi (fun r' u' => r' = r ∧ u' = u) (goPost (Rw ad ca) D vwCl (Rtys ca) A9) A9) (cc := c_Ref_makes) (maxL := 5) (ret := (some .int)) [(0, .ref (ad 0)), (1, .int a0), (2, .int a1)] (by decide) rfl (Nat.le_of_ble_eq_true rfl) rfl ?_
  intro p e s m below meth c A S hr hlk hK hA hsz
  obtain ⟨hx, hb, hml, hown, hts⟩ := id S
  unfold fR_ValueMachineModel_makes at h
  have L85 : ∀ (n : Nat) (v3 : Int32) (v4 : Int32) (st : SG), fR_ValueMachineModel_makes_L85 N n v3 v4 st = some (r, u) → Go (Rw ad ca) D vwCl A s.heap 5 p l e ({ frames := 2, cells := 0, slots := 0, locals := 45 } : Room) s m ([.ref (ad 0), .int a0, .int a1] : List Value).toArray below meth c 0 0 (MQ below (va_Qi (fun r' u' => r' = r ∧ u' = u) (goPost (Rw ad ca) D vwCl (Rtys ca) A) A) ([.ref (ad 0), .int a0, .int a1] : List Value).toArray s 0 0 A) 85 [(0, .ref (ad 0)), (3, .int v3), (4, .int v4)] [] st := by
    intro n
    induction n with
    | zero => intro v3 v4 st h; cases h
    | succ n ih =>
      intro v3 v4 st h
      unfold fR_ValueMachineModel_makes_L85 at h
      refine Go.iload hx hb 2 rfl d_Ref_makes_85 ?_
      refine Go.bipush (v := 20) hx hb (by decide) d_Ref_makes_87 ?_
      refine Go.icmp_ge (tgt := 124) hx hb d_Ref_makes_89 rfl (fun c89 => ?_) (fun c89 => ?_)
      · replace h := (if_pos c89).symm.trans h
        refine Go.iload_n hx hb 1 rfl d_Ref_makes_124 ?_
        exact Go.iret hx hb hr hK hlk h d_Ref_makes_125
      · replace h := (if_neg c89).symm.trans h
        refine Go.aload_n hx hb 0 rfl d_Ref_makes_92 ?_
        refine Go.get (v := .ref (ad 11)) hx hb hts in_Ref hown hK 0 (Rw_0 ad ca _) rfl 16 (by decide) (hts _ k_631) (fun _ h9 => h9) rfl d_Ref_makes_93 ?_
        refine Go.bipush (v := 20) hx hb (by decide) d_Ref_makes_96 ?_
        refine Go.iload_n hx hb 1 rfl d_Ref_makes_98 ?_
        refine Go.imul hx hb d_Ref_makes_99 ?_
        refine Go.iload hx hb 2 rfl d_Ref_makes_100 ?_
        refine Go.iadd hx hb d_Ref_makes_102 ?_
        refine Go.iconst (v := 0) hx hb (by decide) d_Ref_makes_103 ?_
        obtain ⟨c104, h⟩ := gg_some h
        refine Go.iast hx hb hK 11 10 (Rw_11 ad ca _) rfl c104 (uA st 10 (upd (gA st 10) ((20 * v3) + v4).toNatClampNeg 0)) (Rs_A10 ad ca _ _) d_Ref_makes_104 ?_
        refine Go.aload_n hx hb 0 rfl d_Ref_makes_105 ?_
        refine Go.get (v := .ref (ad 12)) hx hb hts in_Ref hown hK 0 (Rw_0 ad ca _) rfl 17 (by decide) (hts _ k_632) (fun _ h9 => h9) rfl d_Ref_makes_106 ?_
        refine Go.bipush (v := 20) hx hb (by decide) d_Ref_makes_109 ?_
        refine Go.iload_n hx hb 1 rfl d_Ref_makes_111 ?_
        refine Go.imul hx hb d_Ref_makes_112 ?_
        refine Go.iload hx hb 2 rfl d_Ref_makes_113 ?_
        refine Go.iadd hx hb d_Ref_makes_115 ?_
        refine Go.iconst (v := 0) hx hb (by decide) d_Ref_makes_116 ?_
        obtain ⟨c117, h⟩ := gg_some h
        refine Go.iast hx hb hK 12 11 (Rw_12 ad ca _) rfl c117 (uA (uA st 10 (upd (gA st 10) ((20 * v3) + v4).toNatClampNeg 0)) 11 (upd (gA st 11) ((20 * v3) + v4).toNatClampNeg 0)) (Rs_A11 ad ca _ _) d_Ref_makes_117 ?_
        refine Go.iinc (v := v4 + 1) (lv' := [(4, .int (v4 + 1)), (0, .ref (ad 0)), (3, .int v3)]) hx hb 2 rfl rfl (Nat.le_of_ble_eq_true rfl) rfl d_Ref_makes_118 ?_
        refine Go.goto (tgt := 85) hx hb d_Ref_makes_121 rfl ?_
        refine Go.sub [1, 2, 0] rfl ?_
        exact ih _ _ _ h
  have L15 : ∀ (n : Nat) (v1 : Int32) (v2 : Int32) (v3 : Int32) (st : SG), fR_ValueMachineModel_makes_L15 N n v1 v2 v3 st = some (r, u) → Go (Rw ad ca) D vwCl A s.heap 5 p l e ({ frames := 2, cells := 0, slots := 0, locals := 45 } : Room) s m ([.ref (ad 0), .int a0, .int a1] : List Value).toArray below meth c 0 0 (MQ below (va_Qi (fun r' u' => r' = r ∧ u' = u) (goPost (Rw ad ca) D vwCl (Rtys ca) A) A) ([.ref (ad 0), .int a0, .int a1] : List Value).toArray s 0 0 A) 15 [(0, .ref (ad 0)), (1, .int v1), (2, .int v2), (3, .int v3)] [] st := by
    intro n
    induction n with
    | zero => intro v1 v2 v3 st h; cases h
    | succ n ih =>
      intro v1 v2 v3 st h
      unfold fR_ValueMachineModel_makes_L15 at h
      refine Go.iload_n hx hb 3 rfl d_Ref_makes_15 ?_
      refine Go.bipush (v := 30) hx hb (by decide) d_Ref_makes_16 ?_
      refine Go.icmp_ge (tgt := 36) hx hb d_Ref_makes_18 rfl (fun c18 => ?_) (fun c18 => ?_)
      · replace h := (if_pos c18).symm.trans h
        refine Go.aload_n hx hb 0 rfl d_Ref_makes_36 ?_
        refine Go.iload_n hx hb 3 rfl d_Ref_makes_37 ?_
        refine Go.bipush (v := 30) hx hb (by decide) d_Ref_makes_38 ?_
        refine Go.icmp_ge (tgt := 47) hx hb d_Ref_makes_40 rfl (fun c40 => ?_) (fun c40 => ?_)
        · replace h := (if_pos c40).symm.trans h
          refine Go.iconst (v := 0) hx hb (by decide) d_Ref_makes_47 ?_
          refine Go.bipush (v := 6) hx hb (by decide) d_Ref_makes_48 ?_
          obtain ⟨r2, s2, q2, h⟩ := gb_some h
          refine Go.callVi S hK hA 0 (Rw_0 ad ca _) rfl (fun sz9 => m_Ref_needs l D ad ca N _ sz9 _ _ r2 s2 q2) (cwV 2 hts (gwV k_747 k_749 k_40 k_67 k_750) rfl rfl rfl (by decide +kernel) ⟨Nat.le_of_ble_eq_true rfl, Nat.le_of_ble_eq_true rfl⟩) rfl rfl (Nat.le_of_ble_eq_true rfl) ⟨Nat.zero_le _, Nat.zero_le _⟩ d_Ref_makes_50 ?_
          refine Go.if_ne (tgt := 58) hx hb d_Ref_makes_53 rfl (fun c53 => ?_) (fun c53 => ?_)
          · replace h := (if_neg c53).symm.trans h
            refine Go.aload_n hx hb 0 rfl d_Ref_makes_58 ?_
            refine Go.dup hx hb rfl d_Ref_makes_59 ?_
            refine Go.get (v := .int (gI s2 12)) hx hb hts in_Ref hown hK 0 (Rw_0 ad ca _) rfl 25 (by decide) (hts _ k_640) (fun _ h9 => h9) rfl d_Ref_makes_60 ?_
            refine Go.iconst (v := 1) hx hb (by decide) d_Ref_makes_63 ?_
            refine Go.iadd hx hb d_Ref_makes_64 ?_
            refine Go.put (ty := (.int)) hx hb hts in_Ref ty_Ref tyok_Ref nm_Ref hown hK 0 (Rw_0 ad ca _) rfl 25 (by decide) (hts _ k_640) (fun _ h9 => h9) rfl (by decide +kernel) rfl rfl (Nat.le_of_ble_eq_true rfl) (uI s2 12 ((gI s2 12) + 1)) (Rs_I12 ad ca _ _) d_Ref_makes_65 ?_
            refine Go.aload_n hx hb 0 rfl d_Ref_makes_68 ?_
            refine Go.get (v := .ref (ad 9)) hx hb hts in_Ref hown hK 0 (Rw_0 ad ca _) rfl 14 (by decide) (hts _ k_629) (fun _ h9 => h9) rfl d_Ref_makes_69 ?_
            refine Go.iload_n hx hb 3 rfl d_Ref_makes_72 ?_
            refine Go.iload_n hx hb 1 rfl d_Ref_makes_73 ?_
            obtain ⟨c74, h⟩ := gg_some h
            refine Go.iast hx hb hK 9 8 (Rw_9 ad ca _) rfl c74 (uA (uI s2 12 ((gI s2 12) + 1)) 8 (upd (gA s2 8) v3.toNatClampNeg v1)) (Rs_A8 ad ca _ _) d_Ref_makes_74 ?_
            refine Go.aload_n hx hb 0 rfl d_Ref_makes_75 ?_
            refine Go.get (v := .ref (ad 10)) hx hb hts in_Ref hown hK 0 (Rw_0 ad ca _) rfl 15 (by decide) (hts _ k_630) (fun _ h9 => h9) rfl d_Ref_makes_76 ?_
            refine Go.iload_n hx hb 3 rfl d_Ref_makes_79 ?_
            refine Go.iload_n hx hb 2 rfl d_Ref_makes_80 ?_
            obtain ⟨c81, h⟩ := gg_some h
            refine Go.iast hx hb hK 10 9 (Rw_10 ad ca _) rfl c81 (uA (uA (uI s2 12 ((gI s2 12) + 1)) 8 (upd (gA s2 8) v3.toNatClampNeg v1)) 9 (upd (gA s2 9) v3.toNatClampNeg v2)) (Rs_A9 ad ca _ _) d_Ref_makes_81 ?_
            refine Go.iconst (v := 0) hx hb (by decide) d_Ref_makes_82 ?_
            refine Go.istore (i := 4) (lv' := [(4, .int 0), (0, .ref (ad 0)), (1, .int v1), (2, .int v2), (3, .int v3)]) hx hb (Nat.le_of_ble_eq_true rfl) rfl d_Ref_makes_83 ?_
            refine Go.sub [1, 4, 0] rfl ?_
            exact L85 N _ _ _ h
          · replace h := (if_pos c53).symm.trans h
            refine Go.iconst (v := (-1)) hx hb (by decide) d_Ref_makes_56 ?_
            exact Go.iret hx hb hr hK hlk h d_Ref_makes_57
        · replace h := (if_neg c40).symm.trans h
          refine Go.iconst (v := 1) hx hb (by decide) d_Ref_makes_43 ?_
          refine Go.goto (tgt := 48) hx hb d_Ref_makes_44 rfl ?_
          refine Go.bipush (v := 6) hx hb (by decide) d_Ref_makes_48 ?_
          obtain ⟨r3, s3, q3, h⟩ := gb_some h
          refine Go.callVi S hK hA 0 (Rw_0 ad ca _) rfl (fun sz9 => m_Ref_needs l D ad ca N _ sz9 _ _ r3 s3 q3) (cwV 2 hts (gwV k_747 k_749 k_40 k_67 k_750) rfl rfl rfl (by decide +kernel) ⟨Nat.le_of_ble_eq_true rfl, Nat.le_of_ble_eq_true rfl⟩) rfl rfl (Nat.le_of_ble_eq_true rfl) ⟨Nat.zero_le _, Nat.zero_le _⟩ d_Ref_makes_50 ?_
          refine Go.if_ne (tgt := 58) hx hb d_Ref_makes_53 rfl (fun c53 => ?_) (fun c53 => ?_)
          · replace h := (if_neg c53).symm.trans h
            refine Go.aload_n hx hb 0 rfl d_Ref_makes_58 ?_
            refine Go.dup hx hb rfl d_Ref_makes_59 ?_
            refine Go.get (v := .int (gI s3 12)) hx hb hts in_Ref hown hK 0 (Rw_0 ad ca _) rfl 25 (by decide) (hts _ k_640) (fun _ h9 => h9) rfl d_Ref_makes_60 ?_
            refine Go.iconst (v := 1) hx hb (by decide) d_Ref_makes_63 ?_
            refine Go.iadd hx hb d_Ref_makes_64 ?_
            refine Go.put (ty := (.int)) hx hb hts in_Ref ty_Ref tyok_Ref nm_Ref hown hK 0 (Rw_0 ad ca _) rfl 25 (by decide) (hts _ k_640) (fun _ h9 => h9) rfl (by decide +kernel) rfl rfl (Nat.le_of_ble_eq_true rfl) (uI s3 12 ((gI s3 12) + 1)) (Rs_I12 ad ca _ _) d_Ref_makes_65 ?_
            refine Go.aload_n hx hb 0 rfl d_Ref_makes_68 ?_
            refine Go.get (v := .ref (ad 9)) hx hb hts in_Ref hown hK 0 (Rw_0 ad ca _) rfl 14 (by decide) (hts _ k_629) (fun _ h9 => h9) rfl d_Ref_makes_69 ?_
            refine Go.iload_n hx hb 3 rfl d_Ref_makes_72 ?_
            refine Go.iload_n hx hb 1 rfl d_Ref_makes_73 ?_
            obtain ⟨c74, h⟩ := gg_some h
            refine Go.iast hx hb hK 9 8 (Rw_9 ad ca _) rfl c74 (uA (uI s3 12 ((gI s3 12) + 1)) 8 (upd (gA s3 8) v3.toNatClampNeg v1)) (Rs_A8 ad ca _ _) d_Ref_makes_74 ?_
            refine Go.aload_n hx hb 0 rfl d_Ref_makes_75 ?_
            refine Go.get (v := .ref (ad 10)) hx hb hts in_Ref hown hK 0 (Rw_0 ad ca _) rfl 15 (by decide) (hts _ k_630) (fun _ h9 => h9) rfl d_Ref_makes_76 ?_
            refine Go.iload_n hx hb 3 rfl d_Ref_makes_79 ?_
            refine Go.iload_n hx hb 2 rfl d_Ref_makes_80 ?_
            obtain ⟨c81, h⟩ := gg_some h
            refine Go.iast hx hb hK 10 9 (Rw_10 ad ca _) rfl c81 (uA (uA (uI s3 12 ((gI s3 12) + 1)) 8 (upd (gA s3 8) v3.toNatClampNeg v1)) 9 (upd (gA s3 9) v3.toNatClampNeg v2)) (Rs_A9 ad ca _ _) d_Ref_makes_81 ?_
            refine Go.iconst (v := 0) hx hb (by decide) d_Ref_makes_82 ?_
            refine Go.istore (i := 4) (lv' := [(4, .int 0), (0, .ref (ad 0)), (1, .int v1), (2, .int v2), (3, .int v3)]) hx hb (Nat.le_of_ble_eq_true rfl) rfl d_Ref_makes_83 ?_
            refine Go.sub [1, 4, 0] rfl ?_
            exact L85 N _ _ _ h
          · replace h := (if_pos c53).symm.trans h
            refine Go.iconst (v := (-1)) hx hb (by decide) d_Ref_makes_56 ?_
            exact Go.iret hx hb hr hK hlk h d_Ref_makes_57
      · replace h := (if_neg c18).symm.trans h
        refine Go.aload_n hx hb 0 rfl d_Ref_makes_21 ?_
        refine Go.get (v := .ref (ad 9)) hx hb hts in_Ref hown hK 0 (Rw_0 ad ca _) rfl 14 (by decide) (hts _ k_629) (fun _ h9 => h9) rfl d_Ref_makes_22 ?_
        refine Go.iload_n hx hb 3 rfl d_Ref_makes_25 ?_
        obtain ⟨c26, h⟩ := gg_some h
        refine Go.iald (v := gA st 8 v3.toNatClampNeg) hx hb hK 9 8 (Rw_9 ad ca _) rfl c26 rfl d_Ref_makes_26 ?_
        refine Go.if_eq (tgt := 36) hx hb d_Ref_makes_27 rfl (fun c27 => ?_) (fun c27 => ?_)
        · replace h := (if_pos c27).symm.trans h
          refine Go.aload_n hx hb 0 rfl d_Ref_makes_36 ?_
          refine Go.iload_n hx hb 3 rfl d_Ref_makes_37 ?_
          refine Go.bipush (v := 30) hx hb (by decide) d_Ref_makes_38 ?_
          refine Go.icmp_ge (tgt := 47) hx hb d_Ref_makes_40 rfl (fun c40 => ?_) (fun c40 => ?_)
          · replace h := (if_pos c40).symm.trans h
            refine Go.iconst (v := 0) hx hb (by decide) d_Ref_makes_47 ?_
            refine Go.bipush (v := 6) hx hb (by decide) d_Ref_makes_48 ?_
            obtain ⟨r4, s4, q4, h⟩ := gb_some h
            refine Go.callVi S hK hA 0 (Rw_0 ad ca _) rfl (fun sz9 => m_Ref_needs l D ad ca N _ sz9 _ _ r4 s4 q4) (cwV 2 hts (gwV k_747 k_749 k_40 k_67 k_750) rfl rfl rfl (by decide +kernel) ⟨Nat.le_of_ble_eq_true rfl, Nat.le_of_ble_eq_true rfl⟩) rfl rfl (Nat.le_of_ble_eq_true rfl) ⟨Nat.zero_le _, Nat.zero_le _⟩ d_Ref_makes_50 ?_
            refine Go.if_ne (tgt := 58) hx hb d_Ref_makes_53 rfl (fun c53 => ?_) (fun c53 => ?_)
            · replace h := (if_neg c53).symm.trans h
              refine Go.aload_n hx hb 0 rfl d_Ref_makes_58 ?_
              refine Go.dup hx hb rfl d_Ref_makes_59 ?_
              refine Go.get (v := .int (gI s4 12)) hx hb hts in_Ref hown hK 0 (Rw_0 ad ca _) rfl 25 (by decide) (hts _ k_640) (fun _ h9 => h9) rfl d_Ref_makes_60 ?_
              refine Go.iconst (v := 1) hx hb (by decide) d_Ref_makes_63 ?_
              refine Go.iadd hx hb d_Ref_makes_64 ?_
              refine Go.put (ty := (.int)) hx hb hts in_Ref ty_Ref tyok_Ref nm_Ref hown hK 0 (Rw_0 ad ca _) rfl 25 (by decide) (hts _ k_640) (fun _ h9 => h9) rfl (by decide +kernel) rfl rfl (Nat.le_of_ble_eq_true rfl) (uI s4 12 ((gI s4 12) + 1)) (Rs_I12 ad ca _ _) d_Ref_makes_65 ?_
              refine Go.aload_n hx hb 0 rfl d_Ref_makes_68 ?_
              refine Go.get (v := .ref (ad 9)) hx hb hts in_Ref hown hK 0 (Rw_0 ad ca _) rfl 14 (by decide) (hts _ k_629) (fun _ h9 => h9) rfl d_Ref_makes_69 ?_
              refine Go.iload_n hx hb 3 rfl d_Ref_makes_72 ?_
              refine Go.iload_n hx hb 1 rfl d_Ref_makes_73 ?_
              obtain ⟨c74, h⟩ := gg_some h
              refine Go.iast hx hb hK 9 8 (Rw_9 ad ca _) rfl c74 (uA (uI s4 12 ((gI s4 12) + 1)) 8 (upd (gA s4 8) v3.toNatClampNeg v1)) (Rs_A8 ad ca _ _) d_Ref_makes_74 ?_
              refine Go.aload_n hx hb 0 rfl d_Ref_makes_75 ?_
              refine Go.get (v := .ref (ad 10)) hx hb hts in_Ref hown hK 0 (Rw_0 ad ca _) rfl 15 (by decide) (hts _ k_630) (fun _ h9 => h9) rfl d_Ref_makes_76 ?_
              refine Go.iload_n hx hb 3 rfl d_Ref_makes_79 ?_
              refine Go.iload_n hx hb 2 rfl d_Ref_makes_80 ?_
              obtain ⟨c81, h⟩ := gg_some h
              refine Go.iast hx hb hK 10 9 (Rw_10 ad ca _) rfl c81 (uA (uA (uI s4 12 ((gI s4 12) + 1)) 8 (upd (gA s4 8) v3.toNatClampNeg v1)) 9 (upd (gA s4 9) v3.toNatClampNeg v2)) (Rs_A9 ad ca _ _) d_Ref_makes_81 ?_
              refine Go.iconst (v := 0) hx hb (by decide) d_Ref_makes_82 ?_
              refine Go.istore (i := 4) (lv' := [(4, .int 0), (0, .ref (ad 0)), (1, .int v1), (2, .int v2), (3, .int v3)]) hx hb (Nat.le_of_ble_eq_true rfl) rfl d_Ref_makes_83 ?_
              refine Go.sub [1, 4, 0] rfl ?_
              exact L85 N _ _ _ h
            · replace h := (if_pos c53).symm.trans h
              refine Go.iconst (v := (-1)) hx hb (by decide) d_Ref_makes_56 ?_
              exact Go.iret hx hb hr hK hlk h d_Ref_makes_57
          · replace h := (if_neg c40).symm.trans h
            refine Go.iconst (v := 1) hx hb (by decide) d_Ref_makes_43 ?_
            refine Go.goto (tgt := 48) hx hb d_Ref_makes_44 rfl ?_
            refine Go.bipush (v := 6) hx hb (by decide) d_Ref_makes_48 ?_
            obtain ⟨r5, s5, q5, h⟩ := gb_some h
            refine Go.callVi S hK hA 0 (Rw_0 ad ca _) rfl (fun sz9 => m_Ref_needs l D ad ca N _ sz9 _ _ r5 s5 q5) (cwV 2 hts (gwV k_747 k_749 k_40 k_67 k_750) rfl rfl rfl (by decide +kernel) ⟨Nat.le_of_ble_eq_true rfl, Nat.le_of_ble_eq_true rfl⟩) rfl rfl (Nat.le_of_ble_eq_true rfl) ⟨Nat.zero_le _, Nat.zero_le _⟩ d_Ref_makes_50 ?_
            refine Go.if_ne (tgt := 58) hx hb d_Ref_makes_53 rfl (fun c53 => ?_) (fun c53 => ?_)
            · replace h := (if_neg c53).symm.trans h
              refine Go.aload_n hx hb 0 rfl d_Ref_makes_58 ?_
              refine Go.dup hx hb rfl d_Ref_makes_59 ?_
              refine Go.get (v := .int (gI s5 12)) hx hb hts in_Ref hown hK 0 (Rw_0 ad ca _) rfl 25 (by decide) (hts _ k_640) (fun _ h9 => h9) rfl d_Ref_makes_60 ?_
              refine Go.iconst (v := 1) hx hb (by decide) d_Ref_makes_63 ?_
              refine Go.iadd hx hb d_Ref_makes_64 ?_
              refine Go.put (ty := (.int)) hx hb hts in_Ref ty_Ref tyok_Ref nm_Ref hown hK 0 (Rw_0 ad ca _) rfl 25 (by decide) (hts _ k_640) (fun _ h9 => h9) rfl (by decide +kernel) rfl rfl (Nat.le_of_ble_eq_true rfl) (uI s5 12 ((gI s5 12) + 1)) (Rs_I12 ad ca _ _) d_Ref_makes_65 ?_
              refine Go.aload_n hx hb 0 rfl d_Ref_makes_68 ?_
              refine Go.get (v := .ref (ad 9)) hx hb hts in_Ref hown hK 0 (Rw_0 ad ca _) rfl 14 (by decide) (hts _ k_629) (fun _ h9 => h9) rfl d_Ref_makes_69 ?_
              refine Go.iload_n hx hb 3 rfl d_Ref_makes_72 ?_
              refine Go.iload_n hx hb 1 rfl d_Ref_makes_73 ?_
              obtain ⟨c74, h⟩ := gg_some h
              refine Go.iast hx hb hK 9 8 (Rw_9 ad ca _) rfl c74 (uA (uI s5 12 ((gI s5 12) + 1)) 8 (upd (gA s5 8) v3.toNatClampNeg v1)) (Rs_A8 ad ca _ _) d_Ref_makes_74 ?_
              refine Go.aload_n hx hb 0 rfl d_Ref_makes_75 ?_
              refine Go.get (v := .ref (ad 10)) hx hb hts in_Ref hown hK 0 (Rw_0 ad ca _) rfl 15 (by decide) (hts _ k_630) (fun _ h9 => h9) rfl d_Ref_makes_76 ?_
              refine Go.iload_n hx hb 3 rfl d_Ref_makes_79 ?_
              refine Go.iload_n hx hb 2 rfl d_Ref_makes_80 ?_
              obtain ⟨c81, h⟩ := gg_some h
              refine Go.iast hx hb hK 10 9 (Rw_10 ad ca _) rfl c81 (uA (uA (uI s5 12 ((gI s5 12) + 1)) 8 (upd (gA s5 8) v3.toNatClampNeg v1)) 9 (upd (gA s5 9) v3.toNatClampNeg v2)) (Rs_A9 ad ca _ _) d_Ref_makes_81 ?_
              refine Go.iconst (v := 0) hx hb (by decide) d_Ref_makes_82 ?_
              refine Go.istore (i := 4) (lv' := [(4, .int 0), (0, .ref (ad 0)), (1, .int v1), (2, .int v2), (3, .int v3)]) hx hb (Nat.le_of_ble_eq_true rfl) rfl d_Ref_makes_83 ?_
              refine Go.sub [1, 4, 0] rfl ?_
              exact L85 N _ _ _ h
            · replace h := (if_pos c53).symm.trans h
              refine Go.iconst (v := (-1)) hx hb (by decide) d_Ref_makes_56 ?_
              exact Go.iret hx hb hr hK hlk h d_Ref_makes_57
        · replace h := (if_neg c27).symm.trans h
          refine Go.iinc (v := v3 + 1) (lv' := [(3, .int (v3 + 1)), (0, .ref (ad 0)), (1, .int v1), (2, .int v2)]) hx hb 3 rfl rfl (Nat.le_of_ble_eq_true rfl) rfl d_Ref_makes_30 ?_
          refine Go.goto (tgt := 15) hx hb d_Ref_makes_33 rfl ?_
          refine Go.sub [1, 2, 3, 0] rfl ?_
          exact ih _ _ _ _ h
  refine Go.aload_n hx hb 0 rfl d_Ref_makes_0 ?_
  obtain ⟨r1, s1, q1, h⟩ := gb_some h
  refine Go.callVi S hK hA 0 (Rw_0 ad ca _) rfl (fun sz9 => m_Ref_many l D ad ca N _ sz9 r1 s1 q1) (cwV 0 hts (gwV k_798 k_800 k_52 k_67 k_801) rfl rfl rfl (by decide +kernel) ⟨Nat.le_of_ble_eq_true rfl, Nat.le_of_ble_eq_true rfl⟩) rfl rfl (Nat.le_of_ble_eq_true rfl) ⟨Nat.zero_le _, Nat.zero_le _⟩ d_Ref_makes_1 ?_
  refine Go.bipush (v := 30) hx hb (by decide) d_Ref_makes_4 ?_
  refine Go.icmp_ne (tgt := 13) hx hb d_Ref_makes_6 rfl (fun c6 => ?_) (fun c6 => ?_)
  · replace h := (if_neg c6).symm.trans h
    refine Go.iconst (v := 0) hx hb (by decide) d_Ref_makes_13 ?_
    refine Go.istore_n (i := 3) (lv' := [(3, .int 0), (0, .ref (ad 0)), (1, .int a0), (2, .int a1)]) hx hb rfl (Nat.le_of_ble_eq_true rfl) rfl d_Ref_makes_14 ?_
    refine Go.sub [1, 2, 3, 0] rfl ?_
    exact L15 N _ _ _ _ h
  · replace h := (if_pos c6).symm.trans h
    refine Go.aload_n hx hb 0 rfl d_Ref_makes_9 ?_
    obtain ⟨_, s6, q6, h⟩ := gb_some h
    refine Go.callVv S hK hA 0 (Rw_0 ad ca _) rfl (fun sz9 => m_Ref_sweeps l D ad ca N _ sz9 _ s6 q6) (cwV 0 hts (gwV k_802 k_804 k_53 k_67 k_805) rfl rfl rfl (by decide +kernel) ⟨Nat.le_of_ble_eq_true rfl, Nat.le_of_ble_eq_true rfl⟩) rfl rfl (Nat.le_of_ble_eq_true rfl) ⟨Nat.zero_le _, Nat.zero_le _⟩ d_Ref_makes_10 ?_
    refine Go.iconst (v := 0) hx hb (by decide) d_Ref_makes_13 ?_
    refine Go.istore_n (i := 3) (lv' := [(3, .int 0), (0, .ref (ad 0)), (1, .int a0), (2, .int a1)]) hx hb rfl (Nat.le_of_ble_eq_true rfl) rfl d_Ref_makes_14 ?_
    refine Go.sub [1, 2, 3, 0] rfl ?_
    exact L15 N _ _ _ _ h
set_option maxHeartbeats 4000000 in
set_option maxRecDepth 100000 in
theorem m_Ref_object (l : Launch) (D : va_G) (ad : Nat → Nat) (ca : Nat → ClassId) (N : Nat) (st : SG) (sz : Nat) (r : Unit) (u : SG) (h : fR_ValueMachineModel_object N st = some (r, u)) : Met l y_Ref_object (Cond.code y_Ref_object c_Ref_object 2 none :: tbl) ({ frames := 3, cells := 0, slots := 0, locals := 69 } : Room) (va_Pc [.ref (ad 0)] (goPre (Rw ad ca) D vwCl (Rtys ca) sz st)) (va_Qv (fun u' => u' = u) (goPost (Rw ad ca) D vwCl (Rtys ca) (va_A (Rw ad ca st) sz)) (va_A (Rw ad ca st) sz)) 0 0 (va_A (Rw ad ca st) sz) := by
  refine go_met (Qc := fun A9 => va_Qv (fun u' => u' = u) (goPost (Rw ad ca) D vwCl (Rtys ca) A9) A9) (cc := c_Ref_object) (maxL := 2) (ret := none) [(0, .ref (ad 0))] (by decide) rfl (Nat.le_of_ble_eq_true rfl) rfl ?_
  intro p e s m below meth c A S hr hlk hK hA hsz
  obtain ⟨hx, hb, hml, hown, hts⟩ := id S
  unfold fR_ValueMachineModel_object at h
  refine Go.aload_n hx hb 0 rfl d_Ref_object_0 ?_
  refine Go.iconst (v := 4) hx hb (by decide) d_Ref_object_1 ?_
  refine Go.bipush (v := 16) hx hb (by decide) d_Ref_object_2 ?_
  obtain ⟨r1, s1, q1, h⟩ := gb_some h
  refine Go.callVi S hK hA 0 (Rw_0 ad ca _) rfl (fun sz9 => m_Ref_makes l D ad ca N _ sz9 _ _ r1 s1 q1) (cwV 2 hts (gwV k_794 k_796 k_51 k_67 k_797) rfl rfl rfl (by decide +kernel) ⟨Nat.le_of_ble_eq_true rfl, Nat.le_of_ble_eq_true rfl⟩) rfl rfl (Nat.le_of_ble_eq_true rfl) ⟨Nat.zero_le _, Nat.zero_le _⟩ d_Ref_object_4 ?_
  refine Go.istore_n (i := 1) (lv' := [(1, .int r1), (0, .ref (ad 0))]) hx hb rfl (Nat.le_of_ble_eq_true rfl) rfl d_Ref_object_7 ?_
  refine Go.iload_n hx hb 0 rfl d_Ref_object_8 ?_
  refine Go.iconst (v := (-1)) hx hb (by decide) d_Ref_object_9 ?_
  refine Go.icmp_eq (tgt := 19) hx hb d_Ref_object_10 rfl (fun c10 => ?_) (fun c10 => ?_)
  · replace h := (if_pos c10).symm.trans h
    exact Go.vret hx hb hr hK hlk h d_Ref_object_19
  · replace h := (if_neg c10).symm.trans h
    refine Go.aload_n hx hb 1 rfl d_Ref_object_13 ?_
    refine Go.iconst (v := 4) hx hb (by decide) d_Ref_object_14 ?_
    refine Go.iload_n hx hb 0 rfl d_Ref_object_15 ?_
    obtain ⟨_, s2, q2, h⟩ := gb_some h
    refine Go.callVv S hK hA 0 (Rw_0 ad ca _) rfl (fun sz9 => m_Ref_acc l D ad ca N _ sz9 _ _ _ s2 q2) (cwV 2 hts (gwV k_739 k_741 k_38 k_67 k_742) rfl rfl rfl (by decide +kernel) ⟨Nat.le_of_ble_eq_true rfl, Nat.le_of_ble_eq_true rfl⟩) rfl rfl (Nat.le_of_ble_eq_true rfl) ⟨Nat.zero_le _, Nat.zero_le _⟩ d_Ref_object_16 ?_
    exact Go.vret hx hb hr hK hlk h d_Ref_object_19
set_option maxHeartbeats 4000000 in
set_option maxRecDepth 100000 in
theorem m_Ref_array (l : Launch) (D : va_G) (ad : Nat → Nat) (ca : Nat → ClassId) (N : Nat) (st : SG) (sz : Nat) (a0 : Int32) (r : Unit) (u : SG) (h : fR_ValueMachineModel_array N st a0 = some (r, u)) : Met l y_Ref_array (Cond.code y_Ref_array c_Ref_array 4 none :: tbl) ({ frames := 3, cells := 0, slots := 0, locals := 69 } : Room) (va_Pc [.ref (ad 0), .int a0] (goPre (Rw ad ca) D vwCl (Rtys ca) sz st)) (va_Qv (fun u' => u' = u) (goPost (Rw ad ca) D vwCl (Rtys ca) (va_A (Rw ad ca st) sz)) (va_A (Rw ad ca st) sz)) 0 0 (va_A (Rw ad ca st) sz) := by
  refine go_met (Qc := fun A9 => va_Qv (fun u' => u' = u) (goPost (Rw ad ca) D vwCl (Rtys ca) A9) A9) (cc := c_Ref_array) (maxL := 4) (ret := none) [(0, .ref (ad 0)), (1, .int a0)] (by decide) rfl (Nat.le_of_ble_eq_true rfl) rfl ?_
  intro p e s m below meth c A S hr hlk hK hA hsz
  obtain ⟨hx, hb, hml, hown, hts⟩ := id S
  unfold fR_ValueMachineModel_array at h
  have L46 : ∀ (n : Nat) (v1 : Int32) (v2 : Int32) (v3 : Int32) (st : SG), fR_ValueMachineModel_array_L46 N n v1 v2 v3 st = some (r, u) → Go (Rw ad ca) D vwCl A s.heap 4 p l e ({ frames := 3, cells := 0, slots := 0, locals := 69 } : Room) s m ([.ref (ad 0), .int a0] : List Value).toArray below meth c 0 0 (MQ below (va_Qv (fun u' => u' = u) (goPost (Rw ad ca) D vwCl (Rtys ca) A) A) ([.ref (ad 0), .int a0] : List Value).toArray s 0 0 A) 46 [(0, .ref (ad 0)), (1, .int v1), (2, .int v2), (3, .int v3)] [] st := by
    intro n
    induction n with
    | zero => intro v1 v2 v3 st h; cases h
    | succ n ih =>
      intro v1 v2 v3 st h
      unfold fR_ValueMachineModel_array_L46 at h
      refine Go.iload_n hx hb 3 rfl d_Ref_array_46 ?_
      refine Go.iload_n hx hb 1 rfl d_Ref_array_47 ?_
      refine Go.icmp_ge (tgt := 105) hx hb d_Ref_array_48 rfl (fun c48 => ?_) (fun c48 => ?_)
      · replace h := (if_pos c48).symm.trans h
        refine Go.aload_n hx hb 0 rfl d_Ref_array_105 ?_
        refine Go.dup hx hb rfl d_Ref_array_106 ?_
        refine Go.get (v := .int (gI st 4)) hx hb hts in_Ref hown hK 0 (Rw_0 ad ca _) rfl 8 (by decide) (hts _ k_623) (fun _ h9 => h9) rfl d_Ref_array_107 ?_
        refine Go.iload_n hx hb 1 rfl d_Ref_array_110 ?_
        refine Go.isub hx hb d_Ref_array_111 ?_
        refine Go.put (ty := (.int)) hx hb hts in_Ref ty_Ref tyok_Ref nm_Ref hown hK 0 (Rw_0 ad ca _) rfl 8 (by decide) (hts _ k_623) (fun _ h9 => h9) rfl (by decide +kernel) rfl rfl (Nat.le_of_ble_eq_true rfl) (uI st 4 ((gI st 4) - v1)) (Rs_I4 ad ca _ _) d_Ref_array_112 ?_
        refine Go.aload_n hx hb 0 rfl d_Ref_array_115 ?_
        refine Go.iconst (v := 5) hx hb (by decide) d_Ref_array_116 ?_
        refine Go.iload_n hx hb 2 rfl d_Ref_array_117 ?_
        obtain ⟨_, s4, q4, h⟩ := gb_some h
        refine Go.callVv S hK hA 0 (Rw_0 ad ca _) rfl (fun sz9 => m_Ref_acc l D ad ca N _ sz9 _ _ _ s4 q4) (cwV 2 hts (gwV k_739 k_741 k_38 k_67 k_742) rfl rfl rfl (by decide +kernel) ⟨Nat.le_of_ble_eq_true rfl, Nat.le_of_ble_eq_true rfl⟩) rfl rfl (Nat.le_of_ble_eq_true rfl) ⟨Nat.zero_le _, Nat.zero_le _⟩ d_Ref_array_118 ?_
        exact Go.vret hx hb hr hK hlk h d_Ref_array_121
      · replace h := (if_neg c48).symm.trans h
        refine Go.aload_n hx hb 0 rfl d_Ref_array_51 ?_
        refine Go.get (v := .ref (ad 11)) hx hb hts in_Ref hown hK 0 (Rw_0 ad ca _) rfl 16 (by decide) (hts _ k_631) (fun _ h9 => h9) rfl d_Ref_array_52 ?_
        refine Go.bipush (v := 20) hx hb (by decide) d_Ref_array_55 ?_
        refine Go.iload_n hx hb 2 rfl d_Ref_array_57 ?_
        refine Go.imul hx hb d_Ref_array_58 ?_
        refine Go.iload_n hx hb 3 rfl d_Ref_array_59 ?_
        refine Go.iadd hx hb d_Ref_array_60 ?_
        refine Go.aload_n hx hb 0 rfl d_Ref_array_61 ?_
        refine Go.get (v := .ref (ad 3)) hx hb hts in_Ref hown hK 0 (Rw_0 ad ca _) rfl 6 (by decide) (hts _ k_621) (fun _ h9 => h9) rfl d_Ref_array_62 ?_
        refine Go.aload_n hx hb 0 rfl d_Ref_array_65 ?_
        refine Go.get (v := .int (gI st 4)) hx hb hts in_Ref hown hK 0 (Rw_0 ad ca _) rfl 8 (by decide) (hts _ k_623) (fun _ h9 => h9) rfl d_Ref_array_66 ?_
        refine Go.iload_n hx hb 1 rfl d_Ref_array_69 ?_
        refine Go.isub hx hb d_Ref_array_70 ?_
        refine Go.iload_n hx hb 3 rfl d_Ref_array_71 ?_
        refine Go.iadd hx hb d_Ref_array_72 ?_
        obtain ⟨c73, h⟩ := gg_some h
        refine Go.iald (v := gA st 2 (((gI st 4) - v1) + v3).toNatClampNeg) hx hb hK 3 2 (Rw_3 ad ca _) rfl c73 rfl d_Ref_array_73 ?_
        obtain ⟨c74, h⟩ := gg_some h
        refine Go.iast hx hb hK 11 10 (Rw_11 ad ca _) rfl c74 (uA st 10 (upd (gA st 10) ((20 * v2) + v3).toNatClampNeg (gA st 2 (((gI st 4) - v1) + v3).toNatClampNeg))) (Rs_A10 ad ca _ _) d_Ref_array_74 ?_
        refine Go.aload_n hx hb 0 rfl d_Ref_array_75 ?_
        refine Go.get (v := .ref (ad 12)) hx hb hts in_Ref hown hK 0 (Rw_0 ad ca _) rfl 17 (by decide) (hts _ k_632) (fun _ h9 => h9) rfl d_Ref_array_76 ?_
        refine Go.bipush (v := 20) hx hb (by decide) d_Ref_array_79 ?_
        refine Go.iload_n hx hb 2 rfl d_Ref_array_81 ?_
        refine Go.imul hx hb d_Ref_array_82 ?_
        refine Go.iload_n hx hb 3 rfl d_Ref_array_83 ?_
        refine Go.iadd hx hb d_Ref_array_84 ?_
        refine Go.aload_n hx hb 0 rfl d_Ref_array_85 ?_
        refine Go.get (v := .ref (ad 4)) hx hb hts in_Ref hown hK 0 (Rw_0 ad ca _) rfl 7 (by decide) (hts _ k_622) (fun _ h9 => h9) rfl d_Ref_array_86 ?_
        refine Go.aload_n hx hb 0 rfl d_Ref_array_89 ?_
        refine Go.get (v := .int (gI st 4)) hx hb hts in_Ref hown hK 0 (Rw_0 ad ca _) rfl 8 (by decide) (hts _ k_623) (fun _ h9 => h9) rfl d_Ref_array_90 ?_
        refine Go.iload_n hx hb 1 rfl d_Ref_array_93 ?_
        refine Go.isub hx hb d_Ref_array_94 ?_
        refine Go.iload_n hx hb 3 rfl d_Ref_array_95 ?_
        refine Go.iadd hx hb d_Ref_array_96 ?_
        obtain ⟨c97, h⟩ := gg_some h
        refine Go.iald (v := gA st 3 (((gI st 4) - v1) + v3).toNatClampNeg) hx hb hK 4 3 (Rw_4 ad ca _) rfl c97 rfl d_Ref_array_97 ?_
        obtain ⟨c98, h⟩ := gg_some h
        refine Go.iast hx hb hK 12 11 (Rw_12 ad ca _) rfl c98 (uA (uA st 10 (upd (gA st 10) ((20 * v2) + v3).toNatClampNeg (gA st 2 (((gI st 4) - v1) + v3).toNatClampNeg))) 11 (upd (gA st 11) ((20 * v2) + v3).toNatClampNeg (gA st 3 (((gI st 4) - v1) + v3).toNatClampNeg))) (Rs_A11 ad ca _ _) d_Ref_array_98 ?_
        refine Go.iinc (v := v3 + 1) (lv' := [(3, .int (v3 + 1)), (0, .ref (ad 0)), (1, .int v1), (2, .int v2)]) hx hb 3 rfl rfl (Nat.le_of_ble_eq_true rfl) rfl d_Ref_array_99 ?_
        refine Go.goto (tgt := 46) hx hb d_Ref_array_102 rfl ?_
        refine Go.sub [1, 2, 3, 0] rfl ?_
        exact ih _ _ _ _ h
  refine Go.aload_n hx hb 0 rfl d_Ref_array_0 ?_
  refine Go.iload_n hx hb 1 rfl d_Ref_array_1 ?_
  obtain ⟨r1, s1, q1, h⟩ := gb_some h
  refine Go.callVi S hK hA 0 (Rw_0 ad ca _) rfl (fun sz9 => m_Ref_has l D ad ca N _ sz9 _ r1 s1 q1) (cwV 1 hts (gwV k_763 k_765 k_44 k_67 k_766) rfl rfl rfl (by decide +kernel) ⟨Nat.le_of_ble_eq_true rfl, Nat.le_of_ble_eq_true rfl⟩) rfl rfl (Nat.le_of_ble_eq_true rfl) ⟨Nat.zero_le _, Nat.zero_le _⟩ d_Ref_array_2 ?_
  refine Go.pop hx hb rfl d_Ref_array_5 ?_
  refine Go.aload_n hx hb 0 rfl d_Ref_array_6 ?_
  refine Go.iload_n hx hb 1 rfl d_Ref_array_7 ?_
  refine Go.bipush (v := 20) hx hb (by decide) d_Ref_array_8 ?_
  refine Go.icmp_gt (tgt := 17) hx hb d_Ref_array_10 rfl (fun c10 => ?_) (fun c10 => ?_)
  · replace h := (if_pos c10).symm.trans h
    refine Go.iconst (v := 0) hx hb (by decide) d_Ref_array_17 ?_
    refine Go.iconst (v := 2) hx hb (by decide) d_Ref_array_18 ?_
    obtain ⟨r2, s2, q2, h⟩ := gb_some h
    refine Go.callVi S hK hA 0 (Rw_0 ad ca _) rfl (fun sz9 => m_Ref_needs l D ad ca N _ sz9 _ _ r2 s2 q2) (cwV 2 hts (gwV k_747 k_749 k_40 k_67 k_750) rfl rfl rfl (by decide +kernel) ⟨Nat.le_of_ble_eq_true rfl, Nat.le_of_ble_eq_true rfl⟩) rfl rfl (Nat.le_of_ble_eq_true rfl) ⟨Nat.zero_le _, Nat.zero_le _⟩ d_Ref_array_19 ?_
    refine Go.pop hx hb rfl d_Ref_array_22 ?_
    refine Go.aload_n hx hb 0 rfl d_Ref_array_23 ?_
    refine Go.get (v := .int (gI s2 16)) hx hb hts in_Ref hown hK 0 (Rw_0 ad ca _) rfl 29 (by decide) (hts _ k_644) (fun _ h9 => h9) rfl d_Ref_array_24 ?_
    refine Go.if_le (tgt := 31) hx hb d_Ref_array_27 rfl (fun c27 => ?_) (fun c27 => ?_)
    · replace h := (if_pos c27).symm.trans h
      refine Go.aload_n hx hb 0 rfl d_Ref_array_31 ?_
      refine Go.iconst (v := 5) hx hb (by decide) d_Ref_array_32 ?_
      refine Go.iload_n hx hb 1 rfl d_Ref_array_33 ?_
      obtain ⟨r3, s3, q3, h⟩ := gb_some h
      refine Go.callVi S hK hA 0 (Rw_0 ad ca _) rfl (fun sz9 => m_Ref_makes l D ad ca N _ sz9 _ _ r3 s3 q3) (cwV 2 hts (gwV k_794 k_796 k_51 k_67 k_797) rfl rfl rfl (by decide +kernel) ⟨Nat.le_of_ble_eq_true rfl, Nat.le_of_ble_eq_true rfl⟩) rfl rfl (Nat.le_of_ble_eq_true rfl) ⟨Nat.zero_le _, Nat.zero_le _⟩ d_Ref_array_34 ?_
      refine Go.istore_n (i := 2) (lv' := [(2, .int r3), (0, .ref (ad 0)), (1, .int a0)]) hx hb rfl (Nat.le_of_ble_eq_true rfl) rfl d_Ref_array_37 ?_
      refine Go.iload_n hx hb 0 rfl d_Ref_array_38 ?_
      refine Go.iconst (v := (-1)) hx hb (by decide) d_Ref_array_39 ?_
      refine Go.icmp_ne (tgt := 44) hx hb d_Ref_array_40 rfl (fun c40 => ?_) (fun c40 => ?_)
      · replace h := (if_neg c40).symm.trans h
        refine Go.iconst (v := 0) hx hb (by decide) d_Ref_array_44 ?_
        refine Go.istore_n (i := 3) (lv' := [(3, .int 0), (2, .int r3), (0, .ref (ad 0)), (1, .int a0)]) hx hb rfl (Nat.le_of_ble_eq_true rfl) rfl d_Ref_array_45 ?_
        refine Go.sub [2, 3, 1, 0] rfl ?_
        exact L46 N _ _ _ _ h
      · replace h := (if_pos c40).symm.trans h
        exact Go.vret hx hb hr hK hlk h d_Ref_array_43
    · replace h := (if_neg c27).symm.trans h
      exact Go.vret hx hb hr hK hlk h d_Ref_array_30
  · replace h := (if_neg c10).symm.trans h
    refine Go.iconst (v := 1) hx hb (by decide) d_Ref_array_13 ?_
    refine Go.goto (tgt := 18) hx hb d_Ref_array_14 rfl ?_
    refine Go.iconst (v := 2) hx hb (by decide) d_Ref_array_18 ?_
    obtain ⟨r5, s5, q5, h⟩ := gb_some h
    refine Go.callVi S hK hA 0 (Rw_0 ad ca _) rfl (fun sz9 => m_Ref_needs l D ad ca N _ sz9 _ _ r5 s5 q5) (cwV 2 hts (gwV k_747 k_749 k_40 k_67 k_750) rfl rfl rfl (by decide +kernel) ⟨Nat.le_of_ble_eq_true rfl, Nat.le_of_ble_eq_true rfl⟩) rfl rfl (Nat.le_of_ble_eq_true rfl) ⟨Nat.zero_le _, Nat.zero_le _⟩ d_Ref_array_19 ?_
    refine Go.pop hx hb rfl d_Ref_array_22 ?_
    refine Go.aload_n hx hb 0 rfl d_Ref_array_23 ?_
    refine Go.get (v := .int (gI s5 16)) hx hb hts in_Ref hown hK 0 (Rw_0 ad ca _) rfl 29 (by decide) (hts _ k_644) (fun _ h9 => h9) rfl d_Ref_array_24 ?_
    refine Go.if_le (tgt := 31) hx hb d_Ref_array_27 rfl (fun c27 => ?_) (fun c27 => ?_)
    · replace h := (if_pos c27).symm.trans h
      refine Go.aload_n hx hb 0 rfl d_Ref_array_31 ?_
      refine Go.iconst (v := 5) hx hb (by decide) d_Ref_array_32 ?_
      refine Go.iload_n hx hb 1 rfl d_Ref_array_33 ?_
      obtain ⟨r6, s6, q6, h⟩ := gb_some h
      refine Go.callVi S hK hA 0 (Rw_0 ad ca _) rfl (fun sz9 => m_Ref_makes l D ad ca N _ sz9 _ _ r6 s6 q6) (cwV 2 hts (gwV k_794 k_796 k_51 k_67 k_797) rfl rfl rfl (by decide +kernel) ⟨Nat.le_of_ble_eq_true rfl, Nat.le_of_ble_eq_true rfl⟩) rfl rfl (Nat.le_of_ble_eq_true rfl) ⟨Nat.zero_le _, Nat.zero_le _⟩ d_Ref_array_34 ?_
      refine Go.istore_n (i := 2) (lv' := [(2, .int r6), (0, .ref (ad 0)), (1, .int a0)]) hx hb rfl (Nat.le_of_ble_eq_true rfl) rfl d_Ref_array_37 ?_
      refine Go.iload_n hx hb 0 rfl d_Ref_array_38 ?_
      refine Go.iconst (v := (-1)) hx hb (by decide) d_Ref_array_39 ?_
      refine Go.icmp_ne (tgt := 44) hx hb d_Ref_array_40 rfl (fun c40 => ?_) (fun c40 => ?_)
      · replace h := (if_neg c40).symm.trans h
        refine Go.iconst (v := 0) hx hb (by decide) d_Ref_array_44 ?_
        refine Go.istore_n (i := 3) (lv' := [(3, .int 0), (2, .int r6), (0, .ref (ad 0)), (1, .int a0)]) hx hb rfl (Nat.le_of_ble_eq_true rfl) rfl d_Ref_array_45 ?_
        refine Go.sub [2, 3, 1, 0] rfl ?_
        exact L46 N _ _ _ _ h
      · replace h := (if_pos c40).symm.trans h
        exact Go.vret hx hb hr hK hlk h d_Ref_array_43
    · replace h := (if_neg c27).symm.trans h
      exact Go.vret hx hb hr hK hlk h d_Ref_array_30
set_option maxHeartbeats 4000000 in
set_option maxRecDepth 100000 in
theorem m_Ref_same (l : Launch) (D : va_G) (ad : Nat → Nat) (ca : Nat → ClassId) (N : Nat) (st : SG) (sz : Nat) (a0 : Int32) (a1 : Int32) (a2 : Int32) (a3 : Int32) (r : Int32) (u : SG) (h : fR_ValueMachineModel_same N st a0 a1 a2 a3 = some (r, u)) : Met l y_Ref_same (Cond.code y_Ref_same c_Ref_same 4 (some .boolean) :: tbl) ({ frames := 0, cells := 0, slots := 0, locals := 0 } : Room) (va_Pc [.int a0, .int a1, .int a2, .int a3] (goPre (Rw ad ca) D vwCl (Rtys ca) sz st)) (va_Qi (fun r' u' => r' = r ∧ u' = u) (goPost (Rw ad ca) D vwCl (Rtys ca) (va_A (Rw ad ca st) sz)) (va_A (Rw ad ca st) sz)) 0 0 (va_A (Rw ad ca st) sz) := by
  refine go_met (Qc := fun A9 => va_Qi (fun r' u' => r' = r ∧ u' = u) (goPost (Rw ad ca) D vwCl (Rtys ca) A9) A9) (cc := c_Ref_same) (maxL := 4) (ret := (some .boolean)) [(0, .int a0), (1, .int a1), (2, .int a2), (3, .int a3)] (by decide) rfl (Nat.le_of_ble_eq_true rfl) rfl ?_
  intro p e s m below meth c A S hr hlk hK hA hsz
  obtain ⟨hx, hb, hml, hown, hts⟩ := id S
  unfold fR_ValueMachineModel_same at h
  refine Go.iload_n hx hb 0 rfl d_Ref_same_0 ?_
  refine Go.iload_n hx hb 2 rfl d_Ref_same_1 ?_
  refine Go.icmp_ne (tgt := 19) hx hb d_Ref_same_2 rfl (fun c2 => ?_) (fun c2 => ?_)
  · replace h := (if_neg c2).symm.trans h
    refine Go.iconst (v := 0) hx hb (by decide) d_Ref_same_19 ?_
    exact Go.zret hx hb hr hK hlk rfl h d_Ref_same_20
  · replace h := (if_pos c2).symm.trans h
    refine Go.iload_n hx hb 0 rfl d_Ref_same_5 ?_
    refine Go.iconst (v := 3) hx hb (by decide) d_Ref_same_6 ?_
    refine Go.icmp_lt (tgt := 15) hx hb d_Ref_same_7 rfl (fun c7 => ?_) (fun c7 => ?_)
    · replace h := (if_pos c7).symm.trans h
      refine Go.iconst (v := 1) hx hb (by decide) d_Ref_same_15 ?_
      refine Go.goto (tgt := 20) hx hb d_Ref_same_16 rfl ?_
      exact Go.zret hx hb hr hK hlk rfl h d_Ref_same_20
    · replace h := (if_neg c7).symm.trans h
      refine Go.iload_n hx hb 1 rfl d_Ref_same_10 ?_
      refine Go.iload_n hx hb 3 rfl d_Ref_same_11 ?_
      refine Go.icmp_ne (tgt := 19) hx hb d_Ref_same_12 rfl (fun c12 => ?_) (fun c12 => ?_)
      · replace h := (if_neg c12).symm.trans h
        refine Go.iconst (v := 0) hx hb (by decide) d_Ref_same_19 ?_
        exact Go.zret hx hb hr hK hlk rfl h d_Ref_same_20
      · replace h := (if_pos c12).symm.trans h
        refine Go.iconst (v := 1) hx hb (by decide) d_Ref_same_15 ?_
        refine Go.goto (tgt := 20) hx hb d_Ref_same_16 rfl ?_
        exact Go.zret hx hb hr hK hlk rfl h d_Ref_same_20
set_option maxHeartbeats 4000000 in
set_option maxRecDepth 100000 in
theorem m_Ref_element (l : Launch) (D : va_G) (ad : Nat → Nat) (ca : Nat → ClassId) (N : Nat) (st : SG) (sz : Nat) (r : Unit) (u : SG) (h : fR_ValueMachineModel_element N st = some (r, u)) : Met l y_Ref_element (Cond.code y_Ref_element c_Ref_element 3 none :: tbl) ({ frames := 2, cells := 0, slots := 0, locals := 44 } : Room) (va_Pc [.ref (ad 0)] (goPre (Rw ad ca) D vwCl (Rtys ca) sz st)) (va_Qv (fun u' => u' = u) (goPost (Rw ad ca) D vwCl (Rtys ca) (va_A (Rw ad ca st) sz)) (va_A (Rw ad ca st) sz)) 0 0 (va_A (Rw ad ca st) sz) := by
  refine go_met (Qc := fun A9 => va_Qv (fun u' => u' = u) (goPost (Rw ad ca) D vwCl (Rtys ca) A9) A9) (cc := c_Ref_element) (maxL := 3) (ret := none) [(0, .ref (ad 0))] (by decide) rfl (Nat.le_of_ble_eq_true rfl) rfl ?_
  intro p e s m below meth c A S hr hlk hK hA hsz
  obtain ⟨hx, hb, hml, hown, hts⟩ := id S
  unfold fR_ValueMachineModel_element at h
  refine Go.aload_n hx hb 0 rfl d_Ref_element_0 ?_
  refine Go.iconst (v := 1) hx hb (by decide) d_Ref_element_1 ?_
  obtain ⟨r1, s1, q1, h⟩ := gb_some h
  refine Go.callVi S hK hA 0 (Rw_0 ad ca _) rfl (fun sz9 => m_Ref_has l D ad ca N _ sz9 _ r1 s1 q1) (cwV 1 hts (gwV k_763 k_765 k_44 k_67 k_766) rfl rfl rfl (by decide +kernel) ⟨Nat.le_of_ble_eq_true rfl, Nat.le_of_ble_eq_true rfl⟩) rfl rfl (Nat.le_of_ble_eq_true rfl) ⟨Nat.zero_le _, Nat.zero_le _⟩ d_Ref_element_2 ?_
  refine Go.if_eq (tgt := 39) hx hb d_Ref_element_5 rfl (fun c5 => ?_) (fun c5 => ?_)
  · replace h := (if_pos c5).symm.trans h
    exact Go.vret hx hb hr hK hlk h d_Ref_element_39
  · replace h := (if_neg c5).symm.trans h
    refine Go.aload_n hx hb 0 rfl d_Ref_element_8 ?_
    refine Go.iconst (v := 0) hx hb (by decide) d_Ref_element_9 ?_
    refine Go.iconst (v := 5) hx hb (by decide) d_Ref_element_10 ?_
    obtain ⟨r2, s2, q2, h⟩ := gb_some h
    refine Go.callVi S hK hA 0 (Rw_0 ad ca _) rfl (fun sz9 => m_Ref_isSort l D ad ca N _ sz9 _ _ r2 s2 q2) (cwV 2 hts (gwV k_767 k_769 k_45 k_67 k_770) rfl rfl rfl (by decide +kernel) ⟨Nat.le_of_ble_eq_true rfl, Nat.le_of_ble_eq_true rfl⟩) rfl rfl (Nat.le_of_ble_eq_true rfl) ⟨Nat.zero_le _, Nat.zero_le _⟩ d_Ref_element_11 ?_
    refine Go.if_ne (tgt := 21) hx hb d_Ref_element_14 rfl (fun c14 => ?_) (fun c14 => ?_)
    · replace h := (if_neg c14).symm.trans h
      refine Go.iconst (v := 0) hx hb (by decide) d_Ref_element_21 ?_
      refine Go.aload_n hx hb 0 rfl d_Ref_element_22 ?_
      refine Go.iconst (v := 3) hx hb (by decide) d_Ref_element_23 ?_
      obtain ⟨r3, s3, q3, h⟩ := gb_some h
      refine Go.callVi S hK hA 0 (Rw_0 ad ca _) rfl (fun sz9 => m_Ref_isAcc l D ad ca N _ sz9 _ r3 s3 q3) (cwV 1 hts (gwV k_755 k_757 k_42 k_67 k_758) rfl rfl rfl (by decide +kernel) ⟨Nat.le_of_ble_eq_true rfl, Nat.le_of_ble_eq_true rfl⟩) rfl rfl (Nat.le_of_ble_eq_true rfl) ⟨Nat.zero_le _, Nat.zero_le _⟩ d_Ref_element_24 ?_
      refine Go.if_ne (tgt := 34) hx hb d_Ref_element_27 rfl (fun c27 => ?_) (fun c27 => ?_)
      · replace h := (if_neg c27).symm.trans h
        refine Go.iconst (v := 0) hx hb (by decide) d_Ref_element_34 ?_
        refine Go.ior hx hb d_Ref_element_35 ?_
        refine Go.if_eq (tgt := 40) hx hb d_Ref_element_36 rfl (fun c36 => ?_) (fun c36 => ?_)
        · replace h := (if_pos c36).symm.trans h
          refine Go.aload_n hx hb 0 rfl d_Ref_element_40 ?_
          refine Go.get (v := .ref (ad 4)) hx hb hts in_Ref hown hK 0 (Rw_0 ad ca _) rfl 7 (by decide) (hts _ k_622) (fun _ h9 => h9) rfl d_Ref_element_41 ?_
          refine Go.aload_n hx hb 0 rfl d_Ref_element_44 ?_
          refine Go.iconst (v := 0) hx hb (by decide) d_Ref_element_45 ?_
          obtain ⟨r4, s4, q4, h⟩ := gb_some h
          refine Go.callVi S hK hA 0 (Rw_0 ad ca _) rfl (fun sz9 => m_Ref_deep l D ad ca N _ sz9 _ r4 s4 q4) (cwV 1 hts (gwV k_751 k_753 k_41 k_67 k_754) rfl rfl rfl (by decide +kernel) ⟨Nat.le_of_ble_eq_true rfl, Nat.le_of_ble_eq_true rfl⟩) rfl rfl (Nat.le_of_ble_eq_true rfl) ⟨Nat.zero_le _, Nat.zero_le _⟩ d_Ref_element_46 ?_
          obtain ⟨c49, h⟩ := gg_some h
          refine Go.iald (v := gA s4 3 r4.toNatClampNeg) hx hb hK 4 3 (Rw_4 ad ca _) rfl c49 rfl d_Ref_element_49 ?_
          refine Go.istore_n (i := 1) (lv' := [(1, .int (gA s4 3 r4.toNatClampNeg)), (0, .ref (ad 0))]) hx hb rfl (Nat.le_of_ble_eq_true rfl) rfl d_Ref_element_50 ?_
          refine Go.aload_n hx hb 1 rfl d_Ref_element_51 ?_
          refine Go.get (v := .int (gI s4 3)) hx hb hts in_Ref hown hK 0 (Rw_0 ad ca _) rfl 5 (by decide) (hts _ k_620) (fun _ h9 => h9) rfl d_Ref_element_52 ?_
          refine Go.istore_n (i := 2) (lv' := [(2, .int (gI s4 3)), (1, .int (gA s4 3 r4.toNatClampNeg)), (0, .ref (ad 0))]) hx hb rfl (Nat.le_of_ble_eq_true rfl) rfl d_Ref_element_55 ?_
          refine Go.aload_n hx hb 2 rfl d_Ref_element_56 ?_
          refine Go.iload_n hx hb 0 rfl d_Ref_element_57 ?_
          refine Go.if_lt (tgt := 75) hx hb d_Ref_element_58 rfl (fun c58 => ?_) (fun c58 => ?_)
          · replace h := (if_pos c58).symm.trans h
            refine Go.iconst (v := 0) hx hb (by decide) d_Ref_element_75 ?_
            refine Go.iconst (v := 2) hx hb (by decide) d_Ref_element_76 ?_
            obtain ⟨r5, s5, q5, h⟩ := gb_some h
            refine Go.callVi S hK hA 0 (Rw_0 ad ca _) rfl (fun sz9 => m_Ref_needs l D ad ca N _ sz9 _ _ r5 s5 q5) (cwV 2 hts (gwV k_747 k_749 k_40 k_67 k_750) rfl rfl rfl (by decide +kernel) ⟨Nat.le_of_ble_eq_true rfl, Nat.le_of_ble_eq_true rfl⟩) rfl rfl (Nat.le_of_ble_eq_true rfl) ⟨Nat.zero_le _, Nat.zero_le _⟩ d_Ref_element_77 ?_
            refine Go.if_eq (tgt := 119) hx hb d_Ref_element_80 rfl (fun c80 => ?_) (fun c80 => ?_)
            · replace h := (if_pos c80).symm.trans h
              exact Go.vret hx hb hr hK hlk h d_Ref_element_119
            · replace h := (if_neg c80).symm.trans h
              refine Go.aload_n hx hb 2 rfl d_Ref_element_83 ?_
              refine Go.aload_n hx hb 2 rfl d_Ref_element_84 ?_
              refine Go.get (v := .ref (ad 11)) hx hb hts in_Ref hown hK 0 (Rw_0 ad ca _) rfl 16 (by decide) (hts _ k_631) (fun _ h9 => h9) rfl d_Ref_element_85 ?_
              refine Go.bipush (v := 20) hx hb (by decide) d_Ref_element_88 ?_
              refine Go.iload_n hx hb 1 rfl d_Ref_element_90 ?_
              refine Go.imul hx hb d_Ref_element_91 ?_
              refine Go.iload_n hx hb 0 rfl d_Ref_element_92 ?_
              refine Go.iadd hx hb d_Ref_element_93 ?_
              obtain ⟨c94, h⟩ := gg_some h
              refine Go.iald (v := gA s5 10 ((20 * (gA s4 3 r4.toNatClampNeg)) + (gI s4 3)).toNatClampNeg) hx hb hK 11 10 (Rw_11 ad ca _) rfl c94 rfl d_Ref_element_94 ?_
              refine Go.aload_n hx hb 2 rfl d_Ref_element_95 ?_
              refine Go.get (v := .ref (ad 12)) hx hb hts in_Ref hown hK 0 (Rw_0 ad ca _) rfl 17 (by decide) (hts _ k_632) (fun _ h9 => h9) rfl d_Ref_element_96 ?_
              refine Go.bipush (v := 20) hx hb (by decide) d_Ref_element_99 ?_
              refine Go.iload_n hx hb 1 rfl d_Ref_element_101 ?_
              refine Go.imul hx hb d_Ref_element_102 ?_
              refine Go.iload_n hx hb 0 rfl d_Ref_element_103 ?_
              refine Go.iadd hx hb d_Ref_element_104 ?_
              obtain ⟨c105, h⟩ := gg_some h
              refine Go.iald (v := gA s5 11 ((20 * (gA s4 3 r4.toNatClampNeg)) + (gI s4 3)).toNatClampNeg) hx hb hK 12 11 (Rw_12 ad ca _) rfl c105 rfl d_Ref_element_105 ?_
              obtain ⟨_, s6, q6, h⟩ := gb_some h
              refine Go.callVv S hK hA 0 (Rw_0 ad ca _) rfl (fun sz9 => m_Ref_acc l D ad ca N _ sz9 _ _ _ s6 q6) (cwV 2 hts (gwV k_739 k_741 k_38 k_67 k_742) rfl rfl rfl (by decide +kernel) ⟨Nat.le_of_ble_eq_true rfl, Nat.le_of_ble_eq_true rfl⟩) rfl rfl (Nat.le_of_ble_eq_true rfl) ⟨Nat.zero_le _, Nat.zero_le _⟩ d_Ref_element_106 ?_
              refine Go.aload_n hx hb 2 rfl d_Ref_element_109 ?_
              refine Go.dup hx hb rfl d_Ref_element_110 ?_
              refine Go.get (v := .int (gI s6 4)) hx hb hts in_Ref hown hK 0 (Rw_0 ad ca _) rfl 8 (by decide) (hts _ k_623) (fun _ h9 => h9) rfl d_Ref_element_111 ?_
              refine Go.iconst (v := 1) hx hb (by decide) d_Ref_element_114 ?_
              refine Go.isub hx hb d_Ref_element_115 ?_
              refine Go.put (ty := (.int)) hx hb hts in_Ref ty_Ref tyok_Ref nm_Ref hown hK 0 (Rw_0 ad ca _) rfl 8 (by decide) (hts _ k_623) (fun _ h9 => h9) rfl (by decide +kernel) rfl rfl (Nat.le_of_ble_eq_true rfl) (uI s6 4 ((gI s6 4) - 1)) (Rs_I4 ad ca _ _) d_Ref_element_116 ?_
              exact Go.vret hx hb hr hK hlk h d_Ref_element_119
          · replace h := (if_neg c58).symm.trans h
            refine Go.iload_n hx hb 0 rfl d_Ref_element_61 ?_
            refine Go.aload_n hx hb 2 rfl d_Ref_element_62 ?_
            refine Go.get (v := .ref (ad 10)) hx hb hts in_Ref hown hK 0 (Rw_0 ad ca _) rfl 15 (by decide) (hts _ k_630) (fun _ h9 => h9) rfl d_Ref_element_63 ?_
            refine Go.iload_n hx hb 1 rfl d_Ref_element_66 ?_
            obtain ⟨c67, h⟩ := gg_some h
            refine Go.iald (v := gA s4 9 (gA s4 3 r4.toNatClampNeg).toNatClampNeg) hx hb hK 10 9 (Rw_10 ad ca _) rfl c67 rfl d_Ref_element_67 ?_
            refine Go.icmp_ge (tgt := 75) hx hb d_Ref_element_68 rfl (fun c68 => ?_) (fun c68 => ?_)
            · replace h := (if_pos c68).symm.trans h
              refine Go.iconst (v := 0) hx hb (by decide) d_Ref_element_75 ?_
              refine Go.iconst (v := 2) hx hb (by decide) d_Ref_element_76 ?_
              obtain ⟨r7, s7, q7, h⟩ := gb_some h
              refine Go.callVi S hK hA 0 (Rw_0 ad ca _) rfl (fun sz9 => m_Ref_needs l D ad ca N _ sz9 _ _ r7 s7 q7) (cwV 2 hts (gwV k_747 k_749 k_40 k_67 k_750) rfl rfl rfl (by decide +kernel) ⟨Nat.le_of_ble_eq_true rfl, Nat.le_of_ble_eq_true rfl⟩) rfl rfl (Nat.le_of_ble_eq_true rfl) ⟨Nat.zero_le _, Nat.zero_le _⟩ d_Ref_element_77 ?_
              refine Go.if_eq (tgt := 119) hx hb d_Ref_element_80 rfl (fun c80 => ?_) (fun c80 => ?_)
              · replace h := (if_pos c80).symm.trans h
                exact Go.vret hx hb hr hK hlk h d_Ref_element_119
              · replace h := (if_neg c80).symm.trans h
                refine Go.aload_n hx hb 2 rfl d_Ref_element_83 ?_
                refine Go.aload_n hx hb 2 rfl d_Ref_element_84 ?_
                refine Go.get (v := .ref (ad 11)) hx hb hts in_Ref hown hK 0 (Rw_0 ad ca _) rfl 16 (by decide) (hts _ k_631) (fun _ h9 => h9) rfl d_Ref_element_85 ?_
                refine Go.bipush (v := 20) hx hb (by decide) d_Ref_element_88 ?_
                refine Go.iload_n hx hb 1 rfl d_Ref_element_90 ?_
                refine Go.imul hx hb d_Ref_element_91 ?_
                refine Go.iload_n hx hb 0 rfl d_Ref_element_92 ?_
                refine Go.iadd hx hb d_Ref_element_93 ?_
                obtain ⟨c94, h⟩ := gg_some h
                refine Go.iald (v := gA s7 10 ((20 * (gA s4 3 r4.toNatClampNeg)) + (gI s4 3)).toNatClampNeg) hx hb hK 11 10 (Rw_11 ad ca _) rfl c94 rfl d_Ref_element_94 ?_
                refine Go.aload_n hx hb 2 rfl d_Ref_element_95 ?_
                refine Go.get (v := .ref (ad 12)) hx hb hts in_Ref hown hK 0 (Rw_0 ad ca _) rfl 17 (by decide) (hts _ k_632) (fun _ h9 => h9) rfl d_Ref_element_96 ?_
                refine Go.bipush (v := 20) hx hb (by decide) d_Ref_element_99 ?_
                refine Go.iload_n hx hb 1 rfl d_Ref_element_101 ?_
                refine Go.imul hx hb d_Ref_element_102 ?_
                refine Go.iload_n hx hb 0 rfl d_Ref_element_103 ?_
                refine Go.iadd hx hb d_Ref_element_104 ?_
                obtain ⟨c105, h⟩ := gg_some h
                refine Go.iald (v := gA s7 11 ((20 * (gA s4 3 r4.toNatClampNeg)) + (gI s4 3)).toNatClampNeg) hx hb hK 12 11 (Rw_12 ad ca _) rfl c105 rfl d_Ref_element_105 ?_
                obtain ⟨_, s8, q8, h⟩ := gb_some h
                refine Go.callVv S hK hA 0 (Rw_0 ad ca _) rfl (fun sz9 => m_Ref_acc l D ad ca N _ sz9 _ _ _ s8 q8) (cwV 2 hts (gwV k_739 k_741 k_38 k_67 k_742) rfl rfl rfl (by decide +kernel) ⟨Nat.le_of_ble_eq_true rfl, Nat.le_of_ble_eq_true rfl⟩) rfl rfl (Nat.le_of_ble_eq_true rfl) ⟨Nat.zero_le _, Nat.zero_le _⟩ d_Ref_element_106 ?_
                refine Go.aload_n hx hb 2 rfl d_Ref_element_109 ?_
                refine Go.dup hx hb rfl d_Ref_element_110 ?_
                refine Go.get (v := .int (gI s8 4)) hx hb hts in_Ref hown hK 0 (Rw_0 ad ca _) rfl 8 (by decide) (hts _ k_623) (fun _ h9 => h9) rfl d_Ref_element_111 ?_
                refine Go.iconst (v := 1) hx hb (by decide) d_Ref_element_114 ?_
                refine Go.isub hx hb d_Ref_element_115 ?_
                refine Go.put (ty := (.int)) hx hb hts in_Ref ty_Ref tyok_Ref nm_Ref hown hK 0 (Rw_0 ad ca _) rfl 8 (by decide) (hts _ k_623) (fun _ h9 => h9) rfl (by decide +kernel) rfl rfl (Nat.le_of_ble_eq_true rfl) (uI s8 4 ((gI s8 4) - 1)) (Rs_I4 ad ca _ _) d_Ref_element_116 ?_
                exact Go.vret hx hb hr hK hlk h d_Ref_element_119
            · replace h := (if_neg c68).symm.trans h
              refine Go.iconst (v := 1) hx hb (by decide) d_Ref_element_71 ?_
              refine Go.goto (tgt := 76) hx hb d_Ref_element_72 rfl ?_
              refine Go.iconst (v := 2) hx hb (by decide) d_Ref_element_76 ?_
              obtain ⟨r9, s9, q9, h⟩ := gb_some h
              refine Go.callVi S hK hA 0 (Rw_0 ad ca _) rfl (fun sz9 => m_Ref_needs l D ad ca N _ sz9 _ _ r9 s9 q9) (cwV 2 hts (gwV k_747 k_749 k_40 k_67 k_750) rfl rfl rfl (by decide +kernel) ⟨Nat.le_of_ble_eq_true rfl, Nat.le_of_ble_eq_true rfl⟩) rfl rfl (Nat.le_of_ble_eq_true rfl) ⟨Nat.zero_le _, Nat.zero_le _⟩ d_Ref_element_77 ?_
              refine Go.if_eq (tgt := 119) hx hb d_Ref_element_80 rfl (fun c80 => ?_) (fun c80 => ?_)
              · replace h := (if_pos c80).symm.trans h
                exact Go.vret hx hb hr hK hlk h d_Ref_element_119
              · replace h := (if_neg c80).symm.trans h
                refine Go.aload_n hx hb 2 rfl d_Ref_element_83 ?_
                refine Go.aload_n hx hb 2 rfl d_Ref_element_84 ?_
                refine Go.get (v := .ref (ad 11)) hx hb hts in_Ref hown hK 0 (Rw_0 ad ca _) rfl 16 (by decide) (hts _ k_631) (fun _ h9 => h9) rfl d_Ref_element_85 ?_
                refine Go.bipush (v := 20) hx hb (by decide) d_Ref_element_88 ?_
                refine Go.iload_n hx hb 1 rfl d_Ref_element_90 ?_
                refine Go.imul hx hb d_Ref_element_91 ?_
                refine Go.iload_n hx hb 0 rfl d_Ref_element_92 ?_
                refine Go.iadd hx hb d_Ref_element_93 ?_
                obtain ⟨c94, h⟩ := gg_some h
                refine Go.iald (v := gA s9 10 ((20 * (gA s4 3 r4.toNatClampNeg)) + (gI s4 3)).toNatClampNeg) hx hb hK 11 10 (Rw_11 ad ca _) rfl c94 rfl d_Ref_element_94 ?_
                refine Go.aload_n hx hb 2 rfl d_Ref_element_95 ?_
                refine Go.get (v := .ref (ad 12)) hx hb hts in_Ref hown hK 0 (Rw_0 ad ca _) rfl 17 (by decide) (hts _ k_632) (fun _ h9 => h9) rfl d_Ref_element_96 ?_
                refine Go.bipush (v := 20) hx hb (by decide) d_Ref_element_99 ?_
                refine Go.iload_n hx hb 1 rfl d_Ref_element_101 ?_
                refine Go.imul hx hb d_Ref_element_102 ?_
                refine Go.iload_n hx hb 0 rfl d_Ref_element_103 ?_
                refine Go.iadd hx hb d_Ref_element_104 ?_
                obtain ⟨c105, h⟩ := gg_some h
                refine Go.iald (v := gA s9 11 ((20 * (gA s4 3 r4.toNatClampNeg)) + (gI s4 3)).toNatClampNeg) hx hb hK 12 11 (Rw_12 ad ca _) rfl c105 rfl d_Ref_element_105 ?_
                obtain ⟨_, s10, q10, h⟩ := gb_some h
                refine Go.callVv S hK hA 0 (Rw_0 ad ca _) rfl (fun sz9 => m_Ref_acc l D ad ca N _ sz9 _ _ _ s10 q10) (cwV 2 hts (gwV k_739 k_741 k_38 k_67 k_742) rfl rfl rfl (by decide +kernel) ⟨Nat.le_of_ble_eq_true rfl, Nat.le_of_ble_eq_true rfl⟩) rfl rfl (Nat.le_of_ble_eq_true rfl) ⟨Nat.zero_le _, Nat.zero_le _⟩ d_Ref_element_106 ?_
                refine Go.aload_n hx hb 2 rfl d_Ref_element_109 ?_
                refine Go.dup hx hb rfl d_Ref_element_110 ?_
                refine Go.get (v := .int (gI s10 4)) hx hb hts in_Ref hown hK 0 (Rw_0 ad ca _) rfl 8 (by decide) (hts _ k_623) (fun _ h9 => h9) rfl d_Ref_element_111 ?_
                refine Go.iconst (v := 1) hx hb (by decide) d_Ref_element_114 ?_
                refine Go.isub hx hb d_Ref_element_115 ?_
                refine Go.put (ty := (.int)) hx hb hts in_Ref ty_Ref tyok_Ref nm_Ref hown hK 0 (Rw_0 ad ca _) rfl 8 (by decide) (hts _ k_623) (fun _ h9 => h9) rfl (by decide +kernel) rfl rfl (Nat.le_of_ble_eq_true rfl) (uI s10 4 ((gI s10 4) - 1)) (Rs_I4 ad ca _ _) d_Ref_element_116 ?_
                exact Go.vret hx hb hr hK hlk h d_Ref_element_119
        · replace h := (if_neg c36).symm.trans h
          exact Go.vret hx hb hr hK hlk h d_Ref_element_39
      · replace h := (if_pos c27).symm.trans h
        refine Go.iconst (v := 1) hx hb (by decide) d_Ref_element_30 ?_
        refine Go.goto (tgt := 35) hx hb d_Ref_element_31 rfl ?_
        refine Go.ior hx hb d_Ref_element_35 ?_
        refine Go.if_eq (tgt := 40) hx hb d_Ref_element_36 rfl (fun c36 => ?_) (fun c36 => ?_)
        · replace h := (if_pos c36).symm.trans h
          refine Go.aload_n hx hb 0 rfl d_Ref_element_40 ?_
          refine Go.get (v := .ref (ad 4)) hx hb hts in_Ref hown hK 0 (Rw_0 ad ca _) rfl 7 (by decide) (hts _ k_622) (fun _ h9 => h9) rfl d_Ref_element_41 ?_
          refine Go.aload_n hx hb 0 rfl d_Ref_element_44 ?_
          refine Go.iconst (v := 0) hx hb (by decide) d_Ref_element_45 ?_
          obtain ⟨r11, s11, q11, h⟩ := gb_some h
          refine Go.callVi S hK hA 0 (Rw_0 ad ca _) rfl (fun sz9 => m_Ref_deep l D ad ca N _ sz9 _ r11 s11 q11) (cwV 1 hts (gwV k_751 k_753 k_41 k_67 k_754) rfl rfl rfl (by decide +kernel) ⟨Nat.le_of_ble_eq_true rfl, Nat.le_of_ble_eq_true rfl⟩) rfl rfl (Nat.le_of_ble_eq_true rfl) ⟨Nat.zero_le _, Nat.zero_le _⟩ d_Ref_element_46 ?_
          obtain ⟨c49, h⟩ := gg_some h
          refine Go.iald (v := gA s11 3 r11.toNatClampNeg) hx hb hK 4 3 (Rw_4 ad ca _) rfl c49 rfl d_Ref_element_49 ?_
          refine Go.istore_n (i := 1) (lv' := [(1, .int (gA s11 3 r11.toNatClampNeg)), (0, .ref (ad 0))]) hx hb rfl (Nat.le_of_ble_eq_true rfl) rfl d_Ref_element_50 ?_
          refine Go.aload_n hx hb 1 rfl d_Ref_element_51 ?_
          refine Go.get (v := .int (gI s11 3)) hx hb hts in_Ref hown hK 0 (Rw_0 ad ca _) rfl 5 (by decide) (hts _ k_620) (fun _ h9 => h9) rfl d_Ref_element_52 ?_
          refine Go.istore_n (i := 2) (lv' := [(2, .int (gI s11 3)), (1, .int (gA s11 3 r11.toNatClampNeg)), (0, .ref (ad 0))]) hx hb rfl (Nat.le_of_ble_eq_true rfl) rfl d_Ref_element_55 ?_
          refine Go.aload_n hx hb 2 rfl d_Ref_element_56 ?_
          refine Go.iload_n hx hb 0 rfl d_Ref_element_57 ?_
          refine Go.if_lt (tgt := 75) hx hb d_Ref_element_58 rfl (fun c58 => ?_) (fun c58 => ?_)
          · replace h := (if_pos c58).symm.trans h
            refine Go.iconst (v := 0) hx hb (by decide) d_Ref_element_75 ?_
            refine Go.iconst (v := 2) hx hb (by decide) d_Ref_element_76 ?_
            obtain ⟨r12, s12, q12, h⟩ := gb_some h
            refine Go.callVi S hK hA 0 (Rw_0 ad ca _) rfl (fun sz9 => m_Ref_needs l D ad ca N _ sz9 _ _ r12 s12 q12) (cwV 2 hts (gwV k_747 k_749 k_40 k_67 k_750) rfl rfl rfl (by decide +kernel) ⟨Nat.le_of_ble_eq_true rfl, Nat.le_of_ble_eq_true rfl⟩) rfl rfl (Nat.le_of_ble_eq_true rfl) ⟨Nat.zero_le _, Nat.zero_le _⟩ d_Ref_element_77 ?_
            refine Go.if_eq (tgt := 119) hx hb d_Ref_element_80 rfl (fun c80 => ?_) (fun c80 => ?_)
            · replace h := (if_pos c80).symm.trans h
              exact Go.vret hx hb hr hK hlk h d_Ref_element_119
            · replace h := (if_neg c80).symm.trans h
              refine Go.aload_n hx hb 2 rfl d_Ref_element_83 ?_
              refine Go.aload_n hx hb 2 rfl d_Ref_element_84 ?_
              refine Go.get (v := .ref (ad 11)) hx hb hts in_Ref hown hK 0 (Rw_0 ad ca _) rfl 16 (by decide) (hts _ k_631) (fun _ h9 => h9) rfl d_Ref_element_85 ?_
              refine Go.bipush (v := 20) hx hb (by decide) d_Ref_element_88 ?_
              refine Go.iload_n hx hb 1 rfl d_Ref_element_90 ?_
              refine Go.imul hx hb d_Ref_element_91 ?_
              refine Go.iload_n hx hb 0 rfl d_Ref_element_92 ?_
              refine Go.iadd hx hb d_Ref_element_93 ?_
              obtain ⟨c94, h⟩ := gg_some h
              refine Go.iald (v := gA s12 10 ((20 * (gA s11 3 r11.toNatClampNeg)) + (gI s11 3)).toNatClampNeg) hx hb hK 11 10 (Rw_11 ad ca _) rfl c94 rfl d_Ref_element_94 ?_
              refine Go.aload_n hx hb 2 rfl d_Ref_element_95 ?_
              refine Go.get (v := .ref (ad 12)) hx hb hts in_Ref hown hK 0 (Rw_0 ad ca _) rfl 17 (by decide) (hts _ k_632) (fun _ h9 => h9) rfl d_Ref_element_96 ?_
              refine Go.bipush (v := 20) hx hb (by decide) d_Ref_element_99 ?_
              refine Go.iload_n hx hb 1 rfl d_Ref_element_101 ?_
              refine Go.imul hx hb d_Ref_element_102 ?_
              refine Go.iload_n hx hb 0 rfl d_Ref_element_103 ?_
              refine Go.iadd hx hb d_Ref_element_104 ?_
              obtain ⟨c105, h⟩ := gg_some h
              refine Go.iald (v := gA s12 11 ((20 * (gA s11 3 r11.toNatClampNeg)) + (gI s11 3)).toNatClampNeg) hx hb hK 12 11 (Rw_12 ad ca _) rfl c105 rfl d_Ref_element_105 ?_
              obtain ⟨_, s13, q13, h⟩ := gb_some h
              refine Go.callVv S hK hA 0 (Rw_0 ad ca _) rfl (fun sz9 => m_Ref_acc l D ad ca N _ sz9 _ _ _ s13 q13) (cwV 2 hts (gwV k_739 k_741 k_38 k_67 k_742) rfl rfl rfl (by decide +kernel) ⟨Nat.le_of_ble_eq_true rfl, Nat.le_of_ble_eq_true rfl⟩) rfl rfl (Nat.le_of_ble_eq_true rfl) ⟨Nat.zero_le _, Nat.zero_le _⟩ d_Ref_element_106 ?_
              refine Go.aload_n hx hb 2 rfl d_Ref_element_109 ?_
              refine Go.dup hx hb rfl d_Ref_element_110 ?_
              refine Go.get (v := .int (gI s13 4)) hx hb hts in_Ref hown hK 0 (Rw_0 ad ca _) rfl 8 (by decide) (hts _ k_623) (fun _ h9 => h9) rfl d_Ref_element_111 ?_
              refine Go.iconst (v := 1) hx hb (by decide) d_Ref_element_114 ?_
              refine Go.isub hx hb d_Ref_element_115 ?_
              refine Go.put (ty := (.int)) hx hb hts in_Ref ty_Ref tyok_Ref nm_Ref hown hK 0 (Rw_0 ad ca _) rfl 8 (by decide) (hts _ k_623) (fun _ h9 => h9) rfl (by decide +kernel) rfl rfl (Nat.le_of_ble_eq_true rfl) (uI s13 4 ((gI s13 4) - 1)) (Rs_I4 ad ca _ _) d_Ref_element_116 ?_
              exact Go.vret hx hb hr hK hlk h d_Ref_element_119
          · replace h := (if_neg c58).symm.trans h
            refine Go.iload_n hx hb 0 rfl d_Ref_element_61 ?_
            refine Go.aload_n hx hb 2 rfl d_Ref_element_62 ?_
            refine Go.get (v := .ref (ad 10)) hx hb hts in_Ref hown hK 0 (Rw_0 ad ca _) rfl 15 (by decide) (hts _ k_630) (fun _ h9 => h9) rfl d_Ref_element_63 ?_
            refine Go.iload_n hx hb 1 rfl d_Ref_element_66 ?_
            obtain ⟨c67, h⟩ := gg_some h
            refine Go.iald (v := gA s11 9 (gA s11 3 r11.toNatClampNeg).toNatClampNeg) hx hb hK 10 9 (Rw_10 ad ca _) rfl c67 rfl d_Ref_element_67 ?_
            refine Go.icmp_ge (tgt := 75) hx hb d_Ref_element_68 rfl (fun c68 => ?_) (fun c68 => ?_)
            · replace h := (if_pos c68).symm.trans h
              refine Go.iconst (v := 0) hx hb (by decide) d_Ref_element_75 ?_
              refine Go.iconst (v := 2) hx hb (by decide) d_Ref_element_76 ?_
              obtain ⟨r14, s14, q14, h⟩ := gb_some h
              refine Go.callVi S hK hA 0 (Rw_0 ad ca _) rfl (fun sz9 => m_Ref_needs l D ad ca N _ sz9 _ _ r14 s14 q14) (cwV 2 hts (gwV k_747 k_749 k_40 k_67 k_750) rfl rfl rfl (by decide +kernel) ⟨Nat.le_of_ble_eq_true rfl, Nat.le_of_ble_eq_true rfl⟩) rfl rfl (Nat.le_of_ble_eq_true rfl) ⟨Nat.zero_le _, Nat.zero_le _⟩ d_Ref_element_77 ?_
              refine Go.if_eq (tgt := 119) hx hb d_Ref_element_80 rfl (fun c80 => ?_) (fun c80 => ?_)
              · replace h := (if_pos c80).symm.trans h
                exact Go.vret hx hb hr hK hlk h d_Ref_element_119
              · replace h := (if_neg c80).symm.trans h
                refine Go.aload_n hx hb 2 rfl d_Ref_element_83 ?_
                refine Go.aload_n hx hb 2 rfl d_Ref_element_84 ?_
                refine Go.get (v := .ref (ad 11)) hx hb hts in_Ref hown hK 0 (Rw_0 ad ca _) rfl 16 (by decide) (hts _ k_631) (fun _ h9 => h9) rfl d_Ref_element_85 ?_
                refine Go.bipush (v := 20) hx hb (by decide) d_Ref_element_88 ?_
                refine Go.iload_n hx hb 1 rfl d_Ref_element_90 ?_
                refine Go.imul hx hb d_Ref_element_91 ?_
                refine Go.iload_n hx hb 0 rfl d_Ref_element_92 ?_
                refine Go.iadd hx hb d_Ref_element_93 ?_
                obtain ⟨c94, h⟩ := gg_some h
                refine Go.iald (v := gA s14 10 ((20 * (gA s11 3 r11.toNatClampNeg)) + (gI s11 3)).toNatClampNeg) hx hb hK 11 10 (Rw_11 ad ca _) rfl c94 rfl d_Ref_element_94 ?_
                refine Go.aload_n hx hb 2 rfl d_Ref_element_95 ?_
                refine Go.get (v := .ref (ad 12)) hx hb hts in_Ref hown hK 0 (Rw_0 ad ca _) rfl 17 (by decide) (hts _ k_632) (fun _ h9 => h9) rfl d_Ref_element_96 ?_
                refine Go.bipush (v := 20) hx hb (by decide) d_Ref_element_99 ?_
                refine Go.iload_n hx hb 1 rfl d_Ref_element_101 ?_
                refine Go.imul hx hb d_Ref_element_102 ?_
                refine Go.iload_n hx hb 0 rfl d_Ref_element_103 ?_
                refine Go.iadd hx hb d_Ref_element_104 ?_
                obtain ⟨c105, h⟩ := gg_some h
                refine Go.iald (v := gA s14 11 ((20 * (gA s11 3 r11.toNatClampNeg)) + (gI s11 3)).toNatClampNeg) hx hb hK 12 11 (Rw_12 ad ca _) rfl c105 rfl d_Ref_element_105 ?_
                obtain ⟨_, s15, q15, h⟩ := gb_some h
                refine Go.callVv S hK hA 0 (Rw_0 ad ca _) rfl (fun sz9 => m_Ref_acc l D ad ca N _ sz9 _ _ _ s15 q15) (cwV 2 hts (gwV k_739 k_741 k_38 k_67 k_742) rfl rfl rfl (by decide +kernel) ⟨Nat.le_of_ble_eq_true rfl, Nat.le_of_ble_eq_true rfl⟩) rfl rfl (Nat.le_of_ble_eq_true rfl) ⟨Nat.zero_le _, Nat.zero_le _⟩ d_Ref_element_106 ?_
                refine Go.aload_n hx hb 2 rfl d_Ref_element_109 ?_
                refine Go.dup hx hb rfl d_Ref_element_110 ?_
                refine Go.get (v := .int (gI s15 4)) hx hb hts in_Ref hown hK 0 (Rw_0 ad ca _) rfl 8 (by decide) (hts _ k_623) (fun _ h9 => h9) rfl d_Ref_element_111 ?_
                refine Go.iconst (v := 1) hx hb (by decide) d_Ref_element_114 ?_
                refine Go.isub hx hb d_Ref_element_115 ?_
                refine Go.put (ty := (.int)) hx hb hts in_Ref ty_Ref tyok_Ref nm_Ref hown hK 0 (Rw_0 ad ca _) rfl 8 (by decide) (hts _ k_623) (fun _ h9 => h9) rfl (by decide +kernel) rfl rfl (Nat.le_of_ble_eq_true rfl) (uI s15 4 ((gI s15 4) - 1)) (Rs_I4 ad ca _ _) d_Ref_element_116 ?_
                exact Go.vret hx hb hr hK hlk h d_Ref_element_119
            · replace h := (if_neg c68).symm.trans h
              refine Go.iconst (v := 1) hx hb (by decide) d_Ref_element_71 ?_
              refine Go.goto (tgt := 76) hx hb d_Ref_element_72 rfl ?_
              refine Go.iconst (v := 2) hx hb (by decide) d_Ref_element_76 ?_
              obtain ⟨r16, s16, q16, h⟩ := gb_some h
              refine Go.callVi S hK hA 0 (Rw_0 ad ca _) rfl (fun sz9 => m_Ref_needs l D ad ca N _ sz9 _ _ r16 s16 q16) (cwV 2 hts (gwV k_747 k_749 k_40 k_67 k_750) rfl rfl rfl (by decide +kernel) ⟨Nat.le_of_ble_eq_true rfl, Nat.le_of_ble_eq_true rfl⟩) rfl rfl (Nat.le_of_ble_eq_true rfl) ⟨Nat.zero_le _, Nat.zero_le _⟩ d_Ref_element_77 ?_
              refine Go.if_eq (tgt := 119) hx hb d_Ref_element_80 rfl (fun c80 => ?_) (fun c80 => ?_)
              · replace h := (if_pos c80).symm.trans h
                exact Go.vret hx hb hr hK hlk h d_Ref_element_119
              · replace h := (if_neg c80).symm.trans h
                refine Go.aload_n hx hb 2 rfl d_Ref_element_83 ?_
                refine Go.aload_n hx hb 2 rfl d_Ref_element_84 ?_
                refine Go.get (v := .ref (ad 11)) hx hb hts in_Ref hown hK 0 (Rw_0 ad ca _) rfl 16 (by decide) (hts _ k_631) (fun _ h9 => h9) rfl d_Ref_element_85 ?_
                refine Go.bipush (v := 20) hx hb (by decide) d_Ref_element_88 ?_
                refine Go.iload_n hx hb 1 rfl d_Ref_element_90 ?_
                refine Go.imul hx hb d_Ref_element_91 ?_
                refine Go.iload_n hx hb 0 rfl d_Ref_element_92 ?_
                refine Go.iadd hx hb d_Ref_element_93 ?_
                obtain ⟨c94, h⟩ := gg_some h
                refine Go.iald (v := gA s16 10 ((20 * (gA s11 3 r11.toNatClampNeg)) + (gI s11 3)).toNatClampNeg) hx hb hK 11 10 (Rw_11 ad ca _) rfl c94 rfl d_Ref_element_94 ?_
                refine Go.aload_n hx hb 2 rfl d_Ref_element_95 ?_
                refine Go.get (v := .ref (ad 12)) hx hb hts in_Ref hown hK 0 (Rw_0 ad ca _) rfl 17 (by decide) (hts _ k_632) (fun _ h9 => h9) rfl d_Ref_element_96 ?_
                refine Go.bipush (v := 20) hx hb (by decide) d_Ref_element_99 ?_
                refine Go.iload_n hx hb 1 rfl d_Ref_element_101 ?_
                refine Go.imul hx hb d_Ref_element_102 ?_
                refine Go.iload_n hx hb 0 rfl d_Ref_element_103 ?_
                refine Go.iadd hx hb d_Ref_element_104 ?_
                obtain ⟨c105, h⟩ := gg_some h
                refine Go.iald (v := gA s16 11 ((20 * (gA s11 3 r11.toNatClampNeg)) + (gI s11 3)).toNatClampNeg) hx hb hK 12 11 (Rw_12 ad ca _) rfl c105 rfl d_Ref_element_105 ?_
                obtain ⟨_, s17, q17, h⟩ := gb_some h
                refine Go.callVv S hK hA 0 (Rw_0 ad ca _) rfl (fun sz9 => m_Ref_acc l D ad ca N _ sz9 _ _ _ s17 q17) (cwV 2 hts (gwV k_739 k_741 k_38 k_67 k_742) rfl rfl rfl (by decide +kernel) ⟨Nat.le_of_ble_eq_true rfl, Nat.le_of_ble_eq_true rfl⟩) rfl rfl (Nat.le_of_ble_eq_true rfl) ⟨Nat.zero_le _, Nat.zero_le _⟩ d_Ref_element_106 ?_
                refine Go.aload_n hx hb 2 rfl d_Ref_element_109 ?_
                refine Go.dup hx hb rfl d_Ref_element_110 ?_
                refine Go.get (v := .int (gI s17 4)) hx hb hts in_Ref hown hK 0 (Rw_0 ad ca _) rfl 8 (by decide) (hts _ k_623) (fun _ h9 => h9) rfl d_Ref_element_111 ?_
                refine Go.iconst (v := 1) hx hb (by decide) d_Ref_element_114 ?_
                refine Go.isub hx hb d_Ref_element_115 ?_
                refine Go.put (ty := (.int)) hx hb hts in_Ref ty_Ref tyok_Ref nm_Ref hown hK 0 (Rw_0 ad ca _) rfl 8 (by decide) (hts _ k_623) (fun _ h9 => h9) rfl (by decide +kernel) rfl rfl (Nat.le_of_ble_eq_true rfl) (uI s17 4 ((gI s17 4) - 1)) (Rs_I4 ad ca _ _) d_Ref_element_116 ?_
                exact Go.vret hx hb hr hK hlk h d_Ref_element_119
        · replace h := (if_neg c36).symm.trans h
          exact Go.vret hx hb hr hK hlk h d_Ref_element_39
    · replace h := (if_pos c14).symm.trans h
      refine Go.iconst (v := 1) hx hb (by decide) d_Ref_element_17 ?_
      refine Go.goto (tgt := 22) hx hb d_Ref_element_18 rfl ?_
      refine Go.aload_n hx hb 0 rfl d_Ref_element_22 ?_
      refine Go.iconst (v := 3) hx hb (by decide) d_Ref_element_23 ?_
      obtain ⟨r18, s18, q18, h⟩ := gb_some h
      refine Go.callVi S hK hA 0 (Rw_0 ad ca _) rfl (fun sz9 => m_Ref_isAcc l D ad ca N _ sz9 _ r18 s18 q18) (cwV 1 hts (gwV k_755 k_757 k_42 k_67 k_758) rfl rfl rfl (by decide +kernel) ⟨Nat.le_of_ble_eq_true rfl, Nat.le_of_ble_eq_true rfl⟩) rfl rfl (Nat.le_of_ble_eq_true rfl) ⟨Nat.zero_le _, Nat.zero_le _⟩ d_Ref_element_24 ?_
      refine Go.if_ne (tgt := 34) hx hb d_Ref_element_27 rfl (fun c27 => ?_) (fun c27 => ?_)
      · replace h := (if_neg c27).symm.trans h
        refine Go.iconst (v := 0) hx hb (by decide) d_Ref_element_34 ?_
        refine Go.ior hx hb d_Ref_element_35 ?_
        refine Go.if_eq (tgt := 40) hx hb d_Ref_element_36 rfl (fun c36 => ?_) (fun c36 => ?_)
        · replace h := (if_pos c36).symm.trans h
          refine Go.aload_n hx hb 0 rfl d_Ref_element_40 ?_
          refine Go.get (v := .ref (ad 4)) hx hb hts in_Ref hown hK 0 (Rw_0 ad ca _) rfl 7 (by decide) (hts _ k_622) (fun _ h9 => h9) rfl d_Ref_element_41 ?_
          refine Go.aload_n hx hb 0 rfl d_Ref_element_44 ?_
          refine Go.iconst (v := 0) hx hb (by decide) d_Ref_element_45 ?_
          obtain ⟨r19, s19, q19, h⟩ := gb_some h
          refine Go.callVi S hK hA 0 (Rw_0 ad ca _) rfl (fun sz9 => m_Ref_deep l D ad ca N _ sz9 _ r19 s19 q19) (cwV 1 hts (gwV k_751 k_753 k_41 k_67 k_754) rfl rfl rfl (by decide +kernel) ⟨Nat.le_of_ble_eq_true rfl, Nat.le_of_ble_eq_true rfl⟩) rfl rfl (Nat.le_of_ble_eq_true rfl) ⟨Nat.zero_le _, Nat.zero_le _⟩ d_Ref_element_46 ?_
          obtain ⟨c49, h⟩ := gg_some h
          refine Go.iald (v := gA s19 3 r19.toNatClampNeg) hx hb hK 4 3 (Rw_4 ad ca _) rfl c49 rfl d_Ref_element_49 ?_
          refine Go.istore_n (i := 1) (lv' := [(1, .int (gA s19 3 r19.toNatClampNeg)), (0, .ref (ad 0))]) hx hb rfl (Nat.le_of_ble_eq_true rfl) rfl d_Ref_element_50 ?_
          refine Go.aload_n hx hb 1 rfl d_Ref_element_51 ?_
          refine Go.get (v := .int (gI s19 3)) hx hb hts in_Ref hown hK 0 (Rw_0 ad ca _) rfl 5 (by decide) (hts _ k_620) (fun _ h9 => h9) rfl d_Ref_element_52 ?_
          refine Go.istore_n (i := 2) (lv' := [(2, .int (gI s19 3)), (1, .int (gA s19 3 r19.toNatClampNeg)), (0, .ref (ad 0))]) hx hb rfl (Nat.le_of_ble_eq_true rfl) rfl d_Ref_element_55 ?_
          refine Go.aload_n hx hb 2 rfl d_Ref_element_56 ?_
          refine Go.iload_n hx hb 0 rfl d_Ref_element_57 ?_
          refine Go.if_lt (tgt := 75) hx hb d_Ref_element_58 rfl (fun c58 => ?_) (fun c58 => ?_)
          · replace h := (if_pos c58).symm.trans h
            refine Go.iconst (v := 0) hx hb (by decide) d_Ref_element_75 ?_
            refine Go.iconst (v := 2) hx hb (by decide) d_Ref_element_76 ?_
            obtain ⟨r20, s20, q20, h⟩ := gb_some h
            refine Go.callVi S hK hA 0 (Rw_0 ad ca _) rfl (fun sz9 => m_Ref_needs l D ad ca N _ sz9 _ _ r20 s20 q20) (cwV 2 hts (gwV k_747 k_749 k_40 k_67 k_750) rfl rfl rfl (by decide +kernel) ⟨Nat.le_of_ble_eq_true rfl, Nat.le_of_ble_eq_true rfl⟩) rfl rfl (Nat.le_of_ble_eq_true rfl) ⟨Nat.zero_le _, Nat.zero_le _⟩ d_Ref_element_77 ?_
            refine Go.if_eq (tgt := 119) hx hb d_Ref_element_80 rfl (fun c80 => ?_) (fun c80 => ?_)
            · replace h := (if_pos c80).symm.trans h
              exact Go.vret hx hb hr hK hlk h d_Ref_element_119
            · replace h := (if_neg c80).symm.trans h
              refine Go.aload_n hx hb 2 rfl d_Ref_element_83 ?_
              refine Go.aload_n hx hb 2 rfl d_Ref_element_84 ?_
              refine Go.get (v := .ref (ad 11)) hx hb hts in_Ref hown hK 0 (Rw_0 ad ca _) rfl 16 (by decide) (hts _ k_631) (fun _ h9 => h9) rfl d_Ref_element_85 ?_
              refine Go.bipush (v := 20) hx hb (by decide) d_Ref_element_88 ?_
              refine Go.iload_n hx hb 1 rfl d_Ref_element_90 ?_
              refine Go.imul hx hb d_Ref_element_91 ?_
              refine Go.iload_n hx hb 0 rfl d_Ref_element_92 ?_
              refine Go.iadd hx hb d_Ref_element_93 ?_
              obtain ⟨c94, h⟩ := gg_some h
              refine Go.iald (v := gA s20 10 ((20 * (gA s19 3 r19.toNatClampNeg)) + (gI s19 3)).toNatClampNeg) hx hb hK 11 10 (Rw_11 ad ca _) rfl c94 rfl d_Ref_element_94 ?_
              refine Go.aload_n hx hb 2 rfl d_Ref_element_95 ?_
              refine Go.get (v := .ref (ad 12)) hx hb hts in_Ref hown hK 0 (Rw_0 ad ca _) rfl 17 (by decide) (hts _ k_632) (fun _ h9 => h9) rfl d_Ref_element_96 ?_
              refine Go.bipush (v := 20) hx hb (by decide) d_Ref_element_99 ?_
              refine Go.iload_n hx hb 1 rfl d_Ref_element_101 ?_
              refine Go.imul hx hb d_Ref_element_102 ?_
              refine Go.iload_n hx hb 0 rfl d_Ref_element_103 ?_
              refine Go.iadd hx hb d_Ref_element_104 ?_
              obtain ⟨c105, h⟩ := gg_some h
              refine Go.iald (v := gA s20 11 ((20 * (gA s19 3 r19.toNatClampNeg)) + (gI s19 3)).toNatClampNeg) hx hb hK 12 11 (Rw_12 ad ca _) rfl c105 rfl d_Ref_element_105 ?_
              obtain ⟨_, s21, q21, h⟩ := gb_some h
              refine Go.callVv S hK hA 0 (Rw_0 ad ca _) rfl (fun sz9 => m_Ref_acc l D ad ca N _ sz9 _ _ _ s21 q21) (cwV 2 hts (gwV k_739 k_741 k_38 k_67 k_742) rfl rfl rfl (by decide +kernel) ⟨Nat.le_of_ble_eq_true rfl, Nat.le_of_ble_eq_true rfl⟩) rfl rfl (Nat.le_of_ble_eq_true rfl) ⟨Nat.zero_le _, Nat.zero_le _⟩ d_Ref_element_106 ?_
              refine Go.aload_n hx hb 2 rfl d_Ref_element_109 ?_
              refine Go.dup hx hb rfl d_Ref_element_110 ?_
              refine Go.get (v := .int (gI s21 4)) hx hb hts in_Ref hown hK 0 (Rw_0 ad ca _) rfl 8 (by decide) (hts _ k_623) (fun _ h9 => h9) rfl d_Ref_element_111 ?_
              refine Go.iconst (v := 1) hx hb (by decide) d_Ref_element_114 ?_
              refine Go.isub hx hb d_Ref_element_115 ?_
              refine Go.put (ty := (.int)) hx hb hts in_Ref ty_Ref tyok_Ref nm_Ref hown hK 0 (Rw_0 ad ca _) rfl 8 (by decide) (hts _ k_623) (fun _ h9 => h9) rfl (by decide +kernel) rfl rfl (Nat.le_of_ble_eq_true rfl) (uI s21 4 ((gI s21 4) - 1)) (Rs_I4 ad ca _ _) d_Ref_element_116 ?_
              exact Go.vret hx hb hr hK hlk h d_Ref_element_119
          · replace h := (if_neg c58).symm.trans h
            refine Go.iload_n hx hb 0 rfl d_Ref_element_61 ?_
            refine Go.aload_n hx hb 2 rfl d_Ref_element_62 ?_
            refine Go.get (v := .ref (ad 10)) hx hb hts in_Ref hown hK 0 (Rw_0 ad ca _) rfl 15 (by decide) (hts _ k_630) (fun _ h9 => h9) rfl d_Ref_element_63 ?_
            refine Go.iload_n hx hb 1 rfl d_Ref_element_66 ?_
            obtain ⟨c67, h⟩ := gg_some h
            refine Go.iald (v := gA s19 9 (gA s19 3 r19.toNatClampNeg).toNatClampNeg) hx hb hK 10 9 (Rw_10 ad ca _) rfl c67 rfl d_Ref_element_67 ?_
            refine Go.icmp_ge (tgt := 75) hx hb d_Ref_element_68 rfl (fun c68 => ?_) (fun c68 => ?_)
            · replace h := (if_pos c68).symm.trans h
              refine Go.iconst (v := 0) hx hb (by decide) d_Ref_element_75 ?_
              refine Go.iconst (v := 2) hx hb (by decide) d_Ref_element_76 ?_
              obtain ⟨r22, s22, q22, h⟩ := gb_some h
              refine Go.callVi S hK hA 0 (Rw_0 ad ca _) rfl (fun sz9 => m_Ref_needs l D ad ca N _ sz9 _ _ r22 s22 q22) (cwV 2 hts (gwV k_747 k_749 k_40 k_67 k_750) rfl rfl rfl (by decide +kernel) ⟨Nat.le_of_ble_eq_true rfl, Nat.le_of_ble_eq_true rfl⟩) rfl rfl (Nat.le_of_ble_eq_true rfl) ⟨Nat.zero_le _, Nat.zero_le _⟩ d_Ref_element_77 ?_
              refine Go.if_eq (tgt := 119) hx hb d_Ref_element_80 rfl (fun c80 => ?_) (fun c80 => ?_)
              · replace h := (if_pos c80).symm.trans h
                exact Go.vret hx hb hr hK hlk h d_Ref_element_119
              · replace h := (if_neg c80).symm.trans h
                refine Go.aload_n hx hb 2 rfl d_Ref_element_83 ?_
                refine Go.aload_n hx hb 2 rfl d_Ref_element_84 ?_
                refine Go.get (v := .ref (ad 11)) hx hb hts in_Ref hown hK 0 (Rw_0 ad ca _) rfl 16 (by decide) (hts _ k_631) (fun _ h9 => h9) rfl d_Ref_element_85 ?_
                refine Go.bipush (v := 20) hx hb (by decide) d_Ref_element_88 ?_
                refine Go.iload_n hx hb 1 rfl d_Ref_element_90 ?_
                refine Go.imul hx hb d_Ref_element_91 ?_
                refine Go.iload_n hx hb 0 rfl d_Ref_element_92 ?_
                refine Go.iadd hx hb d_Ref_element_93 ?_
                obtain ⟨c94, h⟩ := gg_some h
                refine Go.iald (v := gA s22 10 ((20 * (gA s19 3 r19.toNatClampNeg)) + (gI s19 3)).toNatClampNeg) hx hb hK 11 10 (Rw_11 ad ca _) rfl c94 rfl d_Ref_element_94 ?_
                refine Go.aload_n hx hb 2 rfl d_Ref_element_95 ?_
                refine Go.get (v := .ref (ad 12)) hx hb hts in_Ref hown hK 0 (Rw_0 ad ca _) rfl 17 (by decide) (hts _ k_632) (fun _ h9 => h9) rfl d_Ref_element_96 ?_
                refine Go.bipush (v := 20) hx hb (by decide) d_Ref_element_99 ?_
                refine Go.iload_n hx hb 1 rfl d_Ref_element_101 ?_
                refine Go.imul hx hb d_Ref_element_102 ?_
                refine Go.iload_n hx hb 0 rfl d_Ref_element_103 ?_
                refine Go.iadd hx hb d_Ref_element_104 ?_
                obtain ⟨c105, h⟩ := gg_some h
                refine Go.iald (v := gA s22 11 ((20 * (gA s19 3 r19.toNatClampNeg)) + (gI s19 3)).toNatClampNeg) hx hb hK 12 11 (Rw_12 ad ca _) rfl c105 rfl d_Ref_element_105 ?_
                obtain ⟨_, s23, q23, h⟩ := gb_some h
                refine Go.callVv S hK hA 0 (Rw_0 ad ca _) rfl (fun sz9 => m_Ref_acc l D ad ca N _ sz9 _ _ _ s23 q23) (cwV 2 hts (gwV k_739 k_741 k_38 k_67 k_742) rfl rfl rfl (by decide +kernel) ⟨Nat.le_of_ble_eq_true rfl, Nat.le_of_ble_eq_true rfl⟩) rfl rfl (Nat.le_of_ble_eq_true rfl) ⟨Nat.zero_le _, Nat.zero_le _⟩ d_Ref_element_106 ?_
                refine Go.aload_n hx hb 2 rfl d_Ref_element_109 ?_
                refine Go.dup hx hb rfl d_Ref_element_110 ?_
                refine Go.get (v := .int (gI s23 4)) hx hb hts in_Ref hown hK 0 (Rw_0 ad ca _) rfl 8 (by decide) (hts _ k_623) (fun _ h9 => h9) rfl d_Ref_element_111 ?_
                refine Go.iconst (v := 1) hx hb (by decide) d_Ref_element_114 ?_
                refine Go.isub hx hb d_Ref_element_115 ?_
                refine Go.put (ty := (.int)) hx hb hts in_Ref ty_Ref tyok_Ref nm_Ref hown hK 0 (Rw_0 ad ca _) rfl 8 (by decide) (hts _ k_623) (fun _ h9 => h9) rfl (by decide +kernel) rfl rfl (Nat.le_of_ble_eq_true rfl) (uI s23 4 ((gI s23 4) - 1)) (Rs_I4 ad ca _ _) d_Ref_element_116 ?_
                exact Go.vret hx hb hr hK hlk h d_Ref_element_119
            · replace h := (if_neg c68).symm.trans h
              refine Go.iconst (v := 1) hx hb (by decide) d_Ref_element_71 ?_
              refine Go.goto (tgt := 76) hx hb d_Ref_element_72 rfl ?_
              refine Go.iconst (v := 2) hx hb (by decide) d_Ref_element_76 ?_
              obtain ⟨r24, s24, q24, h⟩ := gb_some h
              refine Go.callVi S hK hA 0 (Rw_0 ad ca _) rfl (fun sz9 => m_Ref_needs l D ad ca N _ sz9 _ _ r24 s24 q24) (cwV 2 hts (gwV k_747 k_749 k_40 k_67 k_750) rfl rfl rfl (by decide +kernel) ⟨Nat.le_of_ble_eq_true rfl, Nat.le_of_ble_eq_true rfl⟩) rfl rfl (Nat.le_of_ble_eq_true rfl) ⟨Nat.zero_le _, Nat.zero_le _⟩ d_Ref_element_77 ?_
              refine Go.if_eq (tgt := 119) hx hb d_Ref_element_80 rfl (fun c80 => ?_) (fun c80 => ?_)
              · replace h := (if_pos c80).symm.trans h
                exact Go.vret hx hb hr hK hlk h d_Ref_element_119
              · replace h := (if_neg c80).symm.trans h
                refine Go.aload_n hx hb 2 rfl d_Ref_element_83 ?_
                refine Go.aload_n hx hb 2 rfl d_Ref_element_84 ?_
                refine Go.get (v := .ref (ad 11)) hx hb hts in_Ref hown hK 0 (Rw_0 ad ca _) rfl 16 (by decide) (hts _ k_631) (fun _ h9 => h9) rfl d_Ref_element_85 ?_
                refine Go.bipush (v := 20) hx hb (by decide) d_Ref_element_88 ?_
                refine Go.iload_n hx hb 1 rfl d_Ref_element_90 ?_
                refine Go.imul hx hb d_Ref_element_91 ?_
                refine Go.iload_n hx hb 0 rfl d_Ref_element_92 ?_
                refine Go.iadd hx hb d_Ref_element_93 ?_
                obtain ⟨c94, h⟩ := gg_some h
                refine Go.iald (v := gA s24 10 ((20 * (gA s19 3 r19.toNatClampNeg)) + (gI s19 3)).toNatClampNeg) hx hb hK 11 10 (Rw_11 ad ca _) rfl c94 rfl d_Ref_element_94 ?_
                refine Go.aload_n hx hb 2 rfl d_Ref_element_95 ?_
                refine Go.get (v := .ref (ad 12)) hx hb hts in_Ref hown hK 0 (Rw_0 ad ca _) rfl 17 (by decide) (hts _ k_632) (fun _ h9 => h9) rfl d_Ref_element_96 ?_
                refine Go.bipush (v := 20) hx hb (by decide) d_Ref_element_99 ?_
                refine Go.iload_n hx hb 1 rfl d_Ref_element_101 ?_
                refine Go.imul hx hb d_Ref_element_102 ?_
                refine Go.iload_n hx hb 0 rfl d_Ref_element_103 ?_
                refine Go.iadd hx hb d_Ref_element_104 ?_
                obtain ⟨c105, h⟩ := gg_some h
                refine Go.iald (v := gA s24 11 ((20 * (gA s19 3 r19.toNatClampNeg)) + (gI s19 3)).toNatClampNeg) hx hb hK 12 11 (Rw_12 ad ca _) rfl c105 rfl d_Ref_element_105 ?_
                obtain ⟨_, s25, q25, h⟩ := gb_some h
                refine Go.callVv S hK hA 0 (Rw_0 ad ca _) rfl (fun sz9 => m_Ref_acc l D ad ca N _ sz9 _ _ _ s25 q25) (cwV 2 hts (gwV k_739 k_741 k_38 k_67 k_742) rfl rfl rfl (by decide +kernel) ⟨Nat.le_of_ble_eq_true rfl, Nat.le_of_ble_eq_true rfl⟩) rfl rfl (Nat.le_of_ble_eq_true rfl) ⟨Nat.zero_le _, Nat.zero_le _⟩ d_Ref_element_106 ?_
                refine Go.aload_n hx hb 2 rfl d_Ref_element_109 ?_
                refine Go.dup hx hb rfl d_Ref_element_110 ?_
                refine Go.get (v := .int (gI s25 4)) hx hb hts in_Ref hown hK 0 (Rw_0 ad ca _) rfl 8 (by decide) (hts _ k_623) (fun _ h9 => h9) rfl d_Ref_element_111 ?_
                refine Go.iconst (v := 1) hx hb (by decide) d_Ref_element_114 ?_
                refine Go.isub hx hb d_Ref_element_115 ?_
                refine Go.put (ty := (.int)) hx hb hts in_Ref ty_Ref tyok_Ref nm_Ref hown hK 0 (Rw_0 ad ca _) rfl 8 (by decide) (hts _ k_623) (fun _ h9 => h9) rfl (by decide +kernel) rfl rfl (Nat.le_of_ble_eq_true rfl) (uI s25 4 ((gI s25 4) - 1)) (Rs_I4 ad ca _ _) d_Ref_element_116 ?_
                exact Go.vret hx hb hr hK hlk h d_Ref_element_119
        · replace h := (if_neg c36).symm.trans h
          exact Go.vret hx hb hr hK hlk h d_Ref_element_39
      · replace h := (if_pos c27).symm.trans h
        refine Go.iconst (v := 1) hx hb (by decide) d_Ref_element_30 ?_
        refine Go.goto (tgt := 35) hx hb d_Ref_element_31 rfl ?_
        refine Go.ior hx hb d_Ref_element_35 ?_
        refine Go.if_eq (tgt := 40) hx hb d_Ref_element_36 rfl (fun c36 => ?_) (fun c36 => ?_)
        · replace h := (if_pos c36).symm.trans h
          refine Go.aload_n hx hb 0 rfl d_Ref_element_40 ?_
          refine Go.get (v := .ref (ad 4)) hx hb hts in_Ref hown hK 0 (Rw_0 ad ca _) rfl 7 (by decide) (hts _ k_622) (fun _ h9 => h9) rfl d_Ref_element_41 ?_
          refine Go.aload_n hx hb 0 rfl d_Ref_element_44 ?_
          refine Go.iconst (v := 0) hx hb (by decide) d_Ref_element_45 ?_
          obtain ⟨r26, s26, q26, h⟩ := gb_some h
          refine Go.callVi S hK hA 0 (Rw_0 ad ca _) rfl (fun sz9 => m_Ref_deep l D ad ca N _ sz9 _ r26 s26 q26) (cwV 1 hts (gwV k_751 k_753 k_41 k_67 k_754) rfl rfl rfl (by decide +kernel) ⟨Nat.le_of_ble_eq_true rfl, Nat.le_of_ble_eq_true rfl⟩) rfl rfl (Nat.le_of_ble_eq_true rfl) ⟨Nat.zero_le _, Nat.zero_le _⟩ d_Ref_element_46 ?_
          obtain ⟨c49, h⟩ := gg_some h
          refine Go.iald (v := gA s26 3 r26.toNatClampNeg) hx hb hK 4 3 (Rw_4 ad ca _) rfl c49 rfl d_Ref_element_49 ?_
          refine Go.istore_n (i := 1) (lv' := [(1, .int (gA s26 3 r26.toNatClampNeg)), (0, .ref (ad 0))]) hx hb rfl (Nat.le_of_ble_eq_true rfl) rfl d_Ref_element_50 ?_
          refine Go.aload_n hx hb 1 rfl d_Ref_element_51 ?_
          refine Go.get (v := .int (gI s26 3)) hx hb hts in_Ref hown hK 0 (Rw_0 ad ca _) rfl 5 (by decide) (hts _ k_620) (fun _ h9 => h9) rfl d_Ref_element_52 ?_
          refine Go.istore_n (i := 2) (lv' := [(2, .int (gI s26 3)), (1, .int (gA s26 3 r26.toNatClampNeg)), (0, .ref (ad 0))]) hx hb rfl (Nat.le_of_ble_eq_true rfl) rfl d_Ref_element_55 ?_
          refine Go.aload_n hx hb 2 rfl d_Ref_element_56 ?_
          refine Go.iload_n hx hb 0 rfl d_Ref_element_57 ?_
          refine Go.if_lt (tgt := 75) hx hb d_Ref_element_58 rfl (fun c58 => ?_) (fun c58 => ?_)
          · replace h := (if_pos c58).symm.trans h
            refine Go.iconst (v := 0) hx hb (by decide) d_Ref_element_75 ?_
            refine Go.iconst (v := 2) hx hb (by decide) d_Ref_element_76 ?_
            obtain ⟨r27, s27, q27, h⟩ := gb_some h
            refine Go.callVi S hK hA 0 (Rw_0 ad ca _) rfl (fun sz9 => m_Ref_needs l D ad ca N _ sz9 _ _ r27 s27 q27) (cwV 2 hts (gwV k_747 k_749 k_40 k_67 k_750) rfl rfl rfl (by decide +kernel) ⟨Nat.le_of_ble_eq_true rfl, Nat.le_of_ble_eq_true rfl⟩) rfl rfl (Nat.le_of_ble_eq_true rfl) ⟨Nat.zero_le _, Nat.zero_le _⟩ d_Ref_element_77 ?_
            refine Go.if_eq (tgt := 119) hx hb d_Ref_element_80 rfl (fun c80 => ?_) (fun c80 => ?_)
            · replace h := (if_pos c80).symm.trans h
              exact Go.vret hx hb hr hK hlk h d_Ref_element_119
            · replace h := (if_neg c80).symm.trans h
              refine Go.aload_n hx hb 2 rfl d_Ref_element_83 ?_
              refine Go.aload_n hx hb 2 rfl d_Ref_element_84 ?_
              refine Go.get (v := .ref (ad 11)) hx hb hts in_Ref hown hK 0 (Rw_0 ad ca _) rfl 16 (by decide) (hts _ k_631) (fun _ h9 => h9) rfl d_Ref_element_85 ?_
              refine Go.bipush (v := 20) hx hb (by decide) d_Ref_element_88 ?_
              refine Go.iload_n hx hb 1 rfl d_Ref_element_90 ?_
              refine Go.imul hx hb d_Ref_element_91 ?_
              refine Go.iload_n hx hb 0 rfl d_Ref_element_92 ?_
              refine Go.iadd hx hb d_Ref_element_93 ?_
              obtain ⟨c94, h⟩ := gg_some h
              refine Go.iald (v := gA s27 10 ((20 * (gA s26 3 r26.toNatClampNeg)) + (gI s26 3)).toNatClampNeg) hx hb hK 11 10 (Rw_11 ad ca _) rfl c94 rfl d_Ref_element_94 ?_
              refine Go.aload_n hx hb 2 rfl d_Ref_element_95 ?_
              refine Go.get (v := .ref (ad 12)) hx hb hts in_Ref hown hK 0 (Rw_0 ad ca _) rfl 17 (by decide) (hts _ k_632) (fun _ h9 => h9) rfl d_Ref_element_96 ?_
              refine Go.bipush (v := 20) hx hb (by decide) d_Ref_element_99 ?_
              refine Go.iload_n hx hb 1 rfl d_Ref_element_101 ?_
              refine Go.imul hx hb d_Ref_element_102 ?_
              refine Go.iload_n hx hb 0 rfl d_Ref_element_103 ?_
              refine Go.iadd hx hb d_Ref_element_104 ?_
              obtain ⟨c105, h⟩ := gg_some h
              refine Go.iald (v := gA s27 11 ((20 * (gA s26 3 r26.toNatClampNeg)) + (gI s26 3)).toNatClampNeg) hx hb hK 12 11 (Rw_12 ad ca _) rfl c105 rfl d_Ref_element_105 ?_
              obtain ⟨_, s28, q28, h⟩ := gb_some h
              refine Go.callVv S hK hA 0 (Rw_0 ad ca _) rfl (fun sz9 => m_Ref_acc l D ad ca N _ sz9 _ _ _ s28 q28) (cwV 2 hts (gwV k_739 k_741 k_38 k_67 k_742) rfl rfl rfl (by decide +kernel) ⟨Nat.le_of_ble_eq_true rfl, Nat.le_of_ble_eq_true rfl⟩) rfl rfl (Nat.le_of_ble_eq_true rfl) ⟨Nat.zero_le _, Nat.zero_le _⟩ d_Ref_element_106 ?_
              refine Go.aload_n hx hb 2 rfl d_Ref_element_109 ?_
              refine Go.dup hx hb rfl d_Ref_element_110 ?_
              refine Go.get (v := .int (gI s28 4)) hx hb hts in_Ref hown hK 0 (Rw_0 ad ca _) rfl 8 (by decide) (hts _ k_623) (fun _ h9 => h9) rfl d_Ref_element_111 ?_
              refine Go.iconst (v := 1) hx hb (by decide) d_Ref_element_114 ?_
              refine Go.isub hx hb d_Ref_element_115 ?_
              refine Go.put (ty := (.int)) hx hb hts in_Ref ty_Ref tyok_Ref nm_Ref hown hK 0 (Rw_0 ad ca _) rfl 8 (by decide) (hts _ k_623) (fun _ h9 => h9) rfl (by decide +kernel) rfl rfl (Nat.le_of_ble_eq_true rfl) (uI s28 4 ((gI s28 4) - 1)) (Rs_I4 ad ca _ _) d_Ref_element_116 ?_
              exact Go.vret hx hb hr hK hlk h d_Ref_element_119
          · replace h := (if_neg c58).symm.trans h
            refine Go.iload_n hx hb 0 rfl d_Ref_element_61 ?_
            refine Go.aload_n hx hb 2 rfl d_Ref_element_62 ?_
            refine Go.get (v := .ref (ad 10)) hx hb hts in_Ref hown hK 0 (Rw_0 ad ca _) rfl 15 (by decide) (hts _ k_630) (fun _ h9 => h9) rfl d_Ref_element_63 ?_
            refine Go.iload_n hx hb 1 rfl d_Ref_element_66 ?_
            obtain ⟨c67, h⟩ := gg_some h
            refine Go.iald (v := gA s26 9 (gA s26 3 r26.toNatClampNeg).toNatClampNeg) hx hb hK 10 9 (Rw_10 ad ca _) rfl c67 rfl d_Ref_element_67 ?_
            refine Go.icmp_ge (tgt := 75) hx hb d_Ref_element_68 rfl (fun c68 => ?_) (fun c68 => ?_)
            · replace h := (if_pos c68).symm.trans h
              refine Go.iconst (v := 0) hx hb (by decide) d_Ref_element_75 ?_
              refine Go.iconst (v := 2) hx hb (by decide) d_Ref_element_76 ?_
              obtain ⟨r29, s29, q29, h⟩ := gb_some h
              refine Go.callVi S hK hA 0 (Rw_0 ad ca _) rfl (fun sz9 => m_Ref_needs l D ad ca N _ sz9 _ _ r29 s29 q29) (cwV 2 hts (gwV k_747 k_749 k_40 k_67 k_750) rfl rfl rfl (by decide +kernel) ⟨Nat.le_of_ble_eq_true rfl, Nat.le_of_ble_eq_true rfl⟩) rfl rfl (Nat.le_of_ble_eq_true rfl) ⟨Nat.zero_le _, Nat.zero_le _⟩ d_Ref_element_77 ?_
              refine Go.if_eq (tgt := 119) hx hb d_Ref_element_80 rfl (fun c80 => ?_) (fun c80 => ?_)
              · replace h := (if_pos c80).symm.trans h
                exact Go.vret hx hb hr hK hlk h d_Ref_element_119
              · replace h := (if_neg c80).symm.trans h
                refine Go.aload_n hx hb 2 rfl d_Ref_element_83 ?_
                refine Go.aload_n hx hb 2 rfl d_Ref_element_84 ?_
                refine Go.get (v := .ref (ad 11)) hx hb hts in_Ref hown hK 0 (Rw_0 ad ca _) rfl 16 (by decide) (hts _ k_631) (fun _ h9 => h9) rfl d_Ref_element_85 ?_
                refine Go.bipush (v := 20) hx hb (by decide) d_Ref_element_88 ?_
                refine Go.iload_n hx hb 1 rfl d_Ref_element_90 ?_
                refine Go.imul hx hb d_Ref_element_91 ?_
                refine Go.iload_n hx hb 0 rfl d_Ref_element_92 ?_
                refine Go.iadd hx hb d_Ref_element_93 ?_
                obtain ⟨c94, h⟩ := gg_some h
                refine Go.iald (v := gA s29 10 ((20 * (gA s26 3 r26.toNatClampNeg)) + (gI s26 3)).toNatClampNeg) hx hb hK 11 10 (Rw_11 ad ca _) rfl c94 rfl d_Ref_element_94 ?_
                refine Go.aload_n hx hb 2 rfl d_Ref_element_95 ?_
                refine Go.get (v := .ref (ad 12)) hx hb hts in_Ref hown hK 0 (Rw_0 ad ca _) rfl 17 (by decide) (hts _ k_632) (fun _ h9 => h9) rfl d_Ref_element_96 ?_
                refine Go.bipush (v := 20) hx hb (by decide) d_Ref_element_99 ?_
                refine Go.iload_n hx hb 1 rfl d_Ref_element_101 ?_
                refine Go.imul hx hb d_Ref_element_102 ?_
                refine Go.iload_n hx hb 0 rfl d_Ref_element_103 ?_
                refine Go.iadd hx hb d_Ref_element_104 ?_
                obtain ⟨c105, h⟩ := gg_some h
                refine Go.iald (v := gA s29 11 ((20 * (gA s26 3 r26.toNatClampNeg)) + (gI s26 3)).toNatClampNeg) hx hb hK 12 11 (Rw_12 ad ca _) rfl c105 rfl d_Ref_element_105 ?_
                obtain ⟨_, s30, q30, h⟩ := gb_some h
                refine Go.callVv S hK hA 0 (Rw_0 ad ca _) rfl (fun sz9 => m_Ref_acc l D ad ca N _ sz9 _ _ _ s30 q30) (cwV 2 hts (gwV k_739 k_741 k_38 k_67 k_742) rfl rfl rfl (by decide +kernel) ⟨Nat.le_of_ble_eq_true rfl, Nat.le_of_ble_eq_true rfl⟩) rfl rfl (Nat.le_of_ble_eq_true rfl) ⟨Nat.zero_le _, Nat.zero_le _⟩ d_Ref_element_106 ?_
                refine Go.aload_n hx hb 2 rfl d_Ref_element_109 ?_
                refine Go.dup hx hb rfl d_Ref_element_110 ?_
                refine Go.get (v := .int (gI s30 4)) hx hb hts in_Ref hown hK 0 (Rw_0 ad ca _) rfl 8 (by decide) (hts _ k_623) (fun _ h9 => h9) rfl d_Ref_element_111 ?_
                refine Go.iconst (v := 1) hx hb (by decide) d_Ref_element_114 ?_
                refine Go.isub hx hb d_Ref_element_115 ?_
                refine Go.put (ty := (.int)) hx hb hts in_Ref ty_Ref tyok_Ref nm_Ref hown hK 0 (Rw_0 ad ca _) rfl 8 (by decide) (hts _ k_623) (fun _ h9 => h9) rfl (by decide +kernel) rfl rfl (Nat.le_of_ble_eq_true rfl) (uI s30 4 ((gI s30 4) - 1)) (Rs_I4 ad ca _ _) d_Ref_element_116 ?_
                exact Go.vret hx hb hr hK hlk h d_Ref_element_119
            · replace h := (if_neg c68).symm.trans h
              refine Go.iconst (v := 1) hx hb (by decide) d_Ref_element_71 ?_
              refine Go.goto (tgt := 76) hx hb d_Ref_element_72 rfl ?_
              refine Go.iconst (v := 2) hx hb (by decide) d_Ref_element_76 ?_
              obtain ⟨r31, s31, q31, h⟩ := gb_some h
              refine Go.callVi S hK hA 0 (Rw_0 ad ca _) rfl (fun sz9 => m_Ref_needs l D ad ca N _ sz9 _ _ r31 s31 q31) (cwV 2 hts (gwV k_747 k_749 k_40 k_67 k_750) rfl rfl rfl (by decide +kernel) ⟨Nat.le_of_ble_eq_true rfl, Nat.le_of_ble_eq_true rfl⟩) rfl rfl (Nat.le_of_ble_eq_true rfl) ⟨Nat.zero_le _, Nat.zero_le _⟩ d_Ref_element_77 ?_
              refine Go.if_eq (tgt := 119) hx hb d_Ref_element_80 rfl (fun c80 => ?_) (fun c80 => ?_)
              · replace h := (if_pos c80).symm.trans h
                exact Go.vret hx hb hr hK hlk h d_Ref_element_119
              · replace h := (if_neg c80).symm.trans h
                refine Go.aload_n hx hb 2 rfl d_Ref_element_83 ?_
                refine Go.aload_n hx hb 2 rfl d_Ref_element_84 ?_
                refine Go.get (v := .ref (ad 11)) hx hb hts in_Ref hown hK 0 (Rw_0 ad ca _) rfl 16 (by decide) (hts _ k_631) (fun _ h9 => h9) rfl d_Ref_element_85 ?_
                refine Go.bipush (v := 20) hx hb (by decide) d_Ref_element_88 ?_
                refine Go.iload_n hx hb 1 rfl d_Ref_element_90 ?_
                refine Go.imul hx hb d_Ref_element_91 ?_
                refine Go.iload_n hx hb 0 rfl d_Ref_element_92 ?_
                refine Go.iadd hx hb d_Ref_element_93 ?_
                obtain ⟨c94, h⟩ := gg_some h
                refine Go.iald (v := gA s31 10 ((20 * (gA s26 3 r26.toNatClampNeg)) + (gI s26 3)).toNatClampNeg) hx hb hK 11 10 (Rw_11 ad ca _) rfl c94 rfl d_Ref_element_94 ?_
                refine Go.aload_n hx hb 2 rfl d_Ref_element_95 ?_
                refine Go.get (v := .ref (ad 12)) hx hb hts in_Ref hown hK 0 (Rw_0 ad ca _) rfl 17 (by decide) (hts _ k_632) (fun _ h9 => h9) rfl d_Ref_element_96 ?_
                refine Go.bipush (v := 20) hx hb (by decide) d_Ref_element_99 ?_
                refine Go.iload_n hx hb 1 rfl d_Ref_element_101 ?_
                refine Go.imul hx hb d_Ref_element_102 ?_
                refine Go.iload_n hx hb 0 rfl d_Ref_element_103 ?_
                refine Go.iadd hx hb d_Ref_element_104 ?_
                obtain ⟨c105, h⟩ := gg_some h
                refine Go.iald (v := gA s31 11 ((20 * (gA s26 3 r26.toNatClampNeg)) + (gI s26 3)).toNatClampNeg) hx hb hK 12 11 (Rw_12 ad ca _) rfl c105 rfl d_Ref_element_105 ?_
                obtain ⟨_, s32, q32, h⟩ := gb_some h
                refine Go.callVv S hK hA 0 (Rw_0 ad ca _) rfl (fun sz9 => m_Ref_acc l D ad ca N _ sz9 _ _ _ s32 q32) (cwV 2 hts (gwV k_739 k_741 k_38 k_67 k_742) rfl rfl rfl (by decide +kernel) ⟨Nat.le_of_ble_eq_true rfl, Nat.le_of_ble_eq_true rfl⟩) rfl rfl (Nat.le_of_ble_eq_true rfl) ⟨Nat.zero_le _, Nat.zero_le _⟩ d_Ref_element_106 ?_
                refine Go.aload_n hx hb 2 rfl d_Ref_element_109 ?_
                refine Go.dup hx hb rfl d_Ref_element_110 ?_
                refine Go.get (v := .int (gI s32 4)) hx hb hts in_Ref hown hK 0 (Rw_0 ad ca _) rfl 8 (by decide) (hts _ k_623) (fun _ h9 => h9) rfl d_Ref_element_111 ?_
                refine Go.iconst (v := 1) hx hb (by decide) d_Ref_element_114 ?_
                refine Go.isub hx hb d_Ref_element_115 ?_
                refine Go.put (ty := (.int)) hx hb hts in_Ref ty_Ref tyok_Ref nm_Ref hown hK 0 (Rw_0 ad ca _) rfl 8 (by decide) (hts _ k_623) (fun _ h9 => h9) rfl (by decide +kernel) rfl rfl (Nat.le_of_ble_eq_true rfl) (uI s32 4 ((gI s32 4) - 1)) (Rs_I4 ad ca _ _) d_Ref_element_116 ?_
                exact Go.vret hx hb hr hK hlk h d_Ref_element_119
        · replace h := (if_neg c36).symm.trans h
          exact Go.vret hx hb hr hK hlk h d_Ref_element_39
