set_option maxHeartbeats 4000000 in
set_option maxRecDepth 100000 in
theorem m_Ref_hasTrap (l : Launch) (D : va_G) (ad : Nat → Nat) (ca : Nat → ClassId) (N : Nat) (st : SG) (sz : Nat) (r : Int32) (u : SG) (h : fR_ValueMachineModel_hasTrap N st = some (r, u)) : Met l y_Ref_hasTrap (Cond.code y_Ref_hasTrap c_Ref_hasTrap 3 (some .boolean) :: tbl) ({ frames := 0, cells := 0, slots := 0, locals := 0 } : Room) (va_Pc [.ref (ad 0)] (goPre (Rw ad ca) D vwCl (Rtys ca) sz st)) (va_Qi (fun r' u' => r' = r ∧ u' = u) (goPost (Rw ad ca) D vwCl (Rtys ca) (va_A (Rw ad ca st) sz)) (va_A (Rw ad ca st) sz)) 0 0 (va_A (Rw ad ca st) sz) := by
  refine go_met (Qc := fun A9 => va_Qi (fun r' u' => r' = r ∧ u' = u) (goPost (Rw ad ca) D vwCl (Rtys ca) A9) A9) (cc := c_Ref_hasTrap) (maxL := 3) (ret := (some .boolean)) [(0, .ref (ad 0))] (by decide) rfl (Nat.le_of_ble_eq_true rfl) rfl ?_
  intro p e s m below meth c A S hr hlk hK hA hsz
  obtain ⟨hx, hb, hml, hown, hts⟩ := id S
  unfold fR_ValueMachineModel_hasTrap at h
  have L4 : ∀ (n : Nat) (v1 : Int32) (v2 : Int32) (st : SG), fR_ValueMachineModel_hasTrap_L4 N n v1 v2 st = some (r, u) → Go (Rw ad ca) D vwCl A s.heap 3 p l e ({ frames := 0, cells := 0, slots := 0, locals := 0 } : Room) s m ([.ref (ad 0)] : List Value).toArray below meth c 0 0 (MQ below (va_Qi (fun r' u' => r' = r ∧ u' = u) (goPost (Rw ad ca) D vwCl (Rtys ca) A) A) ([.ref (ad 0)] : List Value).toArray s 0 0 A) 4 [(0, .ref (ad 0)), (1, .int v1), (2, .int v2)] [] st := by
    intro n
    induction n with
    | zero => intro v1 v2 st h; cases h
    | succ n ih =>
      intro v1 v2 st h
      unfold fR_ValueMachineModel_hasTrap_L4 at h
      refine Go.iload_n hx hb 2 rfl d_Ref_hasTrap_4 ?_
      refine Go.aload_n hx hb 0 rfl d_Ref_hasTrap_5 ?_
      refine Go.get (v := .int (gI st 5)) hx hb hts in_Ref hown hK 0 (Rw_0 ad ca _) rfl 13 (by decide) (hts _ k_628) (fun _ h9 => h9) rfl d_Ref_hasTrap_6 ?_
      refine Go.icmp_ge (tgt := 38) hx hb d_Ref_hasTrap_9 rfl (fun c9 => ?_) (fun c9 => ?_)
      · replace h := (if_pos c9).symm.trans h
        refine Go.iload_n hx hb 1 rfl d_Ref_hasTrap_38 ?_
        obtain ⟨c39, h⟩ := gg_some h
        exact Go.zret hx hb hr hK hlk (congrArg Value.int (Decidable.not_not.mp c39)) h d_Ref_hasTrap_39
      · replace h := (if_neg c9).symm.trans h
        refine Go.iload_n hx hb 1 rfl d_Ref_hasTrap_12 ?_
        refine Go.if_ne (tgt := 26) hx hb d_Ref_hasTrap_13 rfl (fun c13 => ?_) (fun c13 => ?_)
        · replace h := (if_neg c13).symm.trans h
          refine Go.iconst (v := 1) hx hb (by decide) d_Ref_hasTrap_26 ?_
          refine Go.goto (tgt := 31) hx hb d_Ref_hasTrap_27 rfl ?_
          refine Go.istore_n (i := 1) (lv' := [(1, .int 1), (0, .ref (ad 0)), (2, .int v2)]) hx hb rfl (Nat.le_of_ble_eq_true rfl) rfl d_Ref_hasTrap_31 ?_
          refine Go.iinc (v := v2 + 1) (lv' := [(2, .int (v2 + 1)), (1, .int 1), (0, .ref (ad 0))]) hx hb 2 rfl rfl (Nat.le_of_ble_eq_true rfl) rfl d_Ref_hasTrap_32 ?_
          refine Go.goto (tgt := 4) hx hb d_Ref_hasTrap_35 rfl ?_
          refine Go.sub [2, 1, 0] rfl ?_
          exact ih _ _ _ h
        · replace h := (if_pos c13).symm.trans h
          refine Go.aload_n hx hb 0 rfl d_Ref_hasTrap_16 ?_
          refine Go.get (v := .ref (ad 8)) hx hb hts in_Ref hown hK 0 (Rw_0 ad ca _) rfl 12 (by decide) (hts _ k_627) (fun _ h9 => h9) rfl d_Ref_hasTrap_17 ?_
          refine Go.iload_n hx hb 2 rfl d_Ref_hasTrap_20 ?_
          obtain ⟨c21, h⟩ := gg_some h
          refine Go.iald (v := gA st 7 v2.toNatClampNeg) hx hb hK 8 7 (Rw_8 ad ca _) rfl c21 rfl d_Ref_hasTrap_21 ?_
          refine Go.iconst (v := (-1)) hx hb (by decide) d_Ref_hasTrap_22 ?_
          refine Go.icmp_eq (tgt := 30) hx hb d_Ref_hasTrap_23 rfl (fun c23 => ?_) (fun c23 => ?_)
          · replace h := (if_pos c23).symm.trans h
            refine Go.iconst (v := 0) hx hb (by decide) d_Ref_hasTrap_30 ?_
            refine Go.istore_n (i := 1) (lv' := [(1, .int 0), (0, .ref (ad 0)), (2, .int v2)]) hx hb rfl (Nat.le_of_ble_eq_true rfl) rfl d_Ref_hasTrap_31 ?_
            refine Go.iinc (v := v2 + 1) (lv' := [(2, .int (v2 + 1)), (1, .int 0), (0, .ref (ad 0))]) hx hb 2 rfl rfl (Nat.le_of_ble_eq_true rfl) rfl d_Ref_hasTrap_32 ?_
            refine Go.goto (tgt := 4) hx hb d_Ref_hasTrap_35 rfl ?_
            refine Go.sub [2, 1, 0] rfl ?_
            exact ih _ _ _ h
          · replace h := (if_neg c23).symm.trans h
            refine Go.iconst (v := 1) hx hb (by decide) d_Ref_hasTrap_26 ?_
            refine Go.goto (tgt := 31) hx hb d_Ref_hasTrap_27 rfl ?_
            refine Go.istore_n (i := 1) (lv' := [(1, .int 1), (0, .ref (ad 0)), (2, .int v2)]) hx hb rfl (Nat.le_of_ble_eq_true rfl) rfl d_Ref_hasTrap_31 ?_
            refine Go.iinc (v := v2 + 1) (lv' := [(2, .int (v2 + 1)), (1, .int 1), (0, .ref (ad 0))]) hx hb 2 rfl rfl (Nat.le_of_ble_eq_true rfl) rfl d_Ref_hasTrap_32 ?_
            refine Go.goto (tgt := 4) hx hb d_Ref_hasTrap_35 rfl ?_
            refine Go.sub [2, 1, 0] rfl ?_
            exact ih _ _ _ h
  refine Go.iconst (v := 0) hx hb (by decide) d_Ref_hasTrap_0 ?_
  refine Go.istore_n (i := 1) (lv' := [(1, .int 0), (0, .ref (ad 0))]) hx hb rfl (Nat.le_of_ble_eq_true rfl) rfl d_Ref_hasTrap_1 ?_
  refine Go.iconst (v := 0) hx hb (by decide) d_Ref_hasTrap_2 ?_
  refine Go.istore_n (i := 2) (lv' := [(2, .int 0), (1, .int 0), (0, .ref (ad 0))]) hx hb rfl (Nat.le_of_ble_eq_true rfl) rfl d_Ref_hasTrap_3 ?_
  refine Go.sub [2, 1, 0] rfl ?_
  exact L4 N _ _ _ h
set_option maxHeartbeats 4000000 in
set_option maxRecDepth 100000 in
theorem m_Ref_falls (l : Launch) (D : va_G) (ad : Nat → Nat) (ca : Nat → ClassId) (N : Nat) (st : SG) (sz : Nat) (a0 : Int32) (a1 : Int32) (r : Unit) (u : SG) (h : fR_ValueMachineModel_falls N st a0 a1 = some (r, u)) : Met l y_Ref_falls (Cond.code y_Ref_falls c_Ref_falls 3 none :: tbl) ({ frames := 1, cells := 0, slots := 0, locals := 22 } : Room) (va_Pc [.ref (ad 0), .int a0, .int a1] (goPre (Rw ad ca) D vwCl (Rtys ca) sz st)) (va_Qv (fun u' => u' = u) (goPost (Rw ad ca) D vwCl (Rtys ca) (va_A (Rw ad ca st) sz)) (va_A (Rw ad ca st) sz)) 0 0 (va_A (Rw ad ca st) sz) := by
  refine go_met (Qc := fun A9 => va_Qv (fun u' => u' = u) (goPost (Rw ad ca) D vwCl (Rtys ca) A9) A9) (cc := c_Ref_falls) (maxL := 3) (ret := none) [(0, .ref (ad 0)), (1, .int a0), (2, .int a1)] (by decide) rfl (Nat.le_of_ble_eq_true rfl) rfl ?_
  intro p e s m below meth c A S hr hlk hK hA hsz
  obtain ⟨hx, hb, hml, hown, hts⟩ := id S
  unfold fR_ValueMachineModel_falls at h
  have L10 : ∀ (n : Nat) (v1 : Int32) (v2 : Int32) (st : SG), fR_ValueMachineModel_falls_L10 N n v1 v2 st = some (r, u) → Go (Rw ad ca) D vwCl A s.heap 3 p l e ({ frames := 1, cells := 0, slots := 0, locals := 22 } : Room) s m ([.ref (ad 0), .int a0, .int a1] : List Value).toArray below meth c 0 0 (MQ below (va_Qv (fun u' => u' = u) (goPost (Rw ad ca) D vwCl (Rtys ca) A) A) ([.ref (ad 0), .int a0, .int a1] : List Value).toArray s 0 0 A) 10 [(0, .ref (ad 0)), (1, .int v1), (2, .int v2)] [] st := by
    intro n
    induction n with
    | zero => intro v1 v2 st h; cases h
    | succ n ih =>
      intro v1 v2 st h
      unfold fR_ValueMachineModel_falls_L10 at h
      refine Go.aload_n hx hb 0 rfl d_Ref_falls_10 ?_
      refine Go.get (v := .int (gI st 5)) hx hb hts in_Ref hown hK 0 (Rw_0 ad ca _) rfl 13 (by decide) (hts _ k_628) (fun _ h9 => h9) rfl d_Ref_falls_11 ?_
      refine Go.if_le (tgt := 52) hx hb d_Ref_falls_14 rfl (fun c14 => ?_) (fun c14 => ?_)
      · replace h := (if_pos c14).symm.trans h
        refine Go.aload_n hx hb 0 rfl d_Ref_falls_52 ?_
        obtain ⟨r1, s1, q1, h⟩ := gb_some h
        refine Go.callVi S hK hA 0 (Rw_0 ad ca _) rfl (fun sz9 => m_Ref_hasTrap l D ad ca N _ sz9 r1 s1 q1) (cwV 0 hts (gwV k_735 k_737 k_37 k_67 k_738) rfl rfl rfl (by decide +kernel) ⟨Nat.le_of_ble_eq_true rfl, Nat.le_of_ble_eq_true rfl⟩) rfl rfl (Nat.le_of_ble_eq_true rfl) ⟨Nat.zero_le _, Nat.zero_le _⟩ d_Ref_falls_53 ?_
        refine Go.if_ne (tgt := 75) hx hb d_Ref_falls_56 rfl (fun c56 => ?_) (fun c56 => ?_)
        · replace h := (if_neg c56).symm.trans h
          refine Go.aload_n hx hb 0 rfl d_Ref_falls_75 ?_
          refine Go.dup hx hb rfl d_Ref_falls_76 ?_
          refine Go.get (v := .int (gI s1 5)) hx hb hts in_Ref hown hK 0 (Rw_0 ad ca _) rfl 13 (by decide) (hts _ k_628) (fun _ h9 => h9) rfl d_Ref_falls_77 ?_
          refine Go.iconst (v := 1) hx hb (by decide) d_Ref_falls_80 ?_
          refine Go.isub hx hb d_Ref_falls_81 ?_
          refine Go.put (ty := (.int)) hx hb hts in_Ref ty_Ref tyok_Ref nm_Ref hown hK 0 (Rw_0 ad ca _) rfl 13 (by decide) (hts _ k_628) (fun _ h9 => h9) rfl (by decide +kernel) rfl rfl (Nat.le_of_ble_eq_true rfl) (uI s1 5 ((gI s1 5) - 1)) (Rs_I5 ad ca _ _) d_Ref_falls_82 ?_
          refine Go.aload_n hx hb 0 rfl d_Ref_falls_85 ?_
          refine Go.aload_n hx hb 0 rfl d_Ref_falls_86 ?_
          refine Go.get (v := .int (gI s1 4)) hx hb hts in_Ref hown hK 0 (Rw_0 ad ca _) rfl 8 (by decide) (hts _ k_623) (fun _ h9 => h9) rfl d_Ref_falls_87 ?_
          refine Go.aload_n hx hb 0 rfl d_Ref_falls_90 ?_
          refine Go.get (v := .ref (ad 8)) hx hb hts in_Ref hown hK 0 (Rw_0 ad ca _) rfl 12 (by decide) (hts _ k_627) (fun _ h9 => h9) rfl d_Ref_falls_91 ?_
          refine Go.aload_n hx hb 0 rfl d_Ref_falls_94 ?_
          refine Go.get (v := .int ((gI s1 5) - 1)) hx hb hts in_Ref hown hK 0 (Rw_0 ad ca _) rfl 13 (by decide) (hts _ k_628) (fun _ h9 => h9) rfl d_Ref_falls_95 ?_
          obtain ⟨c98, h⟩ := gg_some h
          refine Go.iald (v := gA s1 7 ((gI s1 5) - 1).toNatClampNeg) hx hb hK 8 7 (Rw_8 ad ca _) rfl c98 rfl d_Ref_falls_98 ?_
          refine Go.icmp_ge (tgt := 109) hx hb d_Ref_falls_99 rfl (fun c99 => ?_) (fun c99 => ?_)
          · replace h := (if_pos c99).symm.trans h
            refine Go.aload_n hx hb 0 rfl d_Ref_falls_109 ?_
            refine Go.get (v := .ref (ad 8)) hx hb hts in_Ref hown hK 0 (Rw_0 ad ca _) rfl 12 (by decide) (hts _ k_627) (fun _ h9 => h9) rfl d_Ref_falls_110 ?_
            refine Go.aload_n hx hb 0 rfl d_Ref_falls_113 ?_
            refine Go.get (v := .int ((gI s1 5) - 1)) hx hb hts in_Ref hown hK 0 (Rw_0 ad ca _) rfl 13 (by decide) (hts _ k_628) (fun _ h9 => h9) rfl d_Ref_falls_114 ?_
            obtain ⟨c117, h⟩ := gg_some h
            refine Go.iald (v := gA s1 7 ((gI s1 5) - 1).toNatClampNeg) hx hb hK 8 7 (Rw_8 ad ca _) rfl c117 rfl d_Ref_falls_117 ?_
            refine Go.put (ty := (.int)) hx hb hts in_Ref ty_Ref tyok_Ref nm_Ref hown hK 0 (Rw_0 ad ca _) rfl 8 (by decide) (hts _ k_623) (fun _ h9 => h9) rfl (by decide +kernel) rfl rfl (Nat.le_of_ble_eq_true rfl) (uI (uI s1 5 ((gI s1 5) - 1)) 4 (gA s1 7 ((gI s1 5) - 1).toNatClampNeg)) (Rs_I4 ad ca _ _) d_Ref_falls_118 ?_
            refine Go.aload_n hx hb 0 rfl d_Ref_falls_121 ?_
            refine Go.iload_n hx hb 1 rfl d_Ref_falls_122 ?_
            refine Go.iload_n hx hb 2 rfl d_Ref_falls_123 ?_
            obtain ⟨_, s2, q2, h⟩ := gb_some h
            refine Go.callVv S hK hA 0 (Rw_0 ad ca _) rfl (fun sz9 => m_Ref_acc l D ad ca N _ sz9 _ _ _ s2 q2) (cwV 2 hts (gwV k_739 k_741 k_38 k_67 k_742) rfl rfl rfl (by decide +kernel) ⟨Nat.le_of_ble_eq_true rfl, Nat.le_of_ble_eq_true rfl⟩) rfl rfl (Nat.le_of_ble_eq_true rfl) ⟨Nat.zero_le _, Nat.zero_le _⟩ d_Ref_falls_124 ?_
            refine Go.aload_n hx hb 0 rfl d_Ref_falls_127 ?_
            refine Go.aload_n hx hb 0 rfl d_Ref_falls_128 ?_
            refine Go.get (v := .ref (ad 7)) hx hb hts in_Ref hown hK 0 (Rw_0 ad ca _) rfl 11 (by decide) (hts _ k_626) (fun _ h9 => h9) rfl d_Ref_falls_129 ?_
            refine Go.aload_n hx hb 0 rfl d_Ref_falls_132 ?_
            refine Go.get (v := .int (gI s2 5)) hx hb hts in_Ref hown hK 0 (Rw_0 ad ca _) rfl 13 (by decide) (hts _ k_628) (fun _ h9 => h9) rfl d_Ref_falls_133 ?_
            obtain ⟨c136, h⟩ := gg_some h
            refine Go.iald (v := gA s2 6 (gI s2 5).toNatClampNeg) hx hb hK 7 6 (Rw_7 ad ca _) rfl c136 rfl d_Ref_falls_136 ?_
            refine Go.put (ty := (.int)) hx hb hts in_Ref ty_Ref tyok_Ref nm_Ref hown hK 0 (Rw_0 ad ca _) rfl 19 (by decide) (hts _ k_634) (fun _ h9 => h9) rfl (by decide +kernel) rfl rfl (Nat.le_of_ble_eq_true rfl) (uI s2 6 (gA s2 6 (gI s2 5).toNatClampNeg)) (Rs_I6 ad ca _ _) d_Ref_falls_137 ?_
            exact Go.vret hx hb hr hK hlk h d_Ref_falls_140
          · replace h := (if_neg c99).symm.trans h
            refine Go.aload_n hx hb 0 rfl d_Ref_falls_102 ?_
            refine Go.get (v := .int (gI s1 4)) hx hb hts in_Ref hown hK 0 (Rw_0 ad ca _) rfl 8 (by decide) (hts _ k_623) (fun _ h9 => h9) rfl d_Ref_falls_103 ?_
            refine Go.goto (tgt := 118) hx hb d_Ref_falls_106 rfl ?_
            refine Go.put (ty := (.int)) hx hb hts in_Ref ty_Ref tyok_Ref nm_Ref hown hK 0 (Rw_0 ad ca _) rfl 8 (by decide) (hts _ k_623) (fun _ h9 => h9) rfl (by decide +kernel) rfl rfl (Nat.le_of_ble_eq_true rfl) (uI (uI s1 5 ((gI s1 5) - 1)) 4 (gI s1 4)) (Rs_I4 ad ca _ _) d_Ref_falls_118 ?_
            refine Go.aload_n hx hb 0 rfl d_Ref_falls_121 ?_
            refine Go.iload_n hx hb 1 rfl d_Ref_falls_122 ?_
            refine Go.iload_n hx hb 2 rfl d_Ref_falls_123 ?_
            obtain ⟨_, s3, q3, h⟩ := gb_some h
            refine Go.callVv S hK hA 0 (Rw_0 ad ca _) rfl (fun sz9 => m_Ref_acc l D ad ca N _ sz9 _ _ _ s3 q3) (cwV 2 hts (gwV k_739 k_741 k_38 k_67 k_742) rfl rfl rfl (by decide +kernel) ⟨Nat.le_of_ble_eq_true rfl, Nat.le_of_ble_eq_true rfl⟩) rfl rfl (Nat.le_of_ble_eq_true rfl) ⟨Nat.zero_le _, Nat.zero_le _⟩ d_Ref_falls_124 ?_
            refine Go.aload_n hx hb 0 rfl d_Ref_falls_127 ?_
            refine Go.aload_n hx hb 0 rfl d_Ref_falls_128 ?_
            refine Go.get (v := .ref (ad 7)) hx hb hts in_Ref hown hK 0 (Rw_0 ad ca _) rfl 11 (by decide) (hts _ k_626) (fun _ h9 => h9) rfl d_Ref_falls_129 ?_
            refine Go.aload_n hx hb 0 rfl d_Ref_falls_132 ?_
            refine Go.get (v := .int (gI s3 5)) hx hb hts in_Ref hown hK 0 (Rw_0 ad ca _) rfl 13 (by decide) (hts _ k_628) (fun _ h9 => h9) rfl d_Ref_falls_133 ?_
            obtain ⟨c136, h⟩ := gg_some h
            refine Go.iald (v := gA s3 6 (gI s3 5).toNatClampNeg) hx hb hK 7 6 (Rw_7 ad ca _) rfl c136 rfl d_Ref_falls_136 ?_
            refine Go.put (ty := (.int)) hx hb hts in_Ref ty_Ref tyok_Ref nm_Ref hown hK 0 (Rw_0 ad ca _) rfl 19 (by decide) (hts _ k_634) (fun _ h9 => h9) rfl (by decide +kernel) rfl rfl (Nat.le_of_ble_eq_true rfl) (uI s3 6 (gA s3 6 (gI s3 5).toNatClampNeg)) (Rs_I6 ad ca _ _) d_Ref_falls_137 ?_
            exact Go.vret hx hb hr hK hlk h d_Ref_falls_140
        · replace h := (if_pos c56).symm.trans h
          refine Go.aload_n hx hb 0 rfl d_Ref_falls_59 ?_
          refine Go.iconst (v := 1) hx hb (by decide) d_Ref_falls_60 ?_
          refine Go.put (ty := (.boolean)) hx hb hts in_Ref ty_Ref tyok_Ref nm_Ref hown hK 0 (Rw_0 ad ca _) rfl 20 (by decide) (hts _ k_635) (fun _ h9 => h9) rfl (by decide +kernel) rfl rfl (Nat.le_of_ble_eq_true rfl) (uI s1 7 1) (Rs_I7 ad ca _ _) d_Ref_falls_61 ?_
          refine Go.aload_n hx hb 0 rfl d_Ref_falls_64 ?_
          refine Go.iload_n hx hb 1 rfl d_Ref_falls_65 ?_
          refine Go.put (ty := (.int)) hx hb hts in_Ref ty_Ref tyok_Ref nm_Ref hown hK 0 (Rw_0 ad ca _) rfl 21 (by decide) (hts _ k_636) (fun _ h9 => h9) rfl (by decide +kernel) rfl rfl (Nat.le_of_ble_eq_true rfl) (uI (uI s1 7 1) 8 v1) (Rs_I8 ad ca _ _) d_Ref_falls_66 ?_
          refine Go.aload_n hx hb 0 rfl d_Ref_falls_69 ?_
          refine Go.iload_n hx hb 2 rfl d_Ref_falls_70 ?_
          refine Go.put (ty := (.int)) hx hb hts in_Ref ty_Ref tyok_Ref nm_Ref hown hK 0 (Rw_0 ad ca _) rfl 22 (by decide) (hts _ k_637) (fun _ h9 => h9) rfl (by decide +kernel) rfl rfl (Nat.le_of_ble_eq_true rfl) (uI (uI (uI s1 7 1) 8 v1) 9 v2) (Rs_I9 ad ca _ _) d_Ref_falls_71 ?_
          exact Go.vret hx hb hr hK hlk h d_Ref_falls_74
      · replace h := (if_neg c14).symm.trans h
        refine Go.aload_n hx hb 0 rfl d_Ref_falls_17 ?_
        refine Go.get (v := .ref (ad 8)) hx hb hts in_Ref hown hK 0 (Rw_0 ad ca _) rfl 12 (by decide) (hts _ k_627) (fun _ h9 => h9) rfl d_Ref_falls_18 ?_
        refine Go.aload_n hx hb 0 rfl d_Ref_falls_21 ?_
        refine Go.get (v := .int (gI st 5)) hx hb hts in_Ref hown hK 0 (Rw_0 ad ca _) rfl 13 (by decide) (hts _ k_628) (fun _ h9 => h9) rfl d_Ref_falls_22 ?_
        refine Go.iconst (v := 1) hx hb (by decide) d_Ref_falls_25 ?_
        refine Go.isub hx hb d_Ref_falls_26 ?_
        obtain ⟨c27, h⟩ := gg_some h
        refine Go.iald (v := gA st 7 ((gI st 5) - 1).toNatClampNeg) hx hb hK 8 7 (Rw_8 ad ca _) rfl c27 rfl d_Ref_falls_27 ?_
        refine Go.iconst (v := (-1)) hx hb (by decide) d_Ref_falls_28 ?_
        refine Go.icmp_ne (tgt := 52) hx hb d_Ref_falls_29 rfl (fun c29 => ?_) (fun c29 => ?_)
        · replace h := (if_neg c29).symm.trans h
          refine Go.aload_n hx hb 0 rfl d_Ref_falls_52 ?_
          obtain ⟨r4, s4, q4, h⟩ := gb_some h
          refine Go.callVi S hK hA 0 (Rw_0 ad ca _) rfl (fun sz9 => m_Ref_hasTrap l D ad ca N _ sz9 r4 s4 q4) (cwV 0 hts (gwV k_735 k_737 k_37 k_67 k_738) rfl rfl rfl (by decide +kernel) ⟨Nat.le_of_ble_eq_true rfl, Nat.le_of_ble_eq_true rfl⟩) rfl rfl (Nat.le_of_ble_eq_true rfl) ⟨Nat.zero_le _, Nat.zero_le _⟩ d_Ref_falls_53 ?_
          refine Go.if_ne (tgt := 75) hx hb d_Ref_falls_56 rfl (fun c56 => ?_) (fun c56 => ?_)
          · replace h := (if_neg c56).symm.trans h
            refine Go.aload_n hx hb 0 rfl d_Ref_falls_75 ?_
            refine Go.dup hx hb rfl d_Ref_falls_76 ?_
            refine Go.get (v := .int (gI s4 5)) hx hb hts in_Ref hown hK 0 (Rw_0 ad ca _) rfl 13 (by decide) (hts _ k_628) (fun _ h9 => h9) rfl d_Ref_falls_77 ?_
            refine Go.iconst (v := 1) hx hb (by decide) d_Ref_falls_80 ?_
            refine Go.isub hx hb d_Ref_falls_81 ?_
            refine Go.put (ty := (.int)) hx hb hts in_Ref ty_Ref tyok_Ref nm_Ref hown hK 0 (Rw_0 ad ca _) rfl 13 (by decide) (hts _ k_628) (fun _ h9 => h9) rfl (by decide +kernel) rfl rfl (Nat.le_of_ble_eq_true rfl) (uI s4 5 ((gI s4 5) - 1)) (Rs_I5 ad ca _ _) d_Ref_falls_82 ?_
            refine Go.aload_n hx hb 0 rfl d_Ref_falls_85 ?_
            refine Go.aload_n hx hb 0 rfl d_Ref_falls_86 ?_
            refine Go.get (v := .int (gI s4 4)) hx hb hts in_Ref hown hK 0 (Rw_0 ad ca _) rfl 8 (by decide) (hts _ k_623) (fun _ h9 => h9) rfl d_Ref_falls_87 ?_
            refine Go.aload_n hx hb 0 rfl d_Ref_falls_90 ?_
            refine Go.get (v := .ref (ad 8)) hx hb hts in_Ref hown hK 0 (Rw_0 ad ca _) rfl 12 (by decide) (hts _ k_627) (fun _ h9 => h9) rfl d_Ref_falls_91 ?_
            refine Go.aload_n hx hb 0 rfl d_Ref_falls_94 ?_
            refine Go.get (v := .int ((gI s4 5) - 1)) hx hb hts in_Ref hown hK 0 (Rw_0 ad ca _) rfl 13 (by decide) (hts _ k_628) (fun _ h9 => h9) rfl d_Ref_falls_95 ?_
            obtain ⟨c98, h⟩ := gg_some h
            refine Go.iald (v := gA s4 7 ((gI s4 5) - 1).toNatClampNeg) hx hb hK 8 7 (Rw_8 ad ca _) rfl c98 rfl d_Ref_falls_98 ?_
            refine Go.icmp_ge (tgt := 109) hx hb d_Ref_falls_99 rfl (fun c99 => ?_) (fun c99 => ?_)
            · replace h := (if_pos c99).symm.trans h
              refine Go.aload_n hx hb 0 rfl d_Ref_falls_109 ?_
              refine Go.get (v := .ref (ad 8)) hx hb hts in_Ref hown hK 0 (Rw_0 ad ca _) rfl 12 (by decide) (hts _ k_627) (fun _ h9 => h9) rfl d_Ref_falls_110 ?_
              refine Go.aload_n hx hb 0 rfl d_Ref_falls_113 ?_
              refine Go.get (v := .int ((gI s4 5) - 1)) hx hb hts in_Ref hown hK 0 (Rw_0 ad ca _) rfl 13 (by decide) (hts _ k_628) (fun _ h9 => h9) rfl d_Ref_falls_114 ?_
              obtain ⟨c117, h⟩ := gg_some h
              refine Go.iald (v := gA s4 7 ((gI s4 5) - 1).toNatClampNeg) hx hb hK 8 7 (Rw_8 ad ca _) rfl c117 rfl d_Ref_falls_117 ?_
              refine Go.put (ty := (.int)) hx hb hts in_Ref ty_Ref tyok_Ref nm_Ref hown hK 0 (Rw_0 ad ca _) rfl 8 (by decide) (hts _ k_623) (fun _ h9 => h9) rfl (by decide +kernel) rfl rfl (Nat.le_of_ble_eq_true rfl) (uI (uI s4 5 ((gI s4 5) - 1)) 4 (gA s4 7 ((gI s4 5) - 1).toNatClampNeg)) (Rs_I4 ad ca _ _) d_Ref_falls_118 ?_
              refine Go.aload_n hx hb 0 rfl d_Ref_falls_121 ?_
              refine Go.iload_n hx hb 1 rfl d_Ref_falls_122 ?_
              refine Go.iload_n hx hb 2 rfl d_Ref_falls_123 ?_
              obtain ⟨_, s5, q5, h⟩ := gb_some h
              refine Go.callVv S hK hA 0 (Rw_0 ad ca _) rfl (fun sz9 => m_Ref_acc l D ad ca N _ sz9 _ _ _ s5 q5) (cwV 2 hts (gwV k_739 k_741 k_38 k_67 k_742) rfl rfl rfl (by decide +kernel) ⟨Nat.le_of_ble_eq_true rfl, Nat.le_of_ble_eq_true rfl⟩) rfl rfl (Nat.le_of_ble_eq_true rfl) ⟨Nat.zero_le _, Nat.zero_le _⟩ d_Ref_falls_124 ?_
              refine Go.aload_n hx hb 0 rfl d_Ref_falls_127 ?_
              refine Go.aload_n hx hb 0 rfl d_Ref_falls_128 ?_
              refine Go.get (v := .ref (ad 7)) hx hb hts in_Ref hown hK 0 (Rw_0 ad ca _) rfl 11 (by decide) (hts _ k_626) (fun _ h9 => h9) rfl d_Ref_falls_129 ?_
              refine Go.aload_n hx hb 0 rfl d_Ref_falls_132 ?_
              refine Go.get (v := .int (gI s5 5)) hx hb hts in_Ref hown hK 0 (Rw_0 ad ca _) rfl 13 (by decide) (hts _ k_628) (fun _ h9 => h9) rfl d_Ref_falls_133 ?_
              obtain ⟨c136, h⟩ := gg_some h
              refine Go.iald (v := gA s5 6 (gI s5 5).toNatClampNeg) hx hb hK 7 6 (Rw_7 ad ca _) rfl c136 rfl d_Ref_falls_136 ?_
              refine Go.put (ty := (.int)) hx hb hts in_Ref ty_Ref tyok_Ref nm_Ref hown hK 0 (Rw_0 ad ca _) rfl 19 (by decide) (hts _ k_634) (fun _ h9 => h9) rfl (by decide +kernel) rfl rfl (Nat.le_of_ble_eq_true rfl) (uI s5 6 (gA s5 6 (gI s5 5).toNatClampNeg)) (Rs_I6 ad ca _ _) d_Ref_falls_137 ?_
              exact Go.vret hx hb hr hK hlk h d_Ref_falls_140
            · replace h := (if_neg c99).symm.trans h
              refine Go.aload_n hx hb 0 rfl d_Ref_falls_102 ?_
              refine Go.get (v := .int (gI s4 4)) hx hb hts in_Ref hown hK 0 (Rw_0 ad ca _) rfl 8 (by decide) (hts _ k_623) (fun _ h9 => h9) rfl d_Ref_falls_103 ?_
              refine Go.goto (tgt := 118) hx hb d_Ref_falls_106 rfl ?_
              refine Go.put (ty := (.int)) hx hb hts in_Ref ty_Ref tyok_Ref nm_Ref hown hK 0 (Rw_0 ad ca _) rfl 8 (by decide) (hts _ k_623) (fun _ h9 => h9) rfl (by decide +kernel) rfl rfl (Nat.le_of_ble_eq_true rfl) (uI (uI s4 5 ((gI s4 5) - 1)) 4 (gI s4 4)) (Rs_I4 ad ca _ _) d_Ref_falls_118 ?_
              refine Go.aload_n hx hb 0 rfl d_Ref_falls_121 ?_
              refine Go.iload_n hx hb 1 rfl d_Ref_falls_122 ?_
              refine Go.iload_n hx hb 2 rfl d_Ref_falls_123 ?_
              obtain ⟨_, s6, q6, h⟩ := gb_some h
              refine Go.callVv S hK hA 0 (Rw_0 ad ca _) rfl (fun sz9 => m_Ref_acc l D ad ca N _ sz9 _ _ _ s6 q6) (cwV 2 hts (gwV k_739 k_741 k_38 k_67 k_742) rfl rfl rfl (by decide +kernel) ⟨Nat.le_of_ble_eq_true rfl, Nat.le_of_ble_eq_true rfl⟩) rfl rfl (Nat.le_of_ble_eq_true rfl) ⟨Nat.zero_le _, Nat.zero_le _⟩ d_Ref_falls_124 ?_
              refine Go.aload_n hx hb 0 rfl d_Ref_falls_127 ?_
              refine Go.aload_n hx hb 0 rfl d_Ref_falls_128 ?_
              refine Go.get (v := .ref (ad 7)) hx hb hts in_Ref hown hK 0 (Rw_0 ad ca _) rfl 11 (by decide) (hts _ k_626) (fun _ h9 => h9) rfl d_Ref_falls_129 ?_
              refine Go.aload_n hx hb 0 rfl d_Ref_falls_132 ?_
              refine Go.get (v := .int (gI s6 5)) hx hb hts in_Ref hown hK 0 (Rw_0 ad ca _) rfl 13 (by decide) (hts _ k_628) (fun _ h9 => h9) rfl d_Ref_falls_133 ?_
              obtain ⟨c136, h⟩ := gg_some h
              refine Go.iald (v := gA s6 6 (gI s6 5).toNatClampNeg) hx hb hK 7 6 (Rw_7 ad ca _) rfl c136 rfl d_Ref_falls_136 ?_
              refine Go.put (ty := (.int)) hx hb hts in_Ref ty_Ref tyok_Ref nm_Ref hown hK 0 (Rw_0 ad ca _) rfl 19 (by decide) (hts _ k_634) (fun _ h9 => h9) rfl (by decide +kernel) rfl rfl (Nat.le_of_ble_eq_true rfl) (uI s6 6 (gA s6 6 (gI s6 5).toNatClampNeg)) (Rs_I6 ad ca _ _) d_Ref_falls_137 ?_
              exact Go.vret hx hb hr hK hlk h d_Ref_falls_140
          · replace h := (if_pos c56).symm.trans h
            refine Go.aload_n hx hb 0 rfl d_Ref_falls_59 ?_
            refine Go.iconst (v := 1) hx hb (by decide) d_Ref_falls_60 ?_
            refine Go.put (ty := (.boolean)) hx hb hts in_Ref ty_Ref tyok_Ref nm_Ref hown hK 0 (Rw_0 ad ca _) rfl 20 (by decide) (hts _ k_635) (fun _ h9 => h9) rfl (by decide +kernel) rfl rfl (Nat.le_of_ble_eq_true rfl) (uI s4 7 1) (Rs_I7 ad ca _ _) d_Ref_falls_61 ?_
            refine Go.aload_n hx hb 0 rfl d_Ref_falls_64 ?_
            refine Go.iload_n hx hb 1 rfl d_Ref_falls_65 ?_
            refine Go.put (ty := (.int)) hx hb hts in_Ref ty_Ref tyok_Ref nm_Ref hown hK 0 (Rw_0 ad ca _) rfl 21 (by decide) (hts _ k_636) (fun _ h9 => h9) rfl (by decide +kernel) rfl rfl (Nat.le_of_ble_eq_true rfl) (uI (uI s4 7 1) 8 v1) (Rs_I8 ad ca _ _) d_Ref_falls_66 ?_
            refine Go.aload_n hx hb 0 rfl d_Ref_falls_69 ?_
            refine Go.iload_n hx hb 2 rfl d_Ref_falls_70 ?_
            refine Go.put (ty := (.int)) hx hb hts in_Ref ty_Ref tyok_Ref nm_Ref hown hK 0 (Rw_0 ad ca _) rfl 22 (by decide) (hts _ k_637) (fun _ h9 => h9) rfl (by decide +kernel) rfl rfl (Nat.le_of_ble_eq_true rfl) (uI (uI (uI s4 7 1) 8 v1) 9 v2) (Rs_I9 ad ca _ _) d_Ref_falls_71 ?_
            exact Go.vret hx hb hr hK hlk h d_Ref_falls_74
        · replace h := (if_pos c29).symm.trans h
          refine Go.aload_n hx hb 0 rfl d_Ref_falls_32 ?_
          obtain ⟨r7, s7, q7, h⟩ := gb_some h
          refine Go.callVi S hK hA 0 (Rw_0 ad ca _) rfl (fun sz9 => m_Ref_hasTrap l D ad ca N _ sz9 r7 s7 q7) (cwV 0 hts (gwV k_735 k_737 k_37 k_67 k_738) rfl rfl rfl (by decide +kernel) ⟨Nat.le_of_ble_eq_true rfl, Nat.le_of_ble_eq_true rfl⟩) rfl rfl (Nat.le_of_ble_eq_true rfl) ⟨Nat.zero_le _, Nat.zero_le _⟩ d_Ref_falls_33 ?_
          refine Go.if_eq (tgt := 52) hx hb d_Ref_falls_36 rfl (fun c36 => ?_) (fun c36 => ?_)
          · replace h := (if_pos c36).symm.trans h
            refine Go.aload_n hx hb 0 rfl d_Ref_falls_52 ?_
            obtain ⟨r8, s8, q8, h⟩ := gb_some h
            refine Go.callVi S hK hA 0 (Rw_0 ad ca _) rfl (fun sz9 => m_Ref_hasTrap l D ad ca N _ sz9 r8 s8 q8) (cwV 0 hts (gwV k_735 k_737 k_37 k_67 k_738) rfl rfl rfl (by decide +kernel) ⟨Nat.le_of_ble_eq_true rfl, Nat.le_of_ble_eq_true rfl⟩) rfl rfl (Nat.le_of_ble_eq_true rfl) ⟨Nat.zero_le _, Nat.zero_le _⟩ d_Ref_falls_53 ?_
            refine Go.if_ne (tgt := 75) hx hb d_Ref_falls_56 rfl (fun c56 => ?_) (fun c56 => ?_)
            · replace h := (if_neg c56).symm.trans h
              refine Go.aload_n hx hb 0 rfl d_Ref_falls_75 ?_
              refine Go.dup hx hb rfl d_Ref_falls_76 ?_
              refine Go.get (v := .int (gI s8 5)) hx hb hts in_Ref hown hK 0 (Rw_0 ad ca _) rfl 13 (by decide) (hts _ k_628) (fun _ h9 => h9) rfl d_Ref_falls_77 ?_
              refine Go.iconst (v := 1) hx hb (by decide) d_Ref_falls_80 ?_
              refine Go.isub hx hb d_Ref_falls_81 ?_
              refine Go.put (ty := (.int)) hx hb hts in_Ref ty_Ref tyok_Ref nm_Ref hown hK 0 (Rw_0 ad ca _) rfl 13 (by decide) (hts _ k_628) (fun _ h9 => h9) rfl (by decide +kernel) rfl rfl (Nat.le_of_ble_eq_true rfl) (uI s8 5 ((gI s8 5) - 1)) (Rs_I5 ad ca _ _) d_Ref_falls_82 ?_
              refine Go.aload_n hx hb 0 rfl d_Ref_falls_85 ?_
              refine Go.aload_n hx hb 0 rfl d_Ref_falls_86 ?_
              refine Go.get (v := .int (gI s8 4)) hx hb hts in_Ref hown hK 0 (Rw_0 ad ca _) rfl 8 (by decide) (hts _ k_623) (fun _ h9 => h9) rfl d_Ref_falls_87 ?_
              refine Go.aload_n hx hb 0 rfl d_Ref_falls_90 ?_
              refine Go.get (v := .ref (ad 8)) hx hb hts in_Ref hown hK 0 (Rw_0 ad ca _) rfl 12 (by decide) (hts _ k_627) (fun _ h9 => h9) rfl d_Ref_falls_91 ?_
              refine Go.aload_n hx hb 0 rfl d_Ref_falls_94 ?_
              refine Go.get (v := .int ((gI s8 5) - 1)) hx hb hts in_Ref hown hK 0 (Rw_0 ad ca _) rfl 13 (by decide) (hts _ k_628) (fun _ h9 => h9) rfl d_Ref_falls_95 ?_
              obtain ⟨c98, h⟩ := gg_some h
              refine Go.iald (v := gA s8 7 ((gI s8 5) - 1).toNatClampNeg) hx hb hK 8 7 (Rw_8 ad ca _) rfl c98 rfl d_Ref_falls_98 ?_
              refine Go.icmp_ge (tgt := 109) hx hb d_Ref_falls_99 rfl (fun c99 => ?_) (fun c99 => ?_)
              · replace h := (if_pos c99).symm.trans h
                refine Go.aload_n hx hb 0 rfl d_Ref_falls_109 ?_
                refine Go.get (v := .ref (ad 8)) hx hb hts in_Ref hown hK 0 (Rw_0 ad ca _) rfl 12 (by decide) (hts _ k_627) (fun _ h9 => h9) rfl d_Ref_falls_110 ?_
                refine Go.aload_n hx hb 0 rfl d_Ref_falls_113 ?_
                refine Go.get (v := .int ((gI s8 5) - 1)) hx hb hts in_Ref hown hK 0 (Rw_0 ad ca _) rfl 13 (by decide) (hts _ k_628) (fun _ h9 => h9) rfl d_Ref_falls_114 ?_
                obtain ⟨c117, h⟩ := gg_some h
                refine Go.iald (v := gA s8 7 ((gI s8 5) - 1).toNatClampNeg) hx hb hK 8 7 (Rw_8 ad ca _) rfl c117 rfl d_Ref_falls_117 ?_
                refine Go.put (ty := (.int)) hx hb hts in_Ref ty_Ref tyok_Ref nm_Ref hown hK 0 (Rw_0 ad ca _) rfl 8 (by decide) (hts _ k_623) (fun _ h9 => h9) rfl (by decide +kernel) rfl rfl (Nat.le_of_ble_eq_true rfl) (uI (uI s8 5 ((gI s8 5) - 1)) 4 (gA s8 7 ((gI s8 5) - 1).toNatClampNeg)) (Rs_I4 ad ca _ _) d_Ref_falls_118 ?_
                refine Go.aload_n hx hb 0 rfl d_Ref_falls_121 ?_
                refine Go.iload_n hx hb 1 rfl d_Ref_falls_122 ?_
                refine Go.iload_n hx hb 2 rfl d_Ref_falls_123 ?_
                obtain ⟨_, s9, q9, h⟩ := gb_some h
                refine Go.callVv S hK hA 0 (Rw_0 ad ca _) rfl (fun sz9 => m_Ref_acc l D ad ca N _ sz9 _ _ _ s9 q9) (cwV 2 hts (gwV k_739 k_741 k_38 k_67 k_742) rfl rfl rfl (by decide +kernel) ⟨Nat.le_of_ble_eq_true rfl, Nat.le_of_ble_eq_true rfl⟩) rfl rfl (Nat.le_of_ble_eq_true rfl) ⟨Nat.zero_le _, Nat.zero_le _⟩ d_Ref_falls_124 ?_
                refine Go.aload_n hx hb 0 rfl d_Ref_falls_127 ?_
                refine Go.aload_n hx hb 0 rfl d_Ref_falls_128 ?_
                refine Go.get (v := .ref (ad 7)) hx hb hts in_Ref hown hK 0 (Rw_0 ad ca _) rfl 11 (by decide) (hts _ k_626) (fun _ h9 => h9) rfl d_Ref_falls_129 ?_
                refine Go.aload_n hx hb 0 rfl d_Ref_falls_132 ?_
                refine Go.get (v := .int (gI s9 5)) hx hb hts in_Ref hown hK 0 (Rw_0 ad ca _) rfl 13 (by decide) (hts _ k_628) (fun _ h9 => h9) rfl d_Ref_falls_133 ?_
                obtain ⟨c136, h⟩ := gg_some h
                refine Go.iald (v := gA s9 6 (gI s9 5).toNatClampNeg) hx hb hK 7 6 (Rw_7 ad ca _) rfl c136 rfl d_Ref_falls_136 ?_
                refine Go.put (ty := (.int)) hx hb hts in_Ref ty_Ref tyok_Ref nm_Ref hown hK 0 (Rw_0 ad ca _) rfl 19 (by decide) (hts _ k_634) (fun _ h9 => h9) rfl (by decide +kernel) rfl rfl (Nat.le_of_ble_eq_true rfl) (uI s9 6 (gA s9 6 (gI s9 5).toNatClampNeg)) (Rs_I6 ad ca _ _) d_Ref_falls_137 ?_
                exact Go.vret hx hb hr hK hlk h d_Ref_falls_140
              · replace h := (if_neg c99).symm.trans h
                refine Go.aload_n hx hb 0 rfl d_Ref_falls_102 ?_
                refine Go.get (v := .int (gI s8 4)) hx hb hts in_Ref hown hK 0 (Rw_0 ad ca _) rfl 8 (by decide) (hts _ k_623) (fun _ h9 => h9) rfl d_Ref_falls_103 ?_
                refine Go.goto (tgt := 118) hx hb d_Ref_falls_106 rfl ?_
                refine Go.put (ty := (.int)) hx hb hts in_Ref ty_Ref tyok_Ref nm_Ref hown hK 0 (Rw_0 ad ca _) rfl 8 (by decide) (hts _ k_623) (fun _ h9 => h9) rfl (by decide +kernel) rfl rfl (Nat.le_of_ble_eq_true rfl) (uI (uI s8 5 ((gI s8 5) - 1)) 4 (gI s8 4)) (Rs_I4 ad ca _ _) d_Ref_falls_118 ?_
                refine Go.aload_n hx hb 0 rfl d_Ref_falls_121 ?_
                refine Go.iload_n hx hb 1 rfl d_Ref_falls_122 ?_
                refine Go.iload_n hx hb 2 rfl d_Ref_falls_123 ?_
                obtain ⟨_, s10, q10, h⟩ := gb_some h
                refine Go.callVv S hK hA 0 (Rw_0 ad ca _) rfl (fun sz9 => m_Ref_acc l D ad ca N _ sz9 _ _ _ s10 q10) (cwV 2 hts (gwV k_739 k_741 k_38 k_67 k_742) rfl rfl rfl (by decide +kernel) ⟨Nat.le_of_ble_eq_true rfl, Nat.le_of_ble_eq_true rfl⟩) rfl rfl (Nat.le_of_ble_eq_true rfl) ⟨Nat.zero_le _, Nat.zero_le _⟩ d_Ref_falls_124 ?_
                refine Go.aload_n hx hb 0 rfl d_Ref_falls_127 ?_
                refine Go.aload_n hx hb 0 rfl d_Ref_falls_128 ?_
                refine Go.get (v := .ref (ad 7)) hx hb hts in_Ref hown hK 0 (Rw_0 ad ca _) rfl 11 (by decide) (hts _ k_626) (fun _ h9 => h9) rfl d_Ref_falls_129 ?_
                refine Go.aload_n hx hb 0 rfl d_Ref_falls_132 ?_
                refine Go.get (v := .int (gI s10 5)) hx hb hts in_Ref hown hK 0 (Rw_0 ad ca _) rfl 13 (by decide) (hts _ k_628) (fun _ h9 => h9) rfl d_Ref_falls_133 ?_
                obtain ⟨c136, h⟩ := gg_some h
                refine Go.iald (v := gA s10 6 (gI s10 5).toNatClampNeg) hx hb hK 7 6 (Rw_7 ad ca _) rfl c136 rfl d_Ref_falls_136 ?_
                refine Go.put (ty := (.int)) hx hb hts in_Ref ty_Ref tyok_Ref nm_Ref hown hK 0 (Rw_0 ad ca _) rfl 19 (by decide) (hts _ k_634) (fun _ h9 => h9) rfl (by decide +kernel) rfl rfl (Nat.le_of_ble_eq_true rfl) (uI s10 6 (gA s10 6 (gI s10 5).toNatClampNeg)) (Rs_I6 ad ca _ _) d_Ref_falls_137 ?_
                exact Go.vret hx hb hr hK hlk h d_Ref_falls_140
            · replace h := (if_pos c56).symm.trans h
              refine Go.aload_n hx hb 0 rfl d_Ref_falls_59 ?_
              refine Go.iconst (v := 1) hx hb (by decide) d_Ref_falls_60 ?_
              refine Go.put (ty := (.boolean)) hx hb hts in_Ref ty_Ref tyok_Ref nm_Ref hown hK 0 (Rw_0 ad ca _) rfl 20 (by decide) (hts _ k_635) (fun _ h9 => h9) rfl (by decide +kernel) rfl rfl (Nat.le_of_ble_eq_true rfl) (uI s8 7 1) (Rs_I7 ad ca _ _) d_Ref_falls_61 ?_
              refine Go.aload_n hx hb 0 rfl d_Ref_falls_64 ?_
              refine Go.iload_n hx hb 1 rfl d_Ref_falls_65 ?_
              refine Go.put (ty := (.int)) hx hb hts in_Ref ty_Ref tyok_Ref nm_Ref hown hK 0 (Rw_0 ad ca _) rfl 21 (by decide) (hts _ k_636) (fun _ h9 => h9) rfl (by decide +kernel) rfl rfl (Nat.le_of_ble_eq_true rfl) (uI (uI s8 7 1) 8 v1) (Rs_I8 ad ca _ _) d_Ref_falls_66 ?_
              refine Go.aload_n hx hb 0 rfl d_Ref_falls_69 ?_
              refine Go.iload_n hx hb 2 rfl d_Ref_falls_70 ?_
              refine Go.put (ty := (.int)) hx hb hts in_Ref ty_Ref tyok_Ref nm_Ref hown hK 0 (Rw_0 ad ca _) rfl 22 (by decide) (hts _ k_637) (fun _ h9 => h9) rfl (by decide +kernel) rfl rfl (Nat.le_of_ble_eq_true rfl) (uI (uI (uI s8 7 1) 8 v1) 9 v2) (Rs_I9 ad ca _ _) d_Ref_falls_71 ?_
              exact Go.vret hx hb hr hK hlk h d_Ref_falls_74
          · replace h := (if_neg c36).symm.trans h
            refine Go.aload_n hx hb 0 rfl d_Ref_falls_39 ?_
            refine Go.dup hx hb rfl d_Ref_falls_40 ?_
            refine Go.get (v := .int (gI s7 5)) hx hb hts in_Ref hown hK 0 (Rw_0 ad ca _) rfl 13 (by decide) (hts _ k_628) (fun _ h9 => h9) rfl d_Ref_falls_41 ?_
            refine Go.iconst (v := 1) hx hb (by decide) d_Ref_falls_44 ?_
            refine Go.isub hx hb d_Ref_falls_45 ?_
            refine Go.put (ty := (.int)) hx hb hts in_Ref ty_Ref tyok_Ref nm_Ref hown hK 0 (Rw_0 ad ca _) rfl 13 (by decide) (hts _ k_628) (fun _ h9 => h9) rfl (by decide +kernel) rfl rfl (Nat.le_of_ble_eq_true rfl) (uI s7 5 ((gI s7 5) - 1)) (Rs_I5 ad ca _ _) d_Ref_falls_46 ?_
            refine Go.goto (tgt := 10) hx hb d_Ref_falls_49 rfl ?_
            refine Go.sub [0, 1, 2] rfl ?_
            exact ih _ _ _ h
  refine Go.aload_n hx hb 0 rfl d_Ref_falls_0 ?_
  refine Go.dup hx hb rfl d_Ref_falls_1 ?_
  refine Go.get (v := .int (gI st 15)) hx hb hts in_Ref hown hK 0 (Rw_0 ad ca _) rfl 28 (by decide) (hts _ k_643) (fun _ h9 => h9) rfl d_Ref_falls_2 ?_
  refine Go.iconst (v := 1) hx hb (by decide) d_Ref_falls_5 ?_
  refine Go.iadd hx hb d_Ref_falls_6 ?_
  refine Go.put (ty := (.int)) hx hb hts in_Ref ty_Ref tyok_Ref nm_Ref hown hK 0 (Rw_0 ad ca _) rfl 28 (by decide) (hts _ k_643) (fun _ h9 => h9) rfl (by decide +kernel) rfl rfl (Nat.le_of_ble_eq_true rfl) (uI st 15 ((gI st 15) + 1)) (Rs_I15 ad ca _ _) d_Ref_falls_7 ?_
  refine Go.sub [0, 1, 2] rfl ?_
  exact L10 N _ _ _ h
set_option maxHeartbeats 4000000 in
set_option maxRecDepth 100000 in
theorem m_Ref_step (l : Launch) (D : va_G) (ad : Nat → Nat) (ca : Nat → ClassId) (N : Nat) (st : SG) (sz : Nat) (r : Unit) (u : SG) (h : fR_ValueMachineModel_step N st = some (r, u)) : Met l y_Ref_step (Cond.code y_Ref_step c_Ref_step 4 none :: tbl) ({ frames := 4, cells := 0, slots := 0, locals := 92 } : Room) (va_Pc [.ref (ad 0)] (goPre (Rw ad ca) D vwCl (Rtys ca) sz st)) (va_Qv (fun u' => u' = u) (goPost (Rw ad ca) D vwCl (Rtys ca) (va_A (Rw ad ca st) sz)) (va_A (Rw ad ca st) sz)) 0 0 (va_A (Rw ad ca st) sz) := by
  refine go_met (Qc := fun A9 => va_Qv (fun u' => u' = u) (goPost (Rw ad ca) D vwCl (Rtys ca) A9) A9) (cc := c_Ref_step) (maxL := 4) (ret := none) [(0, .ref (ad 0))] (by decide) rfl (Nat.le_of_ble_eq_true rfl) rfl ?_
  intro p e s m below meth c A S hr hlk hK hA hsz
  obtain ⟨hx, hb, hml, hown, hts⟩ := id S
  unfold fR_ValueMachineModel_step at h
  refine Go.aload_n hx hb 0 rfl d_Ref_step_0 ?_
  refine Go.get (v := .ref (ad 1)) hx hb hts in_Ref hown hK 0 (Rw_0 ad ca _) rfl 1 (by decide) (hts _ k_616) (fun _ h9 => h9) rfl d_Ref_step_1 ?_
  refine Go.aload_n hx hb 0 rfl d_Ref_step_4 ?_
  refine Go.get (v := .int (gI st 6)) hx hb hts in_Ref hown hK 0 (Rw_0 ad ca _) rfl 19 (by decide) (hts _ k_634) (fun _ h9 => h9) rfl d_Ref_step_5 ?_
  obtain ⟨c8, h⟩ := gg_some h
  refine Go.iald (v := gA st 0 (gI st 6).toNatClampNeg) hx hb hK 1 0 (Rw_1 ad ca _) rfl c8 rfl d_Ref_step_8 ?_
  refine Go.istore_n (i := 1) (lv' := [(1, .int (gA st 0 (gI st 6).toNatClampNeg)), (0, .ref (ad 0))]) hx hb rfl (Nat.le_of_ble_eq_true rfl) rfl d_Ref_step_9 ?_
  refine Go.aload_n hx hb 1 rfl d_Ref_step_10 ?_
  refine Go.get (v := .ref (ad 2)) hx hb hts in_Ref hown hK 0 (Rw_0 ad ca _) rfl 2 (by decide) (hts _ k_617) (fun _ h9 => h9) rfl d_Ref_step_11 ?_
  refine Go.aload_n hx hb 1 rfl d_Ref_step_14 ?_
  refine Go.get (v := .int (gI st 6)) hx hb hts in_Ref hown hK 0 (Rw_0 ad ca _) rfl 19 (by decide) (hts _ k_634) (fun _ h9 => h9) rfl d_Ref_step_15 ?_
  obtain ⟨c18, h⟩ := gg_some h
  refine Go.iald (v := gA st 1 (gI st 6).toNatClampNeg) hx hb hK 2 1 (Rw_2 ad ca _) rfl c18 rfl d_Ref_step_18 ?_
  refine Go.istore_n (i := 2) (lv' := [(2, .int (gA st 1 (gI st 6).toNatClampNeg)), (1, .int (gA st 0 (gI st 6).toNatClampNeg)), (0, .ref (ad 0))]) hx hb rfl (Nat.le_of_ble_eq_true rfl) rfl d_Ref_step_19 ?_
  refine Go.aload_n hx hb 2 rfl d_Ref_step_20 ?_
  refine Go.iconst (v := 0) hx hb (by decide) d_Ref_step_21 ?_
  refine Go.put (ty := (.int)) hx hb hts in_Ref ty_Ref tyok_Ref nm_Ref hown hK 0 (Rw_0 ad ca _) rfl 29 (by decide) (hts _ k_644) (fun _ h9 => h9) rfl (by decide +kernel) rfl rfl (Nat.le_of_ble_eq_true rfl) (uI st 16 0) (Rs_I16 ad ca _ _) d_Ref_step_22 ?_
  refine Go.aload_n hx hb 2 rfl d_Ref_step_25 ?_
  refine Go.dup hx hb rfl d_Ref_step_26 ?_
  refine Go.get (v := .int (gI st 14)) hx hb hts in_Ref hown hK 0 (Rw_0 ad ca _) rfl 27 (by decide) (hts _ k_642) (fun _ h9 => h9) rfl d_Ref_step_27 ?_
  refine Go.iconst (v := 1) hx hb (by decide) d_Ref_step_30 ?_
  refine Go.iadd hx hb d_Ref_step_31 ?_
  refine Go.put (ty := (.int)) hx hb hts in_Ref ty_Ref tyok_Ref nm_Ref hown hK 0 (Rw_0 ad ca _) rfl 27 (by decide) (hts _ k_642) (fun _ h9 => h9) rfl (by decide +kernel) rfl rfl (Nat.le_of_ble_eq_true rfl) (uI (uI st 16 0) 14 ((gI st 14) + 1)) (Rs_I14 ad ca _ _) d_Ref_step_32 ?_
  refine Go.iconst (v := 0) hx hb (by decide) d_Ref_step_35 ?_
  refine Go.istore_n (i := 3) (lv' := [(3, .int 0), (2, .int (gA st 1 (gI st 6).toNatClampNeg)), (1, .int (gA st 0 (gI st 6).toNatClampNeg)), (0, .ref (ad 0))]) hx hb rfl (Nat.le_of_ble_eq_true rfl) rfl d_Ref_step_36 ?_
  refine Go.iload_n hx hb 2 rfl d_Ref_step_37 ?_
  refine Go.bipush (v := 34) hx hb (by decide) d_Ref_step_38 ?_
  refine Go.icmp_ne (tgt := 56) hx hb d_Ref_step_40 rfl (fun c40 => ?_) (fun c40 => ?_)
  · replace h := (if_neg c40).symm.trans h
    refine Go.iload_n hx hb 2 rfl d_Ref_step_56 ?_
    refine Go.iconst (v := 3) hx hb (by decide) d_Ref_step_57 ?_
    refine Go.icmp_ge (tgt := 70) hx hb d_Ref_step_58 rfl (fun c58 => ?_) (fun c58 => ?_)
    · replace h := (if_pos c58).symm.trans h
      refine Go.iload_n hx hb 2 rfl d_Ref_step_70 ?_
      refine Go.iconst (v := 3) hx hb (by decide) d_Ref_step_71 ?_
      refine Go.icmp_ne (tgt := 84) hx hb d_Ref_step_72 rfl (fun c72 => ?_) (fun c72 => ?_)
      · replace h := (if_neg c72).symm.trans h
        refine Go.iload_n hx hb 2 rfl d_Ref_step_84 ?_
        refine Go.bipush (v := 9) hx hb (by decide) d_Ref_step_85 ?_
        refine Go.icmp_ge (tgt := 99) hx hb d_Ref_step_87 rfl (fun c87 => ?_) (fun c87 => ?_)
        · replace h := (if_pos c87).symm.trans h
          refine Go.iload_n hx hb 2 rfl d_Ref_step_99 ?_
          refine Go.bipush (v := 15) hx hb (by decide) d_Ref_step_100 ?_
          refine Go.icmp_ge (tgt := 114) hx hb d_Ref_step_102 rfl (fun c102 => ?_) (fun c102 => ?_)
          · replace h := (if_pos c102).symm.trans h
            refine Go.iload_n hx hb 2 rfl d_Ref_step_114 ?_
            refine Go.bipush (v := 18) hx hb (by decide) d_Ref_step_115 ?_
            refine Go.icmp_lt (tgt := 134) hx hb d_Ref_step_117 rfl (fun c117 => ?_) (fun c117 => ?_)
            · replace h := (if_pos c117).symm.trans h
              refine Go.iload_n hx hb 2 rfl d_Ref_step_134 ?_
              refine Go.bipush (v := 25) hx hb (by decide) d_Ref_step_135 ?_
              refine Go.icmp_ne (tgt := 160) hx hb d_Ref_step_137 rfl (fun c137 => ?_) (fun c137 => ?_)
              · replace h := (if_neg c137).symm.trans h
                refine Go.iload_n hx hb 2 rfl d_Ref_step_160 ?_
                refine Go.bipush (v := 26) hx hb (by decide) d_Ref_step_161 ?_
                refine Go.icmp_ne (tgt := 178) hx hb d_Ref_step_163 rfl (fun c163 => ?_) (fun c163 => ?_)
                · replace h := (if_neg c163).symm.trans h
                  refine Go.iload_n hx hb 2 rfl d_Ref_step_178 ?_
                  refine Go.bipush (v := 27) hx hb (by decide) d_Ref_step_179 ?_
                  refine Go.icmp_ne (tgt := 191) hx hb d_Ref_step_181 rfl (fun c181 => ?_) (fun c181 => ?_)
                  · replace h := (if_neg c181).symm.trans h
                    refine Go.iload_n hx hb 2 rfl d_Ref_step_191 ?_
                    refine Go.bipush (v := 28) hx hb (by decide) d_Ref_step_192 ?_
                    refine Go.icmp_ne (tgt := 205) hx hb d_Ref_step_194 rfl (fun c194 => ?_) (fun c194 => ?_)
                    · replace h := (if_neg c194).symm.trans h
                      refine Go.iload_n hx hb 2 rfl d_Ref_step_205 ?_
                      refine Go.bipush (v := 29) hx hb (by decide) d_Ref_step_206 ?_
                      refine Go.icmp_ne (tgt := 250) hx hb d_Ref_step_208 rfl (fun c208 => ?_) (fun c208 => ?_)
                      · replace h := (if_neg c208).symm.trans h
                        refine Go.aload_n hx hb 3 rfl d_Ref_step_250 ?_
                        refine Go.iload_n hx hb 2 rfl d_Ref_step_251 ?_
                        refine Go.iload_n hx hb 1 rfl d_Ref_step_252 ?_
                        obtain ⟨r1, s1, q1, h⟩ := gb_some h
                        refine Go.callVi S hK hA 0 (Rw_0 ad ca _) rfl (fun sz9 => m_Ref_goes l D ad ca N _ sz9 _ _ r1 s1 q1) (cwV 2 hts (gwV k_814 k_816 k_56 k_67 k_817) rfl rfl rfl (by decide +kernel) ⟨Nat.le_of_ble_eq_true rfl, Nat.le_of_ble_eq_true rfl⟩) rfl rfl (Nat.le_of_ble_eq_true rfl) ⟨Nat.zero_le _, Nat.zero_le _⟩ d_Ref_step_253 ?_
                        refine Go.istore_n (i := 3) (lv' := [(3, .int r1), (2, .int (gA st 1 (gI st 6).toNatClampNeg)), (1, .int (gA st 0 (gI st 6).toNatClampNeg)), (0, .ref (ad 0))]) hx hb rfl (Nat.le_of_ble_eq_true rfl) rfl d_Ref_step_256 ?_
                        refine Go.aload_n hx hb 3 rfl d_Ref_step_257 ?_
                        refine Go.get (v := .int (gI s1 16)) hx hb hts in_Ref hown hK 0 (Rw_0 ad ca _) rfl 29 (by decide) (hts _ k_644) (fun _ h9 => h9) rfl d_Ref_step_258 ?_
                        refine Go.if_le (tgt := 276) hx hb d_Ref_step_261 rfl (fun c261 => ?_) (fun c261 => ?_)
                        · replace h := (if_pos c261).symm.trans h
                          refine Go.iload_n hx hb 0 rfl d_Ref_step_276 ?_
                          refine Go.if_ne (tgt := 290) hx hb d_Ref_step_277 rfl (fun c277 => ?_) (fun c277 => ?_)
                          · replace h := (if_neg c277).symm.trans h
                            exact Go.vret hx hb hr hK hlk h d_Ref_step_290
                          · replace h := (if_pos c277).symm.trans h
                            refine Go.aload_n hx hb 3 rfl d_Ref_step_280 ?_
                            refine Go.dup hx hb rfl d_Ref_step_281 ?_
                            refine Go.get (v := .int (gI s1 6)) hx hb hts in_Ref hown hK 0 (Rw_0 ad ca _) rfl 19 (by decide) (hts _ k_634) (fun _ h9 => h9) rfl d_Ref_step_282 ?_
                            refine Go.iconst (v := 1) hx hb (by decide) d_Ref_step_285 ?_
                            refine Go.iadd hx hb d_Ref_step_286 ?_
                            refine Go.put (ty := (.int)) hx hb hts in_Ref ty_Ref tyok_Ref nm_Ref hown hK 0 (Rw_0 ad ca _) rfl 19 (by decide) (hts _ k_634) (fun _ h9 => h9) rfl (by decide +kernel) rfl rfl (Nat.le_of_ble_eq_true rfl) (uI s1 6 ((gI s1 6) + 1)) (Rs_I6 ad ca _ _) d_Ref_step_287 ?_
                            exact Go.vret hx hb hr hK hlk h d_Ref_step_290
                        · replace h := (if_neg c261).symm.trans h
                          refine Go.aload_n hx hb 3 rfl d_Ref_step_264 ?_
                          refine Go.iconst (v := 3) hx hb (by decide) d_Ref_step_265 ?_
                          refine Go.aload_n hx hb 3 rfl d_Ref_step_266 ?_
                          refine Go.get (v := .int (gI s1 16)) hx hb hts in_Ref hown hK 0 (Rw_0 ad ca _) rfl 29 (by decide) (hts _ k_644) (fun _ h9 => h9) rfl d_Ref_step_267 ?_
                          obtain ⟨_, s2, q2, h⟩ := gb_some h
                          refine Go.callVv S hK hA 0 (Rw_0 ad ca _) rfl (fun sz9 => m_Ref_falls l D ad ca N _ sz9 _ _ _ s2 q2) (cwV 2 hts (gwV k_731 k_733 k_36 k_67 k_734) rfl rfl rfl (by decide +kernel) ⟨Nat.le_of_ble_eq_true rfl, Nat.le_of_ble_eq_true rfl⟩) rfl rfl (Nat.le_of_ble_eq_true rfl) ⟨Nat.zero_le _, Nat.zero_le _⟩ d_Ref_step_270 ?_
                          refine Go.goto (tgt := 290) hx hb d_Ref_step_273 rfl ?_
                          exact Go.vret hx hb hr hK hlk h d_Ref_step_290
                      · replace h := (if_pos c208).symm.trans h
                        refine Go.aload_n hx hb 3 rfl d_Ref_step_211 ?_
                        refine Go.iload_n hx hb 1 rfl d_Ref_step_212 ?_
                        refine Go.if_lt (tgt := 231) hx hb d_Ref_step_213 rfl (fun c213 => ?_) (fun c213 => ?_)
                        · replace h := (if_pos c213).symm.trans h
                          refine Go.iconst (v := 0) hx hb (by decide) d_Ref_step_231 ?_
                          refine Go.bipush (v := 8) hx hb (by decide) d_Ref_step_232 ?_
                          obtain ⟨r3, s3, q3, h⟩ := gb_some h
                          refine Go.callVi S hK hA 0 (Rw_0 ad ca _) rfl (fun sz9 => m_Ref_needs l D ad ca N _ sz9 _ _ r3 s3 q3) (cwV 2 hts (gwV k_747 k_749 k_40 k_67 k_750) rfl rfl rfl (by decide +kernel) ⟨Nat.le_of_ble_eq_true rfl, Nat.le_of_ble_eq_true rfl⟩) rfl rfl (Nat.le_of_ble_eq_true rfl) ⟨Nat.zero_le _, Nat.zero_le _⟩ d_Ref_step_234 ?_
                          refine Go.if_eq (tgt := 257) hx hb d_Ref_step_237 rfl (fun c237 => ?_) (fun c237 => ?_)
                          · replace h := (if_pos c237).symm.trans h
                            refine Go.aload_n hx hb 3 rfl d_Ref_step_257 ?_
                            refine Go.get (v := .int (gI s3 16)) hx hb hts in_Ref hown hK 0 (Rw_0 ad ca _) rfl 29 (by decide) (hts _ k_644) (fun _ h9 => h9) rfl d_Ref_step_258 ?_
                            refine Go.if_le (tgt := 276) hx hb d_Ref_step_261 rfl (fun c261 => ?_) (fun c261 => ?_)
                            · replace h := (if_pos c261).symm.trans h
                              refine Go.iload_n hx hb 0 rfl d_Ref_step_276 ?_
                              refine Go.if_ne (tgt := 290) hx hb d_Ref_step_277 rfl (fun z9 => absurd (by decide) z9) (fun _ => ?_)
                              refine Go.aload_n hx hb 3 rfl d_Ref_step_280 ?_
                              refine Go.dup hx hb rfl d_Ref_step_281 ?_
                              refine Go.get (v := .int (gI s3 6)) hx hb hts in_Ref hown hK 0 (Rw_0 ad ca _) rfl 19 (by decide) (hts _ k_634) (fun _ h9 => h9) rfl d_Ref_step_282 ?_
                              refine Go.iconst (v := 1) hx hb (by decide) d_Ref_step_285 ?_
                              refine Go.iadd hx hb d_Ref_step_286 ?_
                              refine Go.put (ty := (.int)) hx hb hts in_Ref ty_Ref tyok_Ref nm_Ref hown hK 0 (Rw_0 ad ca _) rfl 19 (by decide) (hts _ k_634) (fun _ h9 => h9) rfl (by decide +kernel) rfl rfl (Nat.le_of_ble_eq_true rfl) (uI s3 6 ((gI s3 6) + 1)) (Rs_I6 ad ca _ _) d_Ref_step_287 ?_
                              exact Go.vret hx hb hr hK hlk h d_Ref_step_290
                            · replace h := (if_neg c261).symm.trans h
                              refine Go.aload_n hx hb 3 rfl d_Ref_step_264 ?_
                              refine Go.iconst (v := 3) hx hb (by decide) d_Ref_step_265 ?_
                              refine Go.aload_n hx hb 3 rfl d_Ref_step_266 ?_
                              refine Go.get (v := .int (gI s3 16)) hx hb hts in_Ref hown hK 0 (Rw_0 ad ca _) rfl 29 (by decide) (hts _ k_644) (fun _ h9 => h9) rfl d_Ref_step_267 ?_
                              obtain ⟨_, s4, q4, h⟩ := gb_some h
                              refine Go.callVv S hK hA 0 (Rw_0 ad ca _) rfl (fun sz9 => m_Ref_falls l D ad ca N _ sz9 _ _ _ s4 q4) (cwV 2 hts (gwV k_731 k_733 k_36 k_67 k_734) rfl rfl rfl (by decide +kernel) ⟨Nat.le_of_ble_eq_true rfl, Nat.le_of_ble_eq_true rfl⟩) rfl rfl (Nat.le_of_ble_eq_true rfl) ⟨Nat.zero_le _, Nat.zero_le _⟩ d_Ref_step_270 ?_
                              refine Go.goto (tgt := 290) hx hb d_Ref_step_273 rfl ?_
                              exact Go.vret hx hb hr hK hlk h d_Ref_step_290
                          · replace h := (if_neg c237).symm.trans h
                            refine Go.aload_n hx hb 3 rfl d_Ref_step_240 ?_
                            refine Go.bipush (v := 6) hx hb (by decide) d_Ref_step_241 ?_
                            refine Go.iload_n hx hb 1 rfl d_Ref_step_243 ?_
                            obtain ⟨_, s5, q5, h⟩ := gb_some h
                            refine Go.callVv S hK hA 0 (Rw_0 ad ca _) rfl (fun sz9 => m_Ref_acc l D ad ca N _ sz9 _ _ _ s5 q5) (cwV 2 hts (gwV k_739 k_741 k_38 k_67 k_742) rfl rfl rfl (by decide +kernel) ⟨Nat.le_of_ble_eq_true rfl, Nat.le_of_ble_eq_true rfl⟩) rfl rfl (Nat.le_of_ble_eq_true rfl) ⟨Nat.zero_le _, Nat.zero_le _⟩ d_Ref_step_244 ?_
                            refine Go.goto (tgt := 257) hx hb d_Ref_step_247 rfl ?_
                            refine Go.aload_n hx hb 3 rfl d_Ref_step_257 ?_
                            refine Go.get (v := .int (gI s5 16)) hx hb hts in_Ref hown hK 0 (Rw_0 ad ca _) rfl 29 (by decide) (hts _ k_644) (fun _ h9 => h9) rfl d_Ref_step_258 ?_
                            refine Go.if_le (tgt := 276) hx hb d_Ref_step_261 rfl (fun c261 => ?_) (fun c261 => ?_)
                            · replace h := (if_pos c261).symm.trans h
                              refine Go.iload_n hx hb 0 rfl d_Ref_step_276 ?_
                              refine Go.if_ne (tgt := 290) hx hb d_Ref_step_277 rfl (fun z9 => absurd (by decide) z9) (fun _ => ?_)
                              refine Go.aload_n hx hb 3 rfl d_Ref_step_280 ?_
                              refine Go.dup hx hb rfl d_Ref_step_281 ?_
                              refine Go.get (v := .int (gI s5 6)) hx hb hts in_Ref hown hK 0 (Rw_0 ad ca _) rfl 19 (by decide) (hts _ k_634) (fun _ h9 => h9) rfl d_Ref_step_282 ?_
                              refine Go.iconst (v := 1) hx hb (by decide) d_Ref_step_285 ?_
                              refine Go.iadd hx hb d_Ref_step_286 ?_
                              refine Go.put (ty := (.int)) hx hb hts in_Ref ty_Ref tyok_Ref nm_Ref hown hK 0 (Rw_0 ad ca _) rfl 19 (by decide) (hts _ k_634) (fun _ h9 => h9) rfl (by decide +kernel) rfl rfl (Nat.le_of_ble_eq_true rfl) (uI s5 6 ((gI s5 6) + 1)) (Rs_I6 ad ca _ _) d_Ref_step_287 ?_
                              exact Go.vret hx hb hr hK hlk h d_Ref_step_290
                            · replace h := (if_neg c261).symm.trans h
                              refine Go.aload_n hx hb 3 rfl d_Ref_step_264 ?_
                              refine Go.iconst (v := 3) hx hb (by decide) d_Ref_step_265 ?_
                              refine Go.aload_n hx hb 3 rfl d_Ref_step_266 ?_
                              refine Go.get (v := .int (gI s5 16)) hx hb hts in_Ref hown hK 0 (Rw_0 ad ca _) rfl 29 (by decide) (hts _ k_644) (fun _ h9 => h9) rfl d_Ref_step_267 ?_
                              obtain ⟨_, s6, q6, h⟩ := gb_some h
                              refine Go.callVv S hK hA 0 (Rw_0 ad ca _) rfl (fun sz9 => m_Ref_falls l D ad ca N _ sz9 _ _ _ s6 q6) (cwV 2 hts (gwV k_731 k_733 k_36 k_67 k_734) rfl rfl rfl (by decide +kernel) ⟨Nat.le_of_ble_eq_true rfl, Nat.le_of_ble_eq_true rfl⟩) rfl rfl (Nat.le_of_ble_eq_true rfl) ⟨Nat.zero_le _, Nat.zero_le _⟩ d_Ref_step_270 ?_
                              refine Go.goto (tgt := 290) hx hb d_Ref_step_273 rfl ?_
                              exact Go.vret hx hb hr hK hlk h d_Ref_step_290
                        · replace h := (if_neg c213).symm.trans h
                          refine Go.iload_n hx hb 1 rfl d_Ref_step_216 ?_
                          refine Go.bipush (v := 8) hx hb (by decide) d_Ref_step_217 ?_
                          refine Go.idiv hx hb (by decide) d_Ref_step_219 ?_
                          refine Go.aload_n hx hb 3 rfl d_Ref_step_220 ?_
                          refine Go.get (v := .int (gI st 1)) hx hb hts in_Ref hown hK 0 (Rw_0 ad ca _) rfl 3 (by decide) (hts _ k_618) (fun _ h9 => h9) rfl d_Ref_step_221 ?_
                          refine Go.icmp_gt (tgt := 231) hx hb d_Ref_step_224 rfl (fun c224 => ?_) (fun c224 => ?_)
                          · replace h := (if_pos c224).symm.trans h
                            refine Go.iconst (v := 0) hx hb (by decide) d_Ref_step_231 ?_
                            refine Go.bipush (v := 8) hx hb (by decide) d_Ref_step_232 ?_
                            obtain ⟨r7, s7, q7, h⟩ := gb_some h
                            refine Go.callVi S hK hA 0 (Rw_0 ad ca _) rfl (fun sz9 => m_Ref_needs l D ad ca N _ sz9 _ _ r7 s7 q7) (cwV 2 hts (gwV k_747 k_749 k_40 k_67 k_750) rfl rfl rfl (by decide +kernel) ⟨Nat.le_of_ble_eq_true rfl, Nat.le_of_ble_eq_true rfl⟩) rfl rfl (Nat.le_of_ble_eq_true rfl) ⟨Nat.zero_le _, Nat.zero_le _⟩ d_Ref_step_234 ?_
                            refine Go.if_eq (tgt := 257) hx hb d_Ref_step_237 rfl (fun c237 => ?_) (fun c237 => ?_)
                            · replace h := (if_pos c237).symm.trans h
                              refine Go.aload_n hx hb 3 rfl d_Ref_step_257 ?_
                              refine Go.get (v := .int (gI s7 16)) hx hb hts in_Ref hown hK 0 (Rw_0 ad ca _) rfl 29 (by decide) (hts _ k_644) (fun _ h9 => h9) rfl d_Ref_step_258 ?_
                              refine Go.if_le (tgt := 276) hx hb d_Ref_step_261 rfl (fun c261 => ?_) (fun c261 => ?_)
                              · replace h := (if_pos c261).symm.trans h
                                refine Go.iload_n hx hb 0 rfl d_Ref_step_276 ?_
                                refine Go.if_ne (tgt := 290) hx hb d_Ref_step_277 rfl (fun z9 => absurd (by decide) z9) (fun _ => ?_)
                                refine Go.aload_n hx hb 3 rfl d_Ref_step_280 ?_
                                refine Go.dup hx hb rfl d_Ref_step_281 ?_
                                refine Go.get (v := .int (gI s7 6)) hx hb hts in_Ref hown hK 0 (Rw_0 ad ca _) rfl 19 (by decide) (hts _ k_634) (fun _ h9 => h9) rfl d_Ref_step_282 ?_
                                refine Go.iconst (v := 1) hx hb (by decide) d_Ref_step_285 ?_
                                refine Go.iadd hx hb d_Ref_step_286 ?_
                                refine Go.put (ty := (.int)) hx hb hts in_Ref ty_Ref tyok_Ref nm_Ref hown hK 0 (Rw_0 ad ca _) rfl 19 (by decide) (hts _ k_634) (fun _ h9 => h9) rfl (by decide +kernel) rfl rfl (Nat.le_of_ble_eq_true rfl) (uI s7 6 ((gI s7 6) + 1)) (Rs_I6 ad ca _ _) d_Ref_step_287 ?_
                                exact Go.vret hx hb hr hK hlk h d_Ref_step_290
                              · replace h := (if_neg c261).symm.trans h
                                refine Go.aload_n hx hb 3 rfl d_Ref_step_264 ?_
                                refine Go.iconst (v := 3) hx hb (by decide) d_Ref_step_265 ?_
                                refine Go.aload_n hx hb 3 rfl d_Ref_step_266 ?_
                                refine Go.get (v := .int (gI s7 16)) hx hb hts in_Ref hown hK 0 (Rw_0 ad ca _) rfl 29 (by decide) (hts _ k_644) (fun _ h9 => h9) rfl d_Ref_step_267 ?_
                                obtain ⟨_, s8, q8, h⟩ := gb_some h
                                refine Go.callVv S hK hA 0 (Rw_0 ad ca _) rfl (fun sz9 => m_Ref_falls l D ad ca N _ sz9 _ _ _ s8 q8) (cwV 2 hts (gwV k_731 k_733 k_36 k_67 k_734) rfl rfl rfl (by decide +kernel) ⟨Nat.le_of_ble_eq_true rfl, Nat.le_of_ble_eq_true rfl⟩) rfl rfl (Nat.le_of_ble_eq_true rfl) ⟨Nat.zero_le _, Nat.zero_le _⟩ d_Ref_step_270 ?_
                                refine Go.goto (tgt := 290) hx hb d_Ref_step_273 rfl ?_
                                exact Go.vret hx hb hr hK hlk h d_Ref_step_290
                            · replace h := (if_neg c237).symm.trans h
                              refine Go.aload_n hx hb 3 rfl d_Ref_step_240 ?_
                              refine Go.bipush (v := 6) hx hb (by decide) d_Ref_step_241 ?_
                              refine Go.iload_n hx hb 1 rfl d_Ref_step_243 ?_
                              obtain ⟨_, s9, q9, h⟩ := gb_some h
                              refine Go.callVv S hK hA 0 (Rw_0 ad ca _) rfl (fun sz9 => m_Ref_acc l D ad ca N _ sz9 _ _ _ s9 q9) (cwV 2 hts (gwV k_739 k_741 k_38 k_67 k_742) rfl rfl rfl (by decide +kernel) ⟨Nat.le_of_ble_eq_true rfl, Nat.le_of_ble_eq_true rfl⟩) rfl rfl (Nat.le_of_ble_eq_true rfl) ⟨Nat.zero_le _, Nat.zero_le _⟩ d_Ref_step_244 ?_
                              refine Go.goto (tgt := 257) hx hb d_Ref_step_247 rfl ?_
                              refine Go.aload_n hx hb 3 rfl d_Ref_step_257 ?_
                              refine Go.get (v := .int (gI s9 16)) hx hb hts in_Ref hown hK 0 (Rw_0 ad ca _) rfl 29 (by decide) (hts _ k_644) (fun _ h9 => h9) rfl d_Ref_step_258 ?_
                              refine Go.if_le (tgt := 276) hx hb d_Ref_step_261 rfl (fun c261 => ?_) (fun c261 => ?_)
                              · replace h := (if_pos c261).symm.trans h
                                refine Go.iload_n hx hb 0 rfl d_Ref_step_276 ?_
                                refine Go.if_ne (tgt := 290) hx hb d_Ref_step_277 rfl (fun z9 => absurd (by decide) z9) (fun _ => ?_)
                                refine Go.aload_n hx hb 3 rfl d_Ref_step_280 ?_
                                refine Go.dup hx hb rfl d_Ref_step_281 ?_
                                refine Go.get (v := .int (gI s9 6)) hx hb hts in_Ref hown hK 0 (Rw_0 ad ca _) rfl 19 (by decide) (hts _ k_634) (fun _ h9 => h9) rfl d_Ref_step_282 ?_
                                refine Go.iconst (v := 1) hx hb (by decide) d_Ref_step_285 ?_
                                refine Go.iadd hx hb d_Ref_step_286 ?_
                                refine Go.put (ty := (.int)) hx hb hts in_Ref ty_Ref tyok_Ref nm_Ref hown hK 0 (Rw_0 ad ca _) rfl 19 (by decide) (hts _ k_634) (fun _ h9 => h9) rfl (by decide +kernel) rfl rfl (Nat.le_of_ble_eq_true rfl) (uI s9 6 ((gI s9 6) + 1)) (Rs_I6 ad ca _ _) d_Ref_step_287 ?_
                                exact Go.vret hx hb hr hK hlk h d_Ref_step_290
                              · replace h := (if_neg c261).symm.trans h
                                refine Go.aload_n hx hb 3 rfl d_Ref_step_264 ?_
                                refine Go.iconst (v := 3) hx hb (by decide) d_Ref_step_265 ?_
                                refine Go.aload_n hx hb 3 rfl d_Ref_step_266 ?_
                                refine Go.get (v := .int (gI s9 16)) hx hb hts in_Ref hown hK 0 (Rw_0 ad ca _) rfl 29 (by decide) (hts _ k_644) (fun _ h9 => h9) rfl d_Ref_step_267 ?_
                                obtain ⟨_, s10, q10, h⟩ := gb_some h
                                refine Go.callVv S hK hA 0 (Rw_0 ad ca _) rfl (fun sz9 => m_Ref_falls l D ad ca N _ sz9 _ _ _ s10 q10) (cwV 2 hts (gwV k_731 k_733 k_36 k_67 k_734) rfl rfl rfl (by decide +kernel) ⟨Nat.le_of_ble_eq_true rfl, Nat.le_of_ble_eq_true rfl⟩) rfl rfl (Nat.le_of_ble_eq_true rfl) ⟨Nat.zero_le _, Nat.zero_le _⟩ d_Ref_step_270 ?_
                                refine Go.goto (tgt := 290) hx hb d_Ref_step_273 rfl ?_
                                exact Go.vret hx hb hr hK hlk h d_Ref_step_290
                          · replace h := (if_neg c224).symm.trans h
                            refine Go.iconst (v := 1) hx hb (by decide) d_Ref_step_227 ?_
                            refine Go.goto (tgt := 232) hx hb d_Ref_step_228 rfl ?_
                            refine Go.bipush (v := 8) hx hb (by decide) d_Ref_step_232 ?_
                            obtain ⟨r11, s11, q11, h⟩ := gb_some h
                            refine Go.callVi S hK hA 0 (Rw_0 ad ca _) rfl (fun sz9 => m_Ref_needs l D ad ca N _ sz9 _ _ r11 s11 q11) (cwV 2 hts (gwV k_747 k_749 k_40 k_67 k_750) rfl rfl rfl (by decide +kernel) ⟨Nat.le_of_ble_eq_true rfl, Nat.le_of_ble_eq_true rfl⟩) rfl rfl (Nat.le_of_ble_eq_true rfl) ⟨Nat.zero_le _, Nat.zero_le _⟩ d_Ref_step_234 ?_
                            refine Go.if_eq (tgt := 257) hx hb d_Ref_step_237 rfl (fun c237 => ?_) (fun c237 => ?_)
                            · replace h := (if_pos c237).symm.trans h
                              refine Go.aload_n hx hb 3 rfl d_Ref_step_257 ?_
                              refine Go.get (v := .int (gI s11 16)) hx hb hts in_Ref hown hK 0 (Rw_0 ad ca _) rfl 29 (by decide) (hts _ k_644) (fun _ h9 => h9) rfl d_Ref_step_258 ?_
                              refine Go.if_le (tgt := 276) hx hb d_Ref_step_261 rfl (fun c261 => ?_) (fun c261 => ?_)
                              · replace h := (if_pos c261).symm.trans h
                                refine Go.iload_n hx hb 0 rfl d_Ref_step_276 ?_
                                refine Go.if_ne (tgt := 290) hx hb d_Ref_step_277 rfl (fun z9 => absurd (by decide) z9) (fun _ => ?_)
                                refine Go.aload_n hx hb 3 rfl d_Ref_step_280 ?_
                                refine Go.dup hx hb rfl d_Ref_step_281 ?_
                                refine Go.get (v := .int (gI s11 6)) hx hb hts in_Ref hown hK 0 (Rw_0 ad ca _) rfl 19 (by decide) (hts _ k_634) (fun _ h9 => h9) rfl d_Ref_step_282 ?_
                                refine Go.iconst (v := 1) hx hb (by decide) d_Ref_step_285 ?_
                                refine Go.iadd hx hb d_Ref_step_286 ?_
                                refine Go.put (ty := (.int)) hx hb hts in_Ref ty_Ref tyok_Ref nm_Ref hown hK 0 (Rw_0 ad ca _) rfl 19 (by decide) (hts _ k_634) (fun _ h9 => h9) rfl (by decide +kernel) rfl rfl (Nat.le_of_ble_eq_true rfl) (uI s11 6 ((gI s11 6) + 1)) (Rs_I6 ad ca _ _) d_Ref_step_287 ?_
                                exact Go.vret hx hb hr hK hlk h d_Ref_step_290
                              · replace h := (if_neg c261).symm.trans h
                                refine Go.aload_n hx hb 3 rfl d_Ref_step_264 ?_
                                refine Go.iconst (v := 3) hx hb (by decide) d_Ref_step_265 ?_
                                refine Go.aload_n hx hb 3 rfl d_Ref_step_266 ?_
                                refine Go.get (v := .int (gI s11 16)) hx hb hts in_Ref hown hK 0 (Rw_0 ad ca _) rfl 29 (by decide) (hts _ k_644) (fun _ h9 => h9) rfl d_Ref_step_267 ?_
                                obtain ⟨_, s12, q12, h⟩ := gb_some h
                                refine Go.callVv S hK hA 0 (Rw_0 ad ca _) rfl (fun sz9 => m_Ref_falls l D ad ca N _ sz9 _ _ _ s12 q12) (cwV 2 hts (gwV k_731 k_733 k_36 k_67 k_734) rfl rfl rfl (by decide +kernel) ⟨Nat.le_of_ble_eq_true rfl, Nat.le_of_ble_eq_true rfl⟩) rfl rfl (Nat.le_of_ble_eq_true rfl) ⟨Nat.zero_le _, Nat.zero_le _⟩ d_Ref_step_270 ?_
                                refine Go.goto (tgt := 290) hx hb d_Ref_step_273 rfl ?_
                                exact Go.vret hx hb hr hK hlk h d_Ref_step_290
                            · replace h := (if_neg c237).symm.trans h
                              refine Go.aload_n hx hb 3 rfl d_Ref_step_240 ?_
                              refine Go.bipush (v := 6) hx hb (by decide) d_Ref_step_241 ?_
                              refine Go.iload_n hx hb 1 rfl d_Ref_step_243 ?_
                              obtain ⟨_, s13, q13, h⟩ := gb_some h
                              refine Go.callVv S hK hA 0 (Rw_0 ad ca _) rfl (fun sz9 => m_Ref_acc l D ad ca N _ sz9 _ _ _ s13 q13) (cwV 2 hts (gwV k_739 k_741 k_38 k_67 k_742) rfl rfl rfl (by decide +kernel) ⟨Nat.le_of_ble_eq_true rfl, Nat.le_of_ble_eq_true rfl⟩) rfl rfl (Nat.le_of_ble_eq_true rfl) ⟨Nat.zero_le _, Nat.zero_le _⟩ d_Ref_step_244 ?_
                              refine Go.goto (tgt := 257) hx hb d_Ref_step_247 rfl ?_
                              refine Go.aload_n hx hb 3 rfl d_Ref_step_257 ?_
                              refine Go.get (v := .int (gI s13 16)) hx hb hts in_Ref hown hK 0 (Rw_0 ad ca _) rfl 29 (by decide) (hts _ k_644) (fun _ h9 => h9) rfl d_Ref_step_258 ?_
                              refine Go.if_le (tgt := 276) hx hb d_Ref_step_261 rfl (fun c261 => ?_) (fun c261 => ?_)
                              · replace h := (if_pos c261).symm.trans h
                                refine Go.iload_n hx hb 0 rfl d_Ref_step_276 ?_
                                refine Go.if_ne (tgt := 290) hx hb d_Ref_step_277 rfl (fun z9 => absurd (by decide) z9) (fun _ => ?_)
                                refine Go.aload_n hx hb 3 rfl d_Ref_step_280 ?_
                                refine Go.dup hx hb rfl d_Ref_step_281 ?_
                                refine Go.get (v := .int (gI s13 6)) hx hb hts in_Ref hown hK 0 (Rw_0 ad ca _) rfl 19 (by decide) (hts _ k_634) (fun _ h9 => h9) rfl d_Ref_step_282 ?_
                                refine Go.iconst (v := 1) hx hb (by decide) d_Ref_step_285 ?_
                                refine Go.iadd hx hb d_Ref_step_286 ?_
                                refine Go.put (ty := (.int)) hx hb hts in_Ref ty_Ref tyok_Ref nm_Ref hown hK 0 (Rw_0 ad ca _) rfl 19 (by decide) (hts _ k_634) (fun _ h9 => h9) rfl (by decide +kernel) rfl rfl (Nat.le_of_ble_eq_true rfl) (uI s13 6 ((gI s13 6) + 1)) (Rs_I6 ad ca _ _) d_Ref_step_287 ?_
                                exact Go.vret hx hb hr hK hlk h d_Ref_step_290
                              · replace h := (if_neg c261).symm.trans h
                                refine Go.aload_n hx hb 3 rfl d_Ref_step_264 ?_
                                refine Go.iconst (v := 3) hx hb (by decide) d_Ref_step_265 ?_
                                refine Go.aload_n hx hb 3 rfl d_Ref_step_266 ?_
                                refine Go.get (v := .int (gI s13 16)) hx hb hts in_Ref hown hK 0 (Rw_0 ad ca _) rfl 29 (by decide) (hts _ k_644) (fun _ h9 => h9) rfl d_Ref_step_267 ?_
                                obtain ⟨_, s14, q14, h⟩ := gb_some h
                                refine Go.callVv S hK hA 0 (Rw_0 ad ca _) rfl (fun sz9 => m_Ref_falls l D ad ca N _ sz9 _ _ _ s14 q14) (cwV 2 hts (gwV k_731 k_733 k_36 k_67 k_734) rfl rfl rfl (by decide +kernel) ⟨Nat.le_of_ble_eq_true rfl, Nat.le_of_ble_eq_true rfl⟩) rfl rfl (Nat.le_of_ble_eq_true rfl) ⟨Nat.zero_le _, Nat.zero_le _⟩ d_Ref_step_270 ?_
                                refine Go.goto (tgt := 290) hx hb d_Ref_step_273 rfl ?_
                                exact Go.vret hx hb hr hK hlk h d_Ref_step_290
                    · replace h := (if_pos c194).symm.trans h
                      refine Go.aload_n hx hb 3 rfl d_Ref_step_197 ?_
                      refine Go.iload_n hx hb 1 rfl d_Ref_step_198 ?_
                      obtain ⟨_, s15, q15, h⟩ := gb_some h
                      refine Go.callVv S hK hA 0 (Rw_0 ad ca _) rfl (fun sz9 => m_Ref_array l D ad ca N _ sz9 _ _ s15 q15) (cwV 1 hts (gwV k_810 k_812 k_55 k_67 k_813) rfl rfl rfl (by decide +kernel) ⟨Nat.le_of_ble_eq_true rfl, Nat.le_of_ble_eq_true rfl⟩) rfl rfl (Nat.le_of_ble_eq_true rfl) ⟨Nat.zero_le _, Nat.zero_le _⟩ d_Ref_step_199 ?_
                      refine Go.goto (tgt := 257) hx hb d_Ref_step_202 rfl ?_
                      refine Go.aload_n hx hb 3 rfl d_Ref_step_257 ?_
                      refine Go.get (v := .int (gI s15 16)) hx hb hts in_Ref hown hK 0 (Rw_0 ad ca _) rfl 29 (by decide) (hts _ k_644) (fun _ h9 => h9) rfl d_Ref_step_258 ?_
                      refine Go.if_le (tgt := 276) hx hb d_Ref_step_261 rfl (fun c261 => ?_) (fun c261 => ?_)
                      · replace h := (if_pos c261).symm.trans h
                        refine Go.iload_n hx hb 0 rfl d_Ref_step_276 ?_
                        refine Go.if_ne (tgt := 290) hx hb d_Ref_step_277 rfl (fun z9 => absurd (by decide) z9) (fun _ => ?_)
                        refine Go.aload_n hx hb 3 rfl d_Ref_step_280 ?_
                        refine Go.dup hx hb rfl d_Ref_step_281 ?_
                        refine Go.get (v := .int (gI s15 6)) hx hb hts in_Ref hown hK 0 (Rw_0 ad ca _) rfl 19 (by decide) (hts _ k_634) (fun _ h9 => h9) rfl d_Ref_step_282 ?_
                        refine Go.iconst (v := 1) hx hb (by decide) d_Ref_step_285 ?_
                        refine Go.iadd hx hb d_Ref_step_286 ?_
                        refine Go.put (ty := (.int)) hx hb hts in_Ref ty_Ref tyok_Ref nm_Ref hown hK 0 (Rw_0 ad ca _) rfl 19 (by decide) (hts _ k_634) (fun _ h9 => h9) rfl (by decide +kernel) rfl rfl (Nat.le_of_ble_eq_true rfl) (uI s15 6 ((gI s15 6) + 1)) (Rs_I6 ad ca _ _) d_Ref_step_287 ?_
                        exact Go.vret hx hb hr hK hlk h d_Ref_step_290
                      · replace h := (if_neg c261).symm.trans h
                        refine Go.aload_n hx hb 3 rfl d_Ref_step_264 ?_
                        refine Go.iconst (v := 3) hx hb (by decide) d_Ref_step_265 ?_
                        refine Go.aload_n hx hb 3 rfl d_Ref_step_266 ?_
                        refine Go.get (v := .int (gI s15 16)) hx hb hts in_Ref hown hK 0 (Rw_0 ad ca _) rfl 29 (by decide) (hts _ k_644) (fun _ h9 => h9) rfl d_Ref_step_267 ?_
                        obtain ⟨_, s16, q16, h⟩ := gb_some h
                        refine Go.callVv S hK hA 0 (Rw_0 ad ca _) rfl (fun sz9 => m_Ref_falls l D ad ca N _ sz9 _ _ _ s16 q16) (cwV 2 hts (gwV k_731 k_733 k_36 k_67 k_734) rfl rfl rfl (by decide +kernel) ⟨Nat.le_of_ble_eq_true rfl, Nat.le_of_ble_eq_true rfl⟩) rfl rfl (Nat.le_of_ble_eq_true rfl) ⟨Nat.zero_le _, Nat.zero_le _⟩ d_Ref_step_270 ?_
                        refine Go.goto (tgt := 290) hx hb d_Ref_step_273 rfl ?_
                        exact Go.vret hx hb hr hK hlk h d_Ref_step_290
                  · replace h := (if_pos c181).symm.trans h
                    refine Go.aload_n hx hb 3 rfl d_Ref_step_184 ?_
                    obtain ⟨_, s17, q17, h⟩ := gb_some h
                    refine Go.callVv S hK hA 0 (Rw_0 ad ca _) rfl (fun sz9 => m_Ref_object l D ad ca N _ sz9 _ s17 q17) (cwV 0 hts (gwV k_790 k_792 k_50 k_67 k_793) rfl rfl rfl (by decide +kernel) ⟨Nat.le_of_ble_eq_true rfl, Nat.le_of_ble_eq_true rfl⟩) rfl rfl (Nat.le_of_ble_eq_true rfl) ⟨Nat.zero_le _, Nat.zero_le _⟩ d_Ref_step_185 ?_
                    refine Go.goto (tgt := 257) hx hb d_Ref_step_188 rfl ?_
                    refine Go.aload_n hx hb 3 rfl d_Ref_step_257 ?_
                    refine Go.get (v := .int (gI s17 16)) hx hb hts in_Ref hown hK 0 (Rw_0 ad ca _) rfl 29 (by decide) (hts _ k_644) (fun _ h9 => h9) rfl d_Ref_step_258 ?_
                    refine Go.if_le (tgt := 276) hx hb d_Ref_step_261 rfl (fun c261 => ?_) (fun c261 => ?_)
                    · replace h := (if_pos c261).symm.trans h
                      refine Go.iload_n hx hb 0 rfl d_Ref_step_276 ?_
                      refine Go.if_ne (tgt := 290) hx hb d_Ref_step_277 rfl (fun z9 => absurd (by decide) z9) (fun _ => ?_)
                      refine Go.aload_n hx hb 3 rfl d_Ref_step_280 ?_
                      refine Go.dup hx hb rfl d_Ref_step_281 ?_
                      refine Go.get (v := .int (gI s17 6)) hx hb hts in_Ref hown hK 0 (Rw_0 ad ca _) rfl 19 (by decide) (hts _ k_634) (fun _ h9 => h9) rfl d_Ref_step_282 ?_
                      refine Go.iconst (v := 1) hx hb (by decide) d_Ref_step_285 ?_
                      refine Go.iadd hx hb d_Ref_step_286 ?_
                      refine Go.put (ty := (.int)) hx hb hts in_Ref ty_Ref tyok_Ref nm_Ref hown hK 0 (Rw_0 ad ca _) rfl 19 (by decide) (hts _ k_634) (fun _ h9 => h9) rfl (by decide +kernel) rfl rfl (Nat.le_of_ble_eq_true rfl) (uI s17 6 ((gI s17 6) + 1)) (Rs_I6 ad ca _ _) d_Ref_step_287 ?_
                      exact Go.vret hx hb hr hK hlk h d_Ref_step_290
                    · replace h := (if_neg c261).symm.trans h
                      refine Go.aload_n hx hb 3 rfl d_Ref_step_264 ?_
                      refine Go.iconst (v := 3) hx hb (by decide) d_Ref_step_265 ?_
                      refine Go.aload_n hx hb 3 rfl d_Ref_step_266 ?_
                      refine Go.get (v := .int (gI s17 16)) hx hb hts in_Ref hown hK 0 (Rw_0 ad ca _) rfl 29 (by decide) (hts _ k_644) (fun _ h9 => h9) rfl d_Ref_step_267 ?_
                      obtain ⟨_, s18, q18, h⟩ := gb_some h
                      refine Go.callVv S hK hA 0 (Rw_0 ad ca _) rfl (fun sz9 => m_Ref_falls l D ad ca N _ sz9 _ _ _ s18 q18) (cwV 2 hts (gwV k_731 k_733 k_36 k_67 k_734) rfl rfl rfl (by decide +kernel) ⟨Nat.le_of_ble_eq_true rfl, Nat.le_of_ble_eq_true rfl⟩) rfl rfl (Nat.le_of_ble_eq_true rfl) ⟨Nat.zero_le _, Nat.zero_le _⟩ d_Ref_step_270 ?_
                      refine Go.goto (tgt := 290) hx hb d_Ref_step_273 rfl ?_
                      exact Go.vret hx hb hr hK hlk h d_Ref_step_290
                · replace h := (if_pos c163).symm.trans h
                  refine Go.aload_n hx hb 3 rfl d_Ref_step_166 ?_
                  refine Go.iconst (v := 3) hx hb (by decide) d_Ref_step_167 ?_
                  refine Go.aload_n hx hb 3 rfl d_Ref_step_168 ?_
                  refine Go.get (v := .int (gI st 2)) hx hb hts in_Ref hown hK 0 (Rw_0 ad ca _) rfl 4 (by decide) (hts _ k_619) (fun _ h9 => h9) rfl d_Ref_step_169 ?_
                  obtain ⟨_, s19, q19, h⟩ := gb_some h
                  refine Go.callVv S hK hA 0 (Rw_0 ad ca _) rfl (fun sz9 => m_Ref_acc l D ad ca N _ sz9 _ _ _ s19 q19) (cwV 2 hts (gwV k_739 k_741 k_38 k_67 k_742) rfl rfl rfl (by decide +kernel) ⟨Nat.le_of_ble_eq_true rfl, Nat.le_of_ble_eq_true rfl⟩) rfl rfl (Nat.le_of_ble_eq_true rfl) ⟨Nat.zero_le _, Nat.zero_le _⟩ d_Ref_step_172 ?_
                  refine Go.goto (tgt := 257) hx hb d_Ref_step_175 rfl ?_
                  refine Go.aload_n hx hb 3 rfl d_Ref_step_257 ?_
                  refine Go.get (v := .int (gI s19 16)) hx hb hts in_Ref hown hK 0 (Rw_0 ad ca _) rfl 29 (by decide) (hts _ k_644) (fun _ h9 => h9) rfl d_Ref_step_258 ?_
                  refine Go.if_le (tgt := 276) hx hb d_Ref_step_261 rfl (fun c261 => ?_) (fun c261 => ?_)
                  · replace h := (if_pos c261).symm.trans h
                    refine Go.iload_n hx hb 0 rfl d_Ref_step_276 ?_
                    refine Go.if_ne (tgt := 290) hx hb d_Ref_step_277 rfl (fun z9 => absurd (by decide) z9) (fun _ => ?_)
                    refine Go.aload_n hx hb 3 rfl d_Ref_step_280 ?_
                    refine Go.dup hx hb rfl d_Ref_step_281 ?_
                    refine Go.get (v := .int (gI s19 6)) hx hb hts in_Ref hown hK 0 (Rw_0 ad ca _) rfl 19 (by decide) (hts _ k_634) (fun _ h9 => h9) rfl d_Ref_step_282 ?_
                    refine Go.iconst (v := 1) hx hb (by decide) d_Ref_step_285 ?_
                    refine Go.iadd hx hb d_Ref_step_286 ?_
                    refine Go.put (ty := (.int)) hx hb hts in_Ref ty_Ref tyok_Ref nm_Ref hown hK 0 (Rw_0 ad ca _) rfl 19 (by decide) (hts _ k_634) (fun _ h9 => h9) rfl (by decide +kernel) rfl rfl (Nat.le_of_ble_eq_true rfl) (uI s19 6 ((gI s19 6) + 1)) (Rs_I6 ad ca _ _) d_Ref_step_287 ?_
                    exact Go.vret hx hb hr hK hlk h d_Ref_step_290
                  · replace h := (if_neg c261).symm.trans h
                    refine Go.aload_n hx hb 3 rfl d_Ref_step_264 ?_
                    refine Go.iconst (v := 3) hx hb (by decide) d_Ref_step_265 ?_
                    refine Go.aload_n hx hb 3 rfl d_Ref_step_266 ?_
                    refine Go.get (v := .int (gI s19 16)) hx hb hts in_Ref hown hK 0 (Rw_0 ad ca _) rfl 29 (by decide) (hts _ k_644) (fun _ h9 => h9) rfl d_Ref_step_267 ?_
                    obtain ⟨_, s20, q20, h⟩ := gb_some h
                    refine Go.callVv S hK hA 0 (Rw_0 ad ca _) rfl (fun sz9 => m_Ref_falls l D ad ca N _ sz9 _ _ _ s20 q20) (cwV 2 hts (gwV k_731 k_733 k_36 k_67 k_734) rfl rfl rfl (by decide +kernel) ⟨Nat.le_of_ble_eq_true rfl, Nat.le_of_ble_eq_true rfl⟩) rfl rfl (Nat.le_of_ble_eq_true rfl) ⟨Nat.zero_le _, Nat.zero_le _⟩ d_Ref_step_270 ?_
                    refine Go.goto (tgt := 290) hx hb d_Ref_step_273 rfl ?_
                    exact Go.vret hx hb hr hK hlk h d_Ref_step_290
              · replace h := (if_pos c137).symm.trans h
                refine Go.aload_n hx hb 3 rfl d_Ref_step_140 ?_
                refine Go.aload_n hx hb 3 rfl d_Ref_step_141 ?_
                refine Go.get (v := .int (gI st 2)) hx hb hts in_Ref hown hK 0 (Rw_0 ad ca _) rfl 4 (by decide) (hts _ k_619) (fun _ h9 => h9) rfl d_Ref_step_142 ?_
                refine Go.iconst (v := 2) hx hb (by decide) d_Ref_step_145 ?_
                refine Go.icmp_eq (tgt := 153) hx hb d_Ref_step_146 rfl (fun c146 => ?_) (fun c146 => ?_)
                · replace h := (if_pos c146).symm.trans h
                  refine Go.iconst (v := 0) hx hb (by decide) d_Ref_step_153 ?_
                  obtain ⟨_, s21, q21, h⟩ := gb_some h
                  refine Go.callVv S hK hA 0 (Rw_0 ad ca _) rfl (fun sz9 => m_Ref_truth l D ad ca N _ sz9 _ _ s21 q21) (cwV 1 hts (gwV k_786 k_788 k_49 k_67 k_789) rfl rfl rfl (by decide +kernel) ⟨Nat.le_of_ble_eq_true rfl, Nat.le_of_ble_eq_true rfl⟩) rfl rfl (Nat.le_of_ble_eq_true rfl) ⟨Nat.zero_le _, Nat.zero_le _⟩ d_Ref_step_154 ?_
                  refine Go.goto (tgt := 257) hx hb d_Ref_step_157 rfl ?_
                  refine Go.aload_n hx hb 3 rfl d_Ref_step_257 ?_
                  refine Go.get (v := .int (gI s21 16)) hx hb hts in_Ref hown hK 0 (Rw_0 ad ca _) rfl 29 (by decide) (hts _ k_644) (fun _ h9 => h9) rfl d_Ref_step_258 ?_
                  refine Go.if_le (tgt := 276) hx hb d_Ref_step_261 rfl (fun c261 => ?_) (fun c261 => ?_)
                  · replace h := (if_pos c261).symm.trans h
                    refine Go.iload_n hx hb 0 rfl d_Ref_step_276 ?_
                    refine Go.if_ne (tgt := 290) hx hb d_Ref_step_277 rfl (fun z9 => absurd (by decide) z9) (fun _ => ?_)
                    refine Go.aload_n hx hb 3 rfl d_Ref_step_280 ?_
                    refine Go.dup hx hb rfl d_Ref_step_281 ?_
                    refine Go.get (v := .int (gI s21 6)) hx hb hts in_Ref hown hK 0 (Rw_0 ad ca _) rfl 19 (by decide) (hts _ k_634) (fun _ h9 => h9) rfl d_Ref_step_282 ?_
                    refine Go.iconst (v := 1) hx hb (by decide) d_Ref_step_285 ?_
                    refine Go.iadd hx hb d_Ref_step_286 ?_
                    refine Go.put (ty := (.int)) hx hb hts in_Ref ty_Ref tyok_Ref nm_Ref hown hK 0 (Rw_0 ad ca _) rfl 19 (by decide) (hts _ k_634) (fun _ h9 => h9) rfl (by decide +kernel) rfl rfl (Nat.le_of_ble_eq_true rfl) (uI s21 6 ((gI s21 6) + 1)) (Rs_I6 ad ca _ _) d_Ref_step_287 ?_
                    exact Go.vret hx hb hr hK hlk h d_Ref_step_290
                  · replace h := (if_neg c261).symm.trans h
                    refine Go.aload_n hx hb 3 rfl d_Ref_step_264 ?_
                    refine Go.iconst (v := 3) hx hb (by decide) d_Ref_step_265 ?_
                    refine Go.aload_n hx hb 3 rfl d_Ref_step_266 ?_
                    refine Go.get (v := .int (gI s21 16)) hx hb hts in_Ref hown hK 0 (Rw_0 ad ca _) rfl 29 (by decide) (hts _ k_644) (fun _ h9 => h9) rfl d_Ref_step_267 ?_
                    obtain ⟨_, s22, q22, h⟩ := gb_some h
                    refine Go.callVv S hK hA 0 (Rw_0 ad ca _) rfl (fun sz9 => m_Ref_falls l D ad ca N _ sz9 _ _ _ s22 q22) (cwV 2 hts (gwV k_731 k_733 k_36 k_67 k_734) rfl rfl rfl (by decide +kernel) ⟨Nat.le_of_ble_eq_true rfl, Nat.le_of_ble_eq_true rfl⟩) rfl rfl (Nat.le_of_ble_eq_true rfl) ⟨Nat.zero_le _, Nat.zero_le _⟩ d_Ref_step_270 ?_
                    refine Go.goto (tgt := 290) hx hb d_Ref_step_273 rfl ?_
                    exact Go.vret hx hb hr hK hlk h d_Ref_step_290
                · replace h := (if_neg c146).symm.trans h
                  refine Go.iconst (v := 1) hx hb (by decide) d_Ref_step_149 ?_
                  refine Go.goto (tgt := 154) hx hb d_Ref_step_150 rfl ?_
                  obtain ⟨_, s23, q23, h⟩ := gb_some h
                  refine Go.callVv S hK hA 0 (Rw_0 ad ca _) rfl (fun sz9 => m_Ref_truth l D ad ca N _ sz9 _ _ s23 q23) (cwV 1 hts (gwV k_786 k_788 k_49 k_67 k_789) rfl rfl rfl (by decide +kernel) ⟨Nat.le_of_ble_eq_true rfl, Nat.le_of_ble_eq_true rfl⟩) rfl rfl (Nat.le_of_ble_eq_true rfl) ⟨Nat.zero_le _, Nat.zero_le _⟩ d_Ref_step_154 ?_
                  refine Go.goto (tgt := 257) hx hb d_Ref_step_157 rfl ?_
                  refine Go.aload_n hx hb 3 rfl d_Ref_step_257 ?_
                  refine Go.get (v := .int (gI s23 16)) hx hb hts in_Ref hown hK 0 (Rw_0 ad ca _) rfl 29 (by decide) (hts _ k_644) (fun _ h9 => h9) rfl d_Ref_step_258 ?_
                  refine Go.if_le (tgt := 276) hx hb d_Ref_step_261 rfl (fun c261 => ?_) (fun c261 => ?_)
                  · replace h := (if_pos c261).symm.trans h
                    refine Go.iload_n hx hb 0 rfl d_Ref_step_276 ?_
                    refine Go.if_ne (tgt := 290) hx hb d_Ref_step_277 rfl (fun z9 => absurd (by decide) z9) (fun _ => ?_)
                    refine Go.aload_n hx hb 3 rfl d_Ref_step_280 ?_
                    refine Go.dup hx hb rfl d_Ref_step_281 ?_
                    refine Go.get (v := .int (gI s23 6)) hx hb hts in_Ref hown hK 0 (Rw_0 ad ca _) rfl 19 (by decide) (hts _ k_634) (fun _ h9 => h9) rfl d_Ref_step_282 ?_
                    refine Go.iconst (v := 1) hx hb (by decide) d_Ref_step_285 ?_
                    refine Go.iadd hx hb d_Ref_step_286 ?_
                    refine Go.put (ty := (.int)) hx hb hts in_Ref ty_Ref tyok_Ref nm_Ref hown hK 0 (Rw_0 ad ca _) rfl 19 (by decide) (hts _ k_634) (fun _ h9 => h9) rfl (by decide +kernel) rfl rfl (Nat.le_of_ble_eq_true rfl) (uI s23 6 ((gI s23 6) + 1)) (Rs_I6 ad ca _ _) d_Ref_step_287 ?_
                    exact Go.vret hx hb hr hK hlk h d_Ref_step_290
                  · replace h := (if_neg c261).symm.trans h
                    refine Go.aload_n hx hb 3 rfl d_Ref_step_264 ?_
                    refine Go.iconst (v := 3) hx hb (by decide) d_Ref_step_265 ?_
                    refine Go.aload_n hx hb 3 rfl d_Ref_step_266 ?_
                    refine Go.get (v := .int (gI s23 16)) hx hb hts in_Ref hown hK 0 (Rw_0 ad ca _) rfl 29 (by decide) (hts _ k_644) (fun _ h9 => h9) rfl d_Ref_step_267 ?_
                    obtain ⟨_, s24, q24, h⟩ := gb_some h
                    refine Go.callVv S hK hA 0 (Rw_0 ad ca _) rfl (fun sz9 => m_Ref_falls l D ad ca N _ sz9 _ _ _ s24 q24) (cwV 2 hts (gwV k_731 k_733 k_36 k_67 k_734) rfl rfl rfl (by decide +kernel) ⟨Nat.le_of_ble_eq_true rfl, Nat.le_of_ble_eq_true rfl⟩) rfl rfl (Nat.le_of_ble_eq_true rfl) ⟨Nat.zero_le _, Nat.zero_le _⟩ d_Ref_step_270 ?_
                    refine Go.goto (tgt := 290) hx hb d_Ref_step_273 rfl ?_
                    exact Go.vret hx hb hr hK hlk h d_Ref_step_290
            · replace h := (if_neg c117).symm.trans h
              refine Go.iload_n hx hb 2 rfl d_Ref_step_120 ?_
              refine Go.bipush (v := 25) hx hb (by decide) d_Ref_step_121 ?_
              refine Go.icmp_ge (tgt := 134) hx hb d_Ref_step_123 rfl (fun c123 => ?_) (fun c123 => ?_)
              · replace h := (if_pos c123).symm.trans h
                refine Go.iload_n hx hb 2 rfl d_Ref_step_134 ?_
                refine Go.bipush (v := 25) hx hb (by decide) d_Ref_step_135 ?_
                refine Go.icmp_ne (tgt := 160) hx hb d_Ref_step_137 rfl (fun c137 => ?_) (fun c137 => ?_)
                · replace h := (if_neg c137).symm.trans h
                  refine Go.iload_n hx hb 2 rfl d_Ref_step_160 ?_
                  refine Go.bipush (v := 26) hx hb (by decide) d_Ref_step_161 ?_
                  refine Go.icmp_ne (tgt := 178) hx hb d_Ref_step_163 rfl (fun c163 => ?_) (fun c163 => ?_)
                  · replace h := (if_neg c163).symm.trans h
                    refine Go.iload_n hx hb 2 rfl d_Ref_step_178 ?_
                    refine Go.bipush (v := 27) hx hb (by decide) d_Ref_step_179 ?_
                    refine Go.icmp_ne (tgt := 191) hx hb d_Ref_step_181 rfl (fun c181 => ?_) (fun c181 => ?_)
                    · replace h := (if_neg c181).symm.trans h
                      refine Go.iload_n hx hb 2 rfl d_Ref_step_191 ?_
                      refine Go.bipush (v := 28) hx hb (by decide) d_Ref_step_192 ?_
                      refine Go.icmp_ne (tgt := 205) hx hb d_Ref_step_194 rfl (fun c194 => ?_) (fun c194 => ?_)
                      · replace h := (if_neg c194).symm.trans h
                        refine Go.iload_n hx hb 2 rfl d_Ref_step_205 ?_
                        refine Go.bipush (v := 29) hx hb (by decide) d_Ref_step_206 ?_
                        refine Go.icmp_ne (tgt := 250) hx hb d_Ref_step_208 rfl (fun c208 => ?_) (fun c208 => ?_)
                        · replace h := (if_neg c208).symm.trans h
                          refine Go.aload_n hx hb 3 rfl d_Ref_step_250 ?_
                          refine Go.iload_n hx hb 2 rfl d_Ref_step_251 ?_
                          refine Go.iload_n hx hb 1 rfl d_Ref_step_252 ?_
                          obtain ⟨r25, s25, q25, h⟩ := gb_some h
                          refine Go.callVi S hK hA 0 (Rw_0 ad ca _) rfl (fun sz9 => m_Ref_goes l D ad ca N _ sz9 _ _ r25 s25 q25) (cwV 2 hts (gwV k_814 k_816 k_56 k_67 k_817) rfl rfl rfl (by decide +kernel) ⟨Nat.le_of_ble_eq_true rfl, Nat.le_of_ble_eq_true rfl⟩) rfl rfl (Nat.le_of_ble_eq_true rfl) ⟨Nat.zero_le _, Nat.zero_le _⟩ d_Ref_step_253 ?_
                          refine Go.istore_n (i := 3) (lv' := [(3, .int r25), (2, .int (gA st 1 (gI st 6).toNatClampNeg)), (1, .int (gA st 0 (gI st 6).toNatClampNeg)), (0, .ref (ad 0))]) hx hb rfl (Nat.le_of_ble_eq_true rfl) rfl d_Ref_step_256 ?_
                          refine Go.aload_n hx hb 3 rfl d_Ref_step_257 ?_
                          refine Go.get (v := .int (gI s25 16)) hx hb hts in_Ref hown hK 0 (Rw_0 ad ca _) rfl 29 (by decide) (hts _ k_644) (fun _ h9 => h9) rfl d_Ref_step_258 ?_
                          refine Go.if_le (tgt := 276) hx hb d_Ref_step_261 rfl (fun c261 => ?_) (fun c261 => ?_)
                          · replace h := (if_pos c261).symm.trans h
                            refine Go.iload_n hx hb 0 rfl d_Ref_step_276 ?_
                            refine Go.if_ne (tgt := 290) hx hb d_Ref_step_277 rfl (fun c277 => ?_) (fun c277 => ?_)
                            · replace h := (if_neg c277).symm.trans h
                              exact Go.vret hx hb hr hK hlk h d_Ref_step_290
                            · replace h := (if_pos c277).symm.trans h
                              refine Go.aload_n hx hb 3 rfl d_Ref_step_280 ?_
                              refine Go.dup hx hb rfl d_Ref_step_281 ?_
                              refine Go.get (v := .int (gI s25 6)) hx hb hts in_Ref hown hK 0 (Rw_0 ad ca _) rfl 19 (by decide) (hts _ k_634) (fun _ h9 => h9) rfl d_Ref_step_282 ?_
                              refine Go.iconst (v := 1) hx hb (by decide) d_Ref_step_285 ?_
                              refine Go.iadd hx hb d_Ref_step_286 ?_
                              refine Go.put (ty := (.int)) hx hb hts in_Ref ty_Ref tyok_Ref nm_Ref hown hK 0 (Rw_0 ad ca _) rfl 19 (by decide) (hts _ k_634) (fun _ h9 => h9) rfl (by decide +kernel) rfl rfl (Nat.le_of_ble_eq_true rfl) (uI s25 6 ((gI s25 6) + 1)) (Rs_I6 ad ca _ _) d_Ref_step_287 ?_
                              exact Go.vret hx hb hr hK hlk h d_Ref_step_290
                          · replace h := (if_neg c261).symm.trans h
                            refine Go.aload_n hx hb 3 rfl d_Ref_step_264 ?_
                            refine Go.iconst (v := 3) hx hb (by decide) d_Ref_step_265 ?_
                            refine Go.aload_n hx hb 3 rfl d_Ref_step_266 ?_
                            refine Go.get (v := .int (gI s25 16)) hx hb hts in_Ref hown hK 0 (Rw_0 ad ca _) rfl 29 (by decide) (hts _ k_644) (fun _ h9 => h9) rfl d_Ref_step_267 ?_
                            obtain ⟨_, s26, q26, h⟩ := gb_some h
                            refine Go.callVv S hK hA 0 (Rw_0 ad ca _) rfl (fun sz9 => m_Ref_falls l D ad ca N _ sz9 _ _ _ s26 q26) (cwV 2 hts (gwV k_731 k_733 k_36 k_67 k_734) rfl rfl rfl (by decide +kernel) ⟨Nat.le_of_ble_eq_true rfl, Nat.le_of_ble_eq_true rfl⟩) rfl rfl (Nat.le_of_ble_eq_true rfl) ⟨Nat.zero_le _, Nat.zero_le _⟩ d_Ref_step_270 ?_
                            refine Go.goto (tgt := 290) hx hb d_Ref_step_273 rfl ?_
                            exact Go.vret hx hb hr hK hlk h d_Ref_step_290
                        · replace h := (if_pos c208).symm.trans h
                          refine Go.aload_n hx hb 3 rfl d_Ref_step_211 ?_
                          refine Go.iload_n hx hb 1 rfl d_Ref_step_212 ?_
                          refine Go.if_lt (tgt := 231) hx hb d_Ref_step_213 rfl (fun c213 => ?_) (fun c213 => ?_)
                          · replace h := (if_pos c213).symm.trans h
                            refine Go.iconst (v := 0) hx hb (by decide) d_Ref_step_231 ?_
                            refine Go.bipush (v := 8) hx hb (by decide) d_Ref_step_232 ?_
                            obtain ⟨r27, s27, q27, h⟩ := gb_some h
                            refine Go.callVi S hK hA 0 (Rw_0 ad ca _) rfl (fun sz9 => m_Ref_needs l D ad ca N _ sz9 _ _ r27 s27 q27) (cwV 2 hts (gwV k_747 k_749 k_40 k_67 k_750) rfl rfl rfl (by decide +kernel) ⟨Nat.le_of_ble_eq_true rfl, Nat.le_of_ble_eq_true rfl⟩) rfl rfl (Nat.le_of_ble_eq_true rfl) ⟨Nat.zero_le _, Nat.zero_le _⟩ d_Ref_step_234 ?_
                            refine Go.if_eq (tgt := 257) hx hb d_Ref_step_237 rfl (fun c237 => ?_) (fun c237 => ?_)
                            · replace h := (if_pos c237).symm.trans h
                              refine Go.aload_n hx hb 3 rfl d_Ref_step_257 ?_
                              refine Go.get (v := .int (gI s27 16)) hx hb hts in_Ref hown hK 0 (Rw_0 ad ca _) rfl 29 (by decide) (hts _ k_644) (fun _ h9 => h9) rfl d_Ref_step_258 ?_
                              refine Go.if_le (tgt := 276) hx hb d_Ref_step_261 rfl (fun c261 => ?_) (fun c261 => ?_)
                              · replace h := (if_pos c261).symm.trans h
                                refine Go.iload_n hx hb 0 rfl d_Ref_step_276 ?_
                                refine Go.if_ne (tgt := 290) hx hb d_Ref_step_277 rfl (fun z9 => absurd (by decide) z9) (fun _ => ?_)
                                refine Go.aload_n hx hb 3 rfl d_Ref_step_280 ?_
                                refine Go.dup hx hb rfl d_Ref_step_281 ?_
                                refine Go.get (v := .int (gI s27 6)) hx hb hts in_Ref hown hK 0 (Rw_0 ad ca _) rfl 19 (by decide) (hts _ k_634) (fun _ h9 => h9) rfl d_Ref_step_282 ?_
                                refine Go.iconst (v := 1) hx hb (by decide) d_Ref_step_285 ?_
                                refine Go.iadd hx hb d_Ref_step_286 ?_
                                refine Go.put (ty := (.int)) hx hb hts in_Ref ty_Ref tyok_Ref nm_Ref hown hK 0 (Rw_0 ad ca _) rfl 19 (by decide) (hts _ k_634) (fun _ h9 => h9) rfl (by decide +kernel) rfl rfl (Nat.le_of_ble_eq_true rfl) (uI s27 6 ((gI s27 6) + 1)) (Rs_I6 ad ca _ _) d_Ref_step_287 ?_
                                exact Go.vret hx hb hr hK hlk h d_Ref_step_290
                              · replace h := (if_neg c261).symm.trans h
                                refine Go.aload_n hx hb 3 rfl d_Ref_step_264 ?_
                                refine Go.iconst (v := 3) hx hb (by decide) d_Ref_step_265 ?_
                                refine Go.aload_n hx hb 3 rfl d_Ref_step_266 ?_
                                refine Go.get (v := .int (gI s27 16)) hx hb hts in_Ref hown hK 0 (Rw_0 ad ca _) rfl 29 (by decide) (hts _ k_644) (fun _ h9 => h9) rfl d_Ref_step_267 ?_
                                obtain ⟨_, s28, q28, h⟩ := gb_some h
                                refine Go.callVv S hK hA 0 (Rw_0 ad ca _) rfl (fun sz9 => m_Ref_falls l D ad ca N _ sz9 _ _ _ s28 q28) (cwV 2 hts (gwV k_731 k_733 k_36 k_67 k_734) rfl rfl rfl (by decide +kernel) ⟨Nat.le_of_ble_eq_true rfl, Nat.le_of_ble_eq_true rfl⟩) rfl rfl (Nat.le_of_ble_eq_true rfl) ⟨Nat.zero_le _, Nat.zero_le _⟩ d_Ref_step_270 ?_
                                refine Go.goto (tgt := 290) hx hb d_Ref_step_273 rfl ?_
                                exact Go.vret hx hb hr hK hlk h d_Ref_step_290
                            · replace h := (if_neg c237).symm.trans h
                              refine Go.aload_n hx hb 3 rfl d_Ref_step_240 ?_
                              refine Go.bipush (v := 6) hx hb (by decide) d_Ref_step_241 ?_
                              refine Go.iload_n hx hb 1 rfl d_Ref_step_243 ?_
                              obtain ⟨_, s29, q29, h⟩ := gb_some h
                              refine Go.callVv S hK hA 0 (Rw_0 ad ca _) rfl (fun sz9 => m_Ref_acc l D ad ca N _ sz9 _ _ _ s29 q29) (cwV 2 hts (gwV k_739 k_741 k_38 k_67 k_742) rfl rfl rfl (by decide +kernel) ⟨Nat.le_of_ble_eq_true rfl, Nat.le_of_ble_eq_true rfl⟩) rfl rfl (Nat.le_of_ble_eq_true rfl) ⟨Nat.zero_le _, Nat.zero_le _⟩ d_Ref_step_244 ?_
                              refine Go.goto (tgt := 257) hx hb d_Ref_step_247 rfl ?_
                              refine Go.aload_n hx hb 3 rfl d_Ref_step_257 ?_
                              refine Go.get (v := .int (gI s29 16)) hx hb hts in_Ref hown hK 0 (Rw_0 ad ca _) rfl 29 (by decide) (hts _ k_644) (fun _ h9 => h9) rfl d_Ref_step_258 ?_
                              refine Go.if_le (tgt := 276) hx hb d_Ref_step_261 rfl (fun c261 => ?_) (fun c261 => ?_)
                              · replace h := (if_pos c261).symm.trans h
                                refine Go.iload_n hx hb 0 rfl d_Ref_step_276 ?_
                                refine Go.if_ne (tgt := 290) hx hb d_Ref_step_277 rfl (fun z9 => absurd (by decide) z9) (fun _ => ?_)
                                refine Go.aload_n hx hb 3 rfl d_Ref_step_280 ?_
                                refine Go.dup hx hb rfl d_Ref_step_281 ?_
                                refine Go.get (v := .int (gI s29 6)) hx hb hts in_Ref hown hK 0 (Rw_0 ad ca _) rfl 19 (by decide) (hts _ k_634) (fun _ h9 => h9) rfl d_Ref_step_282 ?_
                                refine Go.iconst (v := 1) hx hb (by decide) d_Ref_step_285 ?_
                                refine Go.iadd hx hb d_Ref_step_286 ?_
                                refine Go.put (ty := (.int)) hx hb hts in_Ref ty_Ref tyok_Ref nm_Ref hown hK 0 (Rw_0 ad ca _) rfl 19 (by decide) (hts _ k_634) (fun _ h9 => h9) rfl (by decide +kernel) rfl rfl (Nat.le_of_ble_eq_true rfl) (uI s29 6 ((gI s29 6) + 1)) (Rs_I6 ad ca _ _) d_Ref_step_287 ?_
                                exact Go.vret hx hb hr hK hlk h d_Ref_step_290
                              · replace h := (if_neg c261).symm.trans h
                                refine Go.aload_n hx hb 3 rfl d_Ref_step_264 ?_
                                refine Go.iconst (v := 3) hx hb (by decide) d_Ref_step_265 ?_
                                refine Go.aload_n hx hb 3 rfl d_Ref_step_266 ?_
                                refine Go.get (v := .int (gI s29 16)) hx hb hts in_Ref hown hK 0 (Rw_0 ad ca _) rfl 29 (by decide) (hts _ k_644) (fun _ h9 => h9) rfl d_Ref_step_267 ?_
                                obtain ⟨_, s30, q30, h⟩ := gb_some h
                                refine Go.callVv S hK hA 0 (Rw_0 ad ca _) rfl (fun sz9 => m_Ref_falls l D ad ca N _ sz9 _ _ _ s30 q30) (cwV 2 hts (gwV k_731 k_733 k_36 k_67 k_734) rfl rfl rfl (by decide +kernel) ⟨Nat.le_of_ble_eq_true rfl, Nat.le_of_ble_eq_true rfl⟩) rfl rfl (Nat.le_of_ble_eq_true rfl) ⟨Nat.zero_le _, Nat.zero_le _⟩ d_Ref_step_270 ?_
                                refine Go.goto (tgt := 290) hx hb d_Ref_step_273 rfl ?_
                                exact Go.vret hx hb hr hK hlk h d_Ref_step_290
                          · replace h := (if_neg c213).symm.trans h
                            refine Go.iload_n hx hb 1 rfl d_Ref_step_216 ?_
                            refine Go.bipush (v := 8) hx hb (by decide) d_Ref_step_217 ?_
                            refine Go.idiv hx hb (by decide) d_Ref_step_219 ?_
                            refine Go.aload_n hx hb 3 rfl d_Ref_step_220 ?_
                            refine Go.get (v := .int (gI st 1)) hx hb hts in_Ref hown hK 0 (Rw_0 ad ca _) rfl 3 (by decide) (hts _ k_618) (fun _ h9 => h9) rfl d_Ref_step_221 ?_
                            refine Go.icmp_gt (tgt := 231) hx hb d_Ref_step_224 rfl (fun c224 => ?_) (fun c224 => ?_)
                            · replace h := (if_pos c224).symm.trans h
                              refine Go.iconst (v := 0) hx hb (by decide) d_Ref_step_231 ?_
                              refine Go.bipush (v := 8) hx hb (by decide) d_Ref_step_232 ?_
                              obtain ⟨r31, s31, q31, h⟩ := gb_some h
                              refine Go.callVi S hK hA 0 (Rw_0 ad ca _) rfl (fun sz9 => m_Ref_needs l D ad ca N _ sz9 _ _ r31 s31 q31) (cwV 2 hts (gwV k_747 k_749 k_40 k_67 k_750) rfl rfl rfl (by decide +kernel) ⟨Nat.le_of_ble_eq_true rfl, Nat.le_of_ble_eq_true rfl⟩) rfl rfl (Nat.le_of_ble_eq_true rfl) ⟨Nat.zero_le _, Nat.zero_le _⟩ d_Ref_step_234 ?_
                              refine Go.if_eq (tgt := 257) hx hb d_Ref_step_237 rfl (fun c237 => ?_) (fun c237 => ?_)
                              · replace h := (if_pos c237).symm.trans h
                                refine Go.aload_n hx hb 3 rfl d_Ref_step_257 ?_
                                refine Go.get (v := .int (gI s31 16)) hx hb hts in_Ref hown hK 0 (Rw_0 ad ca _) rfl 29 (by decide) (hts _ k_644) (fun _ h9 => h9) rfl d_Ref_step_258 ?_
                                refine Go.if_le (tgt := 276) hx hb d_Ref_step_261 rfl (fun c261 => ?_) (fun c261 => ?_)
                                · replace h := (if_pos c261).symm.trans h
                                  refine Go.iload_n hx hb 0 rfl d_Ref_step_276 ?_
                                  refine Go.if_ne (tgt := 290) hx hb d_Ref_step_277 rfl (fun z9 => absurd (by decide) z9) (fun _ => ?_)
                                  refine Go.aload_n hx hb 3 rfl d_Ref_step_280 ?_
                                  refine Go.dup hx hb rfl d_Ref_step_281 ?_
                                  refine Go.get (v := .int (gI s31 6)) hx hb hts in_Ref hown hK 0 (Rw_0 ad ca _) rfl 19 (by decide) (hts _ k_634) (fun _ h9 => h9) rfl d_Ref_step_282 ?_
                                  refine Go.iconst (v := 1) hx hb (by decide) d_Ref_step_285 ?_
                                  refine Go.iadd hx hb d_Ref_step_286 ?_
                                  refine Go.put (ty := (.int)) hx hb hts in_Ref ty_Ref tyok_Ref nm_Ref hown hK 0 (Rw_0 ad ca _) rfl 19 (by decide) (hts _ k_634) (fun _ h9 => h9) rfl (by decide +kernel) rfl rfl (Nat.le_of_ble_eq_true rfl) (uI s31 6 ((gI s31 6) + 1)) (Rs_I6 ad ca _ _) d_Ref_step_287 ?_
                                  exact Go.vret hx hb hr hK hlk h d_Ref_step_290
                                · replace h := (if_neg c261).symm.trans h
                                  refine Go.aload_n hx hb 3 rfl d_Ref_step_264 ?_
                                  refine Go.iconst (v := 3) hx hb (by decide) d_Ref_step_265 ?_
                                  refine Go.aload_n hx hb 3 rfl d_Ref_step_266 ?_
                                  refine Go.get (v := .int (gI s31 16)) hx hb hts in_Ref hown hK 0 (Rw_0 ad ca _) rfl 29 (by decide) (hts _ k_644) (fun _ h9 => h9) rfl d_Ref_step_267 ?_
                                  obtain ⟨_, s32, q32, h⟩ := gb_some h
                                  refine Go.callVv S hK hA 0 (Rw_0 ad ca _) rfl (fun sz9 => m_Ref_falls l D ad ca N _ sz9 _ _ _ s32 q32) (cwV 2 hts (gwV k_731 k_733 k_36 k_67 k_734) rfl rfl rfl (by decide +kernel) ⟨Nat.le_of_ble_eq_true rfl, Nat.le_of_ble_eq_true rfl⟩) rfl rfl (Nat.le_of_ble_eq_true rfl) ⟨Nat.zero_le _, Nat.zero_le _⟩ d_Ref_step_270 ?_
                                  refine Go.goto (tgt := 290) hx hb d_Ref_step_273 rfl ?_
                                  exact Go.vret hx hb hr hK hlk h d_Ref_step_290
                              · replace h := (if_neg c237).symm.trans h
                                refine Go.aload_n hx hb 3 rfl d_Ref_step_240 ?_
                                refine Go.bipush (v := 6) hx hb (by decide) d_Ref_step_241 ?_
                                refine Go.iload_n hx hb 1 rfl d_Ref_step_243 ?_
                                obtain ⟨_, s33, q33, h⟩ := gb_some h
                                refine Go.callVv S hK hA 0 (Rw_0 ad ca _) rfl (fun sz9 => m_Ref_acc l D ad ca N _ sz9 _ _ _ s33 q33) (cwV 2 hts (gwV k_739 k_741 k_38 k_67 k_742) rfl rfl rfl (by decide +kernel) ⟨Nat.le_of_ble_eq_true rfl, Nat.le_of_ble_eq_true rfl⟩) rfl rfl (Nat.le_of_ble_eq_true rfl) ⟨Nat.zero_le _, Nat.zero_le _⟩ d_Ref_step_244 ?_
                                refine Go.goto (tgt := 257) hx hb d_Ref_step_247 rfl ?_
                                refine Go.aload_n hx hb 3 rfl d_Ref_step_257 ?_
                                refine Go.get (v := .int (gI s33 16)) hx hb hts in_Ref hown hK 0 (Rw_0 ad ca _) rfl 29 (by decide) (hts _ k_644) (fun _ h9 => h9) rfl d_Ref_step_258 ?_
                                refine Go.if_le (tgt := 276) hx hb d_Ref_step_261 rfl (fun c261 => ?_) (fun c261 => ?_)
                                · replace h := (if_pos c261).symm.trans h
                                  refine Go.iload_n hx hb 0 rfl d_Ref_step_276 ?_
                                  refine Go.if_ne (tgt := 290) hx hb d_Ref_step_277 rfl (fun z9 => absurd (by decide) z9) (fun _ => ?_)
                                  refine Go.aload_n hx hb 3 rfl d_Ref_step_280 ?_
                                  refine Go.dup hx hb rfl d_Ref_step_281 ?_
                                  refine Go.get (v := .int (gI s33 6)) hx hb hts in_Ref hown hK 0 (Rw_0 ad ca _) rfl 19 (by decide) (hts _ k_634) (fun _ h9 => h9) rfl d_Ref_step_282 ?_
                                  refine Go.iconst (v := 1) hx hb (by decide) d_Ref_step_285 ?_
                                  refine Go.iadd hx hb d_Ref_step_286 ?_
                                  refine Go.put (ty := (.int)) hx hb hts in_Ref ty_Ref tyok_Ref nm_Ref hown hK 0 (Rw_0 ad ca _) rfl 19 (by decide) (hts _ k_634) (fun _ h9 => h9) rfl (by decide +kernel) rfl rfl (Nat.le_of_ble_eq_true rfl) (uI s33 6 ((gI s33 6) + 1)) (Rs_I6 ad ca _ _) d_Ref_step_287 ?_
                                  exact Go.vret hx hb hr hK hlk h d_Ref_step_290
                                · replace h := (if_neg c261).symm.trans h
                                  refine Go.aload_n hx hb 3 rfl d_Ref_step_264 ?_
                                  refine Go.iconst (v := 3) hx hb (by decide) d_Ref_step_265 ?_
                                  refine Go.aload_n hx hb 3 rfl d_Ref_step_266 ?_
                                  refine Go.get (v := .int (gI s33 16)) hx hb hts in_Ref hown hK 0 (Rw_0 ad ca _) rfl 29 (by decide) (hts _ k_644) (fun _ h9 => h9) rfl d_Ref_step_267 ?_
                                  obtain ⟨_, s34, q34, h⟩ := gb_some h
                                  refine Go.callVv S hK hA 0 (Rw_0 ad ca _) rfl (fun sz9 => m_Ref_falls l D ad ca N _ sz9 _ _ _ s34 q34) (cwV 2 hts (gwV k_731 k_733 k_36 k_67 k_734) rfl rfl rfl (by decide +kernel) ⟨Nat.le_of_ble_eq_true rfl, Nat.le_of_ble_eq_true rfl⟩) rfl rfl (Nat.le_of_ble_eq_true rfl) ⟨Nat.zero_le _, Nat.zero_le _⟩ d_Ref_step_270 ?_
                                  refine Go.goto (tgt := 290) hx hb d_Ref_step_273 rfl ?_
                                  exact Go.vret hx hb hr hK hlk h d_Ref_step_290
                            · replace h := (if_neg c224).symm.trans h
                              refine Go.iconst (v := 1) hx hb (by decide) d_Ref_step_227 ?_
                              refine Go.goto (tgt := 232) hx hb d_Ref_step_228 rfl ?_
                              refine Go.bipush (v := 8) hx hb (by decide) d_Ref_step_232 ?_
                              obtain ⟨r35, s35, q35, h⟩ := gb_some h
                              refine Go.callVi S hK hA 0 (Rw_0 ad ca _) rfl (fun sz9 => m_Ref_needs l D ad ca N _ sz9 _ _ r35 s35 q35) (cwV 2 hts (gwV k_747 k_749 k_40 k_67 k_750) rfl rfl rfl (by decide +kernel) ⟨Nat.le_of_ble_eq_true rfl, Nat.le_of_ble_eq_true rfl⟩) rfl rfl (Nat.le_of_ble_eq_true rfl) ⟨Nat.zero_le _, Nat.zero_le _⟩ d_Ref_step_234 ?_
                              refine Go.if_eq (tgt := 257) hx hb d_Ref_step_237 rfl (fun c237 => ?_) (fun c237 => ?_)
                              · replace h := (if_pos c237).symm.trans h
                                refine Go.aload_n hx hb 3 rfl d_Ref_step_257 ?_
                                refine Go.get (v := .int (gI s35 16)) hx hb hts in_Ref hown hK 0 (Rw_0 ad ca _) rfl 29 (by decide) (hts _ k_644) (fun _ h9 => h9) rfl d_Ref_step_258 ?_
                                refine Go.if_le (tgt := 276) hx hb d_Ref_step_261 rfl (fun c261 => ?_) (fun c261 => ?_)
                                · replace h := (if_pos c261).symm.trans h
                                  refine Go.iload_n hx hb 0 rfl d_Ref_step_276 ?_
                                  refine Go.if_ne (tgt := 290) hx hb d_Ref_step_277 rfl (fun z9 => absurd (by decide) z9) (fun _ => ?_)
                                  refine Go.aload_n hx hb 3 rfl d_Ref_step_280 ?_
                                  refine Go.dup hx hb rfl d_Ref_step_281 ?_
                                  refine Go.get (v := .int (gI s35 6)) hx hb hts in_Ref hown hK 0 (Rw_0 ad ca _) rfl 19 (by decide) (hts _ k_634) (fun _ h9 => h9) rfl d_Ref_step_282 ?_
                                  refine Go.iconst (v := 1) hx hb (by decide) d_Ref_step_285 ?_
                                  refine Go.iadd hx hb d_Ref_step_286 ?_
                                  refine Go.put (ty := (.int)) hx hb hts in_Ref ty_Ref tyok_Ref nm_Ref hown hK 0 (Rw_0 ad ca _) rfl 19 (by decide) (hts _ k_634) (fun _ h9 => h9) rfl (by decide +kernel) rfl rfl (Nat.le_of_ble_eq_true rfl) (uI s35 6 ((gI s35 6) + 1)) (Rs_I6 ad ca _ _) d_Ref_step_287 ?_
                                  exact Go.vret hx hb hr hK hlk h d_Ref_step_290
                                · replace h := (if_neg c261).symm.trans h
                                  refine Go.aload_n hx hb 3 rfl d_Ref_step_264 ?_
                                  refine Go.iconst (v := 3) hx hb (by decide) d_Ref_step_265 ?_
                                  refine Go.aload_n hx hb 3 rfl d_Ref_step_266 ?_
                                  refine Go.get (v := .int (gI s35 16)) hx hb hts in_Ref hown hK 0 (Rw_0 ad ca _) rfl 29 (by decide) (hts _ k_644) (fun _ h9 => h9) rfl d_Ref_step_267 ?_
                                  obtain ⟨_, s36, q36, h⟩ := gb_some h
                                  refine Go.callVv S hK hA 0 (Rw_0 ad ca _) rfl (fun sz9 => m_Ref_falls l D ad ca N _ sz9 _ _ _ s36 q36) (cwV 2 hts (gwV k_731 k_733 k_36 k_67 k_734) rfl rfl rfl (by decide +kernel) ⟨Nat.le_of_ble_eq_true rfl, Nat.le_of_ble_eq_true rfl⟩) rfl rfl (Nat.le_of_ble_eq_true rfl) ⟨Nat.zero_le _, Nat.zero_le _⟩ d_Ref_step_270 ?_
                                  refine Go.goto (tgt := 290) hx hb d_Ref_step_273 rfl ?_
                                  exact Go.vret hx hb hr hK hlk h d_Ref_step_290
                              · replace h := (if_neg c237).symm.trans h
                                refine Go.aload_n hx hb 3 rfl d_Ref_step_240 ?_
                                refine Go.bipush (v := 6) hx hb (by decide) d_Ref_step_241 ?_
                                refine Go.iload_n hx hb 1 rfl d_Ref_step_243 ?_
                                obtain ⟨_, s37, q37, h⟩ := gb_some h
                                refine Go.callVv S hK hA 0 (Rw_0 ad ca _) rfl (fun sz9 => m_Ref_acc l D ad ca N _ sz9 _ _ _ s37 q37) (cwV 2 hts (gwV k_739 k_741 k_38 k_67 k_742) rfl rfl rfl (by decide +kernel) ⟨Nat.le_of_ble_eq_true rfl, Nat.le_of_ble_eq_true rfl⟩) rfl rfl (Nat.le_of_ble_eq_true rfl) ⟨Nat.zero_le _, Nat.zero_le _⟩ d_Ref_step_244 ?_
                                refine Go.goto (tgt := 257) hx hb d_Ref_step_247 rfl ?_
                                refine Go.aload_n hx hb 3 rfl d_Ref_step_257 ?_
                                refine Go.get (v := .int (gI s37 16)) hx hb hts in_Ref hown hK 0 (Rw_0 ad ca _) rfl 29 (by decide) (hts _ k_644) (fun _ h9 => h9) rfl d_Ref_step_258 ?_
                                refine Go.if_le (tgt := 276) hx hb d_Ref_step_261 rfl (fun c261 => ?_) (fun c261 => ?_)
                                · replace h := (if_pos c261).symm.trans h
                                  refine Go.iload_n hx hb 0 rfl d_Ref_step_276 ?_
                                  refine Go.if_ne (tgt := 290) hx hb d_Ref_step_277 rfl (fun z9 => absurd (by decide) z9) (fun _ => ?_)
                                  refine Go.aload_n hx hb 3 rfl d_Ref_step_280 ?_
                                  refine Go.dup hx hb rfl d_Ref_step_281 ?_
                                  refine Go.get (v := .int (gI s37 6)) hx hb hts in_Ref hown hK 0 (Rw_0 ad ca _) rfl 19 (by decide) (hts _ k_634) (fun _ h9 => h9) rfl d_Ref_step_282 ?_
                                  refine Go.iconst (v := 1) hx hb (by decide) d_Ref_step_285 ?_
                                  refine Go.iadd hx hb d_Ref_step_286 ?_
                                  refine Go.put (ty := (.int)) hx hb hts in_Ref ty_Ref tyok_Ref nm_Ref hown hK 0 (Rw_0 ad ca _) rfl 19 (by decide) (hts _ k_634) (fun _ h9 => h9) rfl (by decide +kernel) rfl rfl (Nat.le_of_ble_eq_true rfl) (uI s37 6 ((gI s37 6) + 1)) (Rs_I6 ad ca _ _) d_Ref_step_287 ?_
                                  exact Go.vret hx hb hr hK hlk h d_Ref_step_290
                                · replace h := (if_neg c261).symm.trans h
                                  refine Go.aload_n hx hb 3 rfl d_Ref_step_264 ?_
                                  refine Go.iconst (v := 3) hx hb (by decide) d_Ref_step_265 ?_
                                  refine Go.aload_n hx hb 3 rfl d_Ref_step_266 ?_
                                  refine Go.get (v := .int (gI s37 16)) hx hb hts in_Ref hown hK 0 (Rw_0 ad ca _) rfl 29 (by decide) (hts _ k_644) (fun _ h9 => h9) rfl d_Ref_step_267 ?_
                                  obtain ⟨_, s38, q38, h⟩ := gb_some h
                                  refine Go.callVv S hK hA 0 (Rw_0 ad ca _) rfl (fun sz9 => m_Ref_falls l D ad ca N _ sz9 _ _ _ s38 q38) (cwV 2 hts (gwV k_731 k_733 k_36 k_67 k_734) rfl rfl rfl (by decide +kernel) ⟨Nat.le_of_ble_eq_true rfl, Nat.le_of_ble_eq_true rfl⟩) rfl rfl (Nat.le_of_ble_eq_true rfl) ⟨Nat.zero_le _, Nat.zero_le _⟩ d_Ref_step_270 ?_
                                  refine Go.goto (tgt := 290) hx hb d_Ref_step_273 rfl ?_
                                  exact Go.vret hx hb hr hK hlk h d_Ref_step_290
                      · replace h := (if_pos c194).symm.trans h
                        refine Go.aload_n hx hb 3 rfl d_Ref_step_197 ?_
                        refine Go.iload_n hx hb 1 rfl d_Ref_step_198 ?_
                        obtain ⟨_, s39, q39, h⟩ := gb_some h
                        refine Go.callVv S hK hA 0 (Rw_0 ad ca _) rfl (fun sz9 => m_Ref_array l D ad ca N _ sz9 _ _ s39 q39) (cwV 1 hts (gwV k_810 k_812 k_55 k_67 k_813) rfl rfl rfl (by decide +kernel) ⟨Nat.le_of_ble_eq_true rfl, Nat.le_of_ble_eq_true rfl⟩) rfl rfl (Nat.le_of_ble_eq_true rfl) ⟨Nat.zero_le _, Nat.zero_le _⟩ d_Ref_step_199 ?_
                        refine Go.goto (tgt := 257) hx hb d_Ref_step_202 rfl ?_
                        refine Go.aload_n hx hb 3 rfl d_Ref_step_257 ?_
                        refine Go.get (v := .int (gI s39 16)) hx hb hts in_Ref hown hK 0 (Rw_0 ad ca _) rfl 29 (by decide) (hts _ k_644) (fun _ h9 => h9) rfl d_Ref_step_258 ?_
                        refine Go.if_le (tgt := 276) hx hb d_Ref_step_261 rfl (fun c261 => ?_) (fun c261 => ?_)
                        · replace h := (if_pos c261).symm.trans h
                          refine Go.iload_n hx hb 0 rfl d_Ref_step_276 ?_
                          refine Go.if_ne (tgt := 290) hx hb d_Ref_step_277 rfl (fun z9 => absurd (by decide) z9) (fun _ => ?_)
                          refine Go.aload_n hx hb 3 rfl d_Ref_step_280 ?_
                          refine Go.dup hx hb rfl d_Ref_step_281 ?_
                          refine Go.get (v := .int (gI s39 6)) hx hb hts in_Ref hown hK 0 (Rw_0 ad ca _) rfl 19 (by decide) (hts _ k_634) (fun _ h9 => h9) rfl d_Ref_step_282 ?_
                          refine Go.iconst (v := 1) hx hb (by decide) d_Ref_step_285 ?_
                          refine Go.iadd hx hb d_Ref_step_286 ?_
                          refine Go.put (ty := (.int)) hx hb hts in_Ref ty_Ref tyok_Ref nm_Ref hown hK 0 (Rw_0 ad ca _) rfl 19 (by decide) (hts _ k_634) (fun _ h9 => h9) rfl (by decide +kernel) rfl rfl (Nat.le_of_ble_eq_true rfl) (uI s39 6 ((gI s39 6) + 1)) (Rs_I6 ad ca _ _) d_Ref_step_287 ?_
                          exact Go.vret hx hb hr hK hlk h d_Ref_step_290
                        · replace h := (if_neg c261).symm.trans h
                          refine Go.aload_n hx hb 3 rfl d_Ref_step_264 ?_
                          refine Go.iconst (v := 3) hx hb (by decide) d_Ref_step_265 ?_
                          refine Go.aload_n hx hb 3 rfl d_Ref_step_266 ?_
                          refine Go.get (v := .int (gI s39 16)) hx hb hts in_Ref hown hK 0 (Rw_0 ad ca _) rfl 29 (by decide) (hts _ k_644) (fun _ h9 => h9) rfl d_Ref_step_267 ?_
                          obtain ⟨_, s40, q40, h⟩ := gb_some h
                          refine Go.callVv S hK hA 0 (Rw_0 ad ca _) rfl (fun sz9 => m_Ref_falls l D ad ca N _ sz9 _ _ _ s40 q40) (cwV 2 hts (gwV k_731 k_733 k_36 k_67 k_734) rfl rfl rfl (by decide +kernel) ⟨Nat.le_of_ble_eq_true rfl, Nat.le_of_ble_eq_true rfl⟩) rfl rfl (Nat.le_of_ble_eq_true rfl) ⟨Nat.zero_le _, Nat.zero_le _⟩ d_Ref_step_270 ?_
                          refine Go.goto (tgt := 290) hx hb d_Ref_step_273 rfl ?_
                          exact Go.vret hx hb hr hK hlk h d_Ref_step_290
                    · replace h := (if_pos c181).symm.trans h
                      refine Go.aload_n hx hb 3 rfl d_Ref_step_184 ?_
                      obtain ⟨_, s41, q41, h⟩ := gb_some h
                      refine Go.callVv S hK hA 0 (Rw_0 ad ca _) rfl (fun sz9 => m_Ref_object l D ad ca N _ sz9 _ s41 q41) (cwV 0 hts (gwV k_790 k_792 k_50 k_67 k_793) rfl rfl rfl (by decide +kernel) ⟨Nat.le_of_ble_eq_true rfl, Nat.le_of_ble_eq_true rfl⟩) rfl rfl (Nat.le_of_ble_eq_true rfl) ⟨Nat.zero_le _, Nat.zero_le _⟩ d_Ref_step_185 ?_
                      refine Go.goto (tgt := 257) hx hb d_Ref_step_188 rfl ?_
                      refine Go.aload_n hx hb 3 rfl d_Ref_step_257 ?_
                      refine Go.get (v := .int (gI s41 16)) hx hb hts in_Ref hown hK 0 (Rw_0 ad ca _) rfl 29 (by decide) (hts _ k_644) (fun _ h9 => h9) rfl d_Ref_step_258 ?_
                      refine Go.if_le (tgt := 276) hx hb d_Ref_step_261 rfl (fun c261 => ?_) (fun c261 => ?_)
                      · replace h := (if_pos c261).symm.trans h
                        refine Go.iload_n hx hb 0 rfl d_Ref_step_276 ?_
                        refine Go.if_ne (tgt := 290) hx hb d_Ref_step_277 rfl (fun z9 => absurd (by decide) z9) (fun _ => ?_)
                        refine Go.aload_n hx hb 3 rfl d_Ref_step_280 ?_
                        refine Go.dup hx hb rfl d_Ref_step_281 ?_
                        refine Go.get (v := .int (gI s41 6)) hx hb hts in_Ref hown hK 0 (Rw_0 ad ca _) rfl 19 (by decide) (hts _ k_634) (fun _ h9 => h9) rfl d_Ref_step_282 ?_
                        refine Go.iconst (v := 1) hx hb (by decide) d_Ref_step_285 ?_
                        refine Go.iadd hx hb d_Ref_step_286 ?_
                        refine Go.put (ty := (.int)) hx hb hts in_Ref ty_Ref tyok_Ref nm_Ref hown hK 0 (Rw_0 ad ca _) rfl 19 (by decide) (hts _ k_634) (fun _ h9 => h9) rfl (by decide +kernel) rfl rfl (Nat.le_of_ble_eq_true rfl) (uI s41 6 ((gI s41 6) + 1)) (Rs_I6 ad ca _ _) d_Ref_step_287 ?_
                        exact Go.vret hx hb hr hK hlk h d_Ref_step_290
                      · replace h := (if_neg c261).symm.trans h
                        refine Go.aload_n hx hb 3 rfl d_Ref_step_264 ?_
                        refine Go.iconst (v := 3) hx hb (by decide) d_Ref_step_265 ?_
                        refine Go.aload_n hx hb 3 rfl d_Ref_step_266 ?_
                        refine Go.get (v := .int (gI s41 16)) hx hb hts in_Ref hown hK 0 (Rw_0 ad ca _) rfl 29 (by decide) (hts _ k_644) (fun _ h9 => h9) rfl d_Ref_step_267 ?_
                        obtain ⟨_, s42, q42, h⟩ := gb_some h
                        refine Go.callVv S hK hA 0 (Rw_0 ad ca _) rfl (fun sz9 => m_Ref_falls l D ad ca N _ sz9 _ _ _ s42 q42) (cwV 2 hts (gwV k_731 k_733 k_36 k_67 k_734) rfl rfl rfl (by decide +kernel) ⟨Nat.le_of_ble_eq_true rfl, Nat.le_of_ble_eq_true rfl⟩) rfl rfl (Nat.le_of_ble_eq_true rfl) ⟨Nat.zero_le _, Nat.zero_le _⟩ d_Ref_step_270 ?_
                        refine Go.goto (tgt := 290) hx hb d_Ref_step_273 rfl ?_
                        exact Go.vret hx hb hr hK hlk h d_Ref_step_290
                  · replace h := (if_pos c163).symm.trans h
                    refine Go.aload_n hx hb 3 rfl d_Ref_step_166 ?_
                    refine Go.iconst (v := 3) hx hb (by decide) d_Ref_step_167 ?_
                    refine Go.aload_n hx hb 3 rfl d_Ref_step_168 ?_
                    refine Go.get (v := .int (gI st 2)) hx hb hts in_Ref hown hK 0 (Rw_0 ad ca _) rfl 4 (by decide) (hts _ k_619) (fun _ h9 => h9) rfl d_Ref_step_169 ?_
                    obtain ⟨_, s43, q43, h⟩ := gb_some h
                    refine Go.callVv S hK hA 0 (Rw_0 ad ca _) rfl (fun sz9 => m_Ref_acc l D ad ca N _ sz9 _ _ _ s43 q43) (cwV 2 hts (gwV k_739 k_741 k_38 k_67 k_742) rfl rfl rfl (by decide +kernel) ⟨Nat.le_of_ble_eq_true rfl, Nat.le_of_ble_eq_true rfl⟩) rfl rfl (Nat.le_of_ble_eq_true rfl) ⟨Nat.zero_le _, Nat.zero_le _⟩ d_Ref_step_172 ?_
                    refine Go.goto (tgt := 257) hx hb d_Ref_step_175 rfl ?_
                    refine Go.aload_n hx hb 3 rfl d_Ref_step_257 ?_
                    refine Go.get (v := .int (gI s43 16)) hx hb hts in_Ref hown hK 0 (Rw_0 ad ca _) rfl 29 (by decide) (hts _ k_644) (fun _ h9 => h9) rfl d_Ref_step_258 ?_
                    refine Go.if_le (tgt := 276) hx hb d_Ref_step_261 rfl (fun c261 => ?_) (fun c261 => ?_)
                    · replace h := (if_pos c261).symm.trans h
                      refine Go.iload_n hx hb 0 rfl d_Ref_step_276 ?_
                      refine Go.if_ne (tgt := 290) hx hb d_Ref_step_277 rfl (fun z9 => absurd (by decide) z9) (fun _ => ?_)
                      refine Go.aload_n hx hb 3 rfl d_Ref_step_280 ?_
                      refine Go.dup hx hb rfl d_Ref_step_281 ?_
                      refine Go.get (v := .int (gI s43 6)) hx hb hts in_Ref hown hK 0 (Rw_0 ad ca _) rfl 19 (by decide) (hts _ k_634) (fun _ h9 => h9) rfl d_Ref_step_282 ?_
                      refine Go.iconst (v := 1) hx hb (by decide) d_Ref_step_285 ?_
                      refine Go.iadd hx hb d_Ref_step_286 ?_
                      refine Go.put (ty := (.int)) hx hb hts in_Ref ty_Ref tyok_Ref nm_Ref hown hK 0 (Rw_0 ad ca _) rfl 19 (by decide) (hts _ k_634) (fun _ h9 => h9) rfl (by decide +kernel) rfl rfl (Nat.le_of_ble_eq_true rfl) (uI s43 6 ((gI s43 6) + 1)) (Rs_I6 ad ca _ _) d_Ref_step_287 ?_
                      exact Go.vret hx hb hr hK hlk h d_Ref_step_290
                    · replace h := (if_neg c261).symm.trans h
                      refine Go.aload_n hx hb 3 rfl d_Ref_step_264 ?_
                      refine Go.iconst (v := 3) hx hb (by decide) d_Ref_step_265 ?_
                      refine Go.aload_n hx hb 3 rfl d_Ref_step_266 ?_
                      refine Go.get (v := .int (gI s43 16)) hx hb hts in_Ref hown hK 0 (Rw_0 ad ca _) rfl 29 (by decide) (hts _ k_644) (fun _ h9 => h9) rfl d_Ref_step_267 ?_
                      obtain ⟨_, s44, q44, h⟩ := gb_some h
                      refine Go.callVv S hK hA 0 (Rw_0 ad ca _) rfl (fun sz9 => m_Ref_falls l D ad ca N _ sz9 _ _ _ s44 q44) (cwV 2 hts (gwV k_731 k_733 k_36 k_67 k_734) rfl rfl rfl (by decide +kernel) ⟨Nat.le_of_ble_eq_true rfl, Nat.le_of_ble_eq_true rfl⟩) rfl rfl (Nat.le_of_ble_eq_true rfl) ⟨Nat.zero_le _, Nat.zero_le _⟩ d_Ref_step_270 ?_
                      refine Go.goto (tgt := 290) hx hb d_Ref_step_273 rfl ?_
                      exact Go.vret hx hb hr hK hlk h d_Ref_step_290
                · replace h := (if_pos c137).symm.trans h
                  refine Go.aload_n hx hb 3 rfl d_Ref_step_140 ?_
                  refine Go.aload_n hx hb 3 rfl d_Ref_step_141 ?_
                  refine Go.get (v := .int (gI st 2)) hx hb hts in_Ref hown hK 0 (Rw_0 ad ca _) rfl 4 (by decide) (hts _ k_619) (fun _ h9 => h9) rfl d_Ref_step_142 ?_
                  refine Go.iconst (v := 2) hx hb (by decide) d_Ref_step_145 ?_
                  refine Go.icmp_eq (tgt := 153) hx hb d_Ref_step_146 rfl (fun c146 => ?_) (fun c146 => ?_)
                  · replace h := (if_pos c146).symm.trans h
                    refine Go.iconst (v := 0) hx hb (by decide) d_Ref_step_153 ?_
                    obtain ⟨_, s45, q45, h⟩ := gb_some h
                    refine Go.callVv S hK hA 0 (Rw_0 ad ca _) rfl (fun sz9 => m_Ref_truth l D ad ca N _ sz9 _ _ s45 q45) (cwV 1 hts (gwV k_786 k_788 k_49 k_67 k_789) rfl rfl rfl (by decide +kernel) ⟨Nat.le_of_ble_eq_true rfl, Nat.le_of_ble_eq_true rfl⟩) rfl rfl (Nat.le_of_ble_eq_true rfl) ⟨Nat.zero_le _, Nat.zero_le _⟩ d_Ref_step_154 ?_
                    refine Go.goto (tgt := 257) hx hb d_Ref_step_157 rfl ?_
                    refine Go.aload_n hx hb 3 rfl d_Ref_step_257 ?_
                    refine Go.get (v := .int (gI s45 16)) hx hb hts in_Ref hown hK 0 (Rw_0 ad ca _) rfl 29 (by decide) (hts _ k_644) (fun _ h9 => h9) rfl d_Ref_step_258 ?_
                    refine Go.if_le (tgt := 276) hx hb d_Ref_step_261 rfl (fun c261 => ?_) (fun c261 => ?_)
                    · replace h := (if_pos c261).symm.trans h
                      refine Go.iload_n hx hb 0 rfl d_Ref_step_276 ?_
                      refine Go.if_ne (tgt := 290) hx hb d_Ref_step_277 rfl (fun z9 => absurd (by decide) z9) (fun _ => ?_)
                      refine Go.aload_n hx hb 3 rfl d_Ref_step_280 ?_
                      refine Go.dup hx hb rfl d_Ref_step_281 ?_
                      refine Go.get (v := .int (gI s45 6)) hx hb hts in_Ref hown hK 0 (Rw_0 ad ca _) rfl 19 (by decide) (hts _ k_634) (fun _ h9 => h9) rfl d_Ref_step_282 ?_
                      refine Go.iconst (v := 1) hx hb (by decide) d_Ref_step_285 ?_
                      refine Go.iadd hx hb d_Ref_step_286 ?_
                      refine Go.put (ty := (.int)) hx hb hts in_Ref ty_Ref tyok_Ref nm_Ref hown hK 0 (Rw_0 ad ca _) rfl 19 (by decide) (hts _ k_634) (fun _ h9 => h9) rfl (by decide +kernel) rfl rfl (Nat.le_of_ble_eq_true rfl) (uI s45 6 ((gI s45 6) + 1)) (Rs_I6 ad ca _ _) d_Ref_step_287 ?_
                      exact Go.vret hx hb hr hK hlk h d_Ref_step_290
                    · replace h := (if_neg c261).symm.trans h
                      refine Go.aload_n hx hb 3 rfl d_Ref_step_264 ?_
                      refine Go.iconst (v := 3) hx hb (by decide) d_Ref_step_265 ?_
                      refine Go.aload_n hx hb 3 rfl d_Ref_step_266 ?_
                      refine Go.get (v := .int (gI s45 16)) hx hb hts in_Ref hown hK 0 (Rw_0 ad ca _) rfl 29 (by decide) (hts _ k_644) (fun _ h9 => h9) rfl d_Ref_step_267 ?_
                      obtain ⟨_, s46, q46, h⟩ := gb_some h
                      refine Go.callVv S hK hA 0 (Rw_0 ad ca _) rfl (fun sz9 => m_Ref_falls l D ad ca N _ sz9 _ _ _ s46 q46) (cwV 2 hts (gwV k_731 k_733 k_36 k_67 k_734) rfl rfl rfl (by decide +kernel) ⟨Nat.le_of_ble_eq_true rfl, Nat.le_of_ble_eq_true rfl⟩) rfl rfl (Nat.le_of_ble_eq_true rfl) ⟨Nat.zero_le _, Nat.zero_le _⟩ d_Ref_step_270 ?_
                      refine Go.goto (tgt := 290) hx hb d_Ref_step_273 rfl ?_
                      exact Go.vret hx hb hr hK hlk h d_Ref_step_290
                  · replace h := (if_neg c146).symm.trans h
                    refine Go.iconst (v := 1) hx hb (by decide) d_Ref_step_149 ?_
                    refine Go.goto (tgt := 154) hx hb d_Ref_step_150 rfl ?_
                    obtain ⟨_, s47, q47, h⟩ := gb_some h
                    refine Go.callVv S hK hA 0 (Rw_0 ad ca _) rfl (fun sz9 => m_Ref_truth l D ad ca N _ sz9 _ _ s47 q47) (cwV 1 hts (gwV k_786 k_788 k_49 k_67 k_789) rfl rfl rfl (by decide +kernel) ⟨Nat.le_of_ble_eq_true rfl, Nat.le_of_ble_eq_true rfl⟩) rfl rfl (Nat.le_of_ble_eq_true rfl) ⟨Nat.zero_le _, Nat.zero_le _⟩ d_Ref_step_154 ?_
                    refine Go.goto (tgt := 257) hx hb d_Ref_step_157 rfl ?_
                    refine Go.aload_n hx hb 3 rfl d_Ref_step_257 ?_
                    refine Go.get (v := .int (gI s47 16)) hx hb hts in_Ref hown hK 0 (Rw_0 ad ca _) rfl 29 (by decide) (hts _ k_644) (fun _ h9 => h9) rfl d_Ref_step_258 ?_
                    refine Go.if_le (tgt := 276) hx hb d_Ref_step_261 rfl (fun c261 => ?_) (fun c261 => ?_)
                    · replace h := (if_pos c261).symm.trans h
                      refine Go.iload_n hx hb 0 rfl d_Ref_step_276 ?_
                      refine Go.if_ne (tgt := 290) hx hb d_Ref_step_277 rfl (fun z9 => absurd (by decide) z9) (fun _ => ?_)
                      refine Go.aload_n hx hb 3 rfl d_Ref_step_280 ?_
                      refine Go.dup hx hb rfl d_Ref_step_281 ?_
                      refine Go.get (v := .int (gI s47 6)) hx hb hts in_Ref hown hK 0 (Rw_0 ad ca _) rfl 19 (by decide) (hts _ k_634) (fun _ h9 => h9) rfl d_Ref_step_282 ?_
                      refine Go.iconst (v := 1) hx hb (by decide) d_Ref_step_285 ?_
                      refine Go.iadd hx hb d_Ref_step_286 ?_
                      refine Go.put (ty := (.int)) hx hb hts in_Ref ty_Ref tyok_Ref nm_Ref hown hK 0 (Rw_0 ad ca _) rfl 19 (by decide) (hts _ k_634) (fun _ h9 => h9) rfl (by decide +kernel) rfl rfl (Nat.le_of_ble_eq_true rfl) (uI s47 6 ((gI s47 6) + 1)) (Rs_I6 ad ca _ _) d_Ref_step_287 ?_
                      exact Go.vret hx hb hr hK hlk h d_Ref_step_290
                    · replace h := (if_neg c261).symm.trans h
                      refine Go.aload_n hx hb 3 rfl d_Ref_step_264 ?_
                      refine Go.iconst (v := 3) hx hb (by decide) d_Ref_step_265 ?_
                      refine Go.aload_n hx hb 3 rfl d_Ref_step_266 ?_
                      refine Go.get (v := .int (gI s47 16)) hx hb hts in_Ref hown hK 0 (Rw_0 ad ca _) rfl 29 (by decide) (hts _ k_644) (fun _ h9 => h9) rfl d_Ref_step_267 ?_
                      obtain ⟨_, s48, q48, h⟩ := gb_some h
                      refine Go.callVv S hK hA 0 (Rw_0 ad ca _) rfl (fun sz9 => m_Ref_falls l D ad ca N _ sz9 _ _ _ s48 q48) (cwV 2 hts (gwV k_731 k_733 k_36 k_67 k_734) rfl rfl rfl (by decide +kernel) ⟨Nat.le_of_ble_eq_true rfl, Nat.le_of_ble_eq_true rfl⟩) rfl rfl (Nat.le_of_ble_eq_true rfl) ⟨Nat.zero_le _, Nat.zero_le _⟩ d_Ref_step_270 ?_
                      refine Go.goto (tgt := 290) hx hb d_Ref_step_273 rfl ?_
                      exact Go.vret hx hb hr hK hlk h d_Ref_step_290
              · replace h := (if_neg c123).symm.trans h
                refine Go.aload_n hx hb 3 rfl d_Ref_step_126 ?_
                refine Go.iload_n hx hb 2 rfl d_Ref_step_127 ?_
                obtain ⟨_, s49, q49, h⟩ := gb_some h
                refine Go.callVv S hK hA 0 (Rw_0 ad ca _) rfl (fun sz9 => m_Ref_reckons l D ad ca N _ sz9 _ _ s49 q49) (cwV 1 hts (gwV k_779 k_781 k_48 k_67 k_782) rfl rfl rfl (by decide +kernel) ⟨Nat.le_of_ble_eq_true rfl, Nat.le_of_ble_eq_true rfl⟩) rfl rfl (Nat.le_of_ble_eq_true rfl) ⟨Nat.zero_le _, Nat.zero_le _⟩ d_Ref_step_128 ?_
                refine Go.goto (tgt := 257) hx hb d_Ref_step_131 rfl ?_
                refine Go.aload_n hx hb 3 rfl d_Ref_step_257 ?_
                refine Go.get (v := .int (gI s49 16)) hx hb hts in_Ref hown hK 0 (Rw_0 ad ca _) rfl 29 (by decide) (hts _ k_644) (fun _ h9 => h9) rfl d_Ref_step_258 ?_
                refine Go.if_le (tgt := 276) hx hb d_Ref_step_261 rfl (fun c261 => ?_) (fun c261 => ?_)
                · replace h := (if_pos c261).symm.trans h
                  refine Go.iload_n hx hb 0 rfl d_Ref_step_276 ?_
                  refine Go.if_ne (tgt := 290) hx hb d_Ref_step_277 rfl (fun z9 => absurd (by decide) z9) (fun _ => ?_)
                  refine Go.aload_n hx hb 3 rfl d_Ref_step_280 ?_
                  refine Go.dup hx hb rfl d_Ref_step_281 ?_
                  refine Go.get (v := .int (gI s49 6)) hx hb hts in_Ref hown hK 0 (Rw_0 ad ca _) rfl 19 (by decide) (hts _ k_634) (fun _ h9 => h9) rfl d_Ref_step_282 ?_
                  refine Go.iconst (v := 1) hx hb (by decide) d_Ref_step_285 ?_
                  refine Go.iadd hx hb d_Ref_step_286 ?_
                  refine Go.put (ty := (.int)) hx hb hts in_Ref ty_Ref tyok_Ref nm_Ref hown hK 0 (Rw_0 ad ca _) rfl 19 (by decide) (hts _ k_634) (fun _ h9 => h9) rfl (by decide +kernel) rfl rfl (Nat.le_of_ble_eq_true rfl) (uI s49 6 ((gI s49 6) + 1)) (Rs_I6 ad ca _ _) d_Ref_step_287 ?_
                  exact Go.vret hx hb hr hK hlk h d_Ref_step_290
                · replace h := (if_neg c261).symm.trans h
                  refine Go.aload_n hx hb 3 rfl d_Ref_step_264 ?_
                  refine Go.iconst (v := 3) hx hb (by decide) d_Ref_step_265 ?_
                  refine Go.aload_n hx hb 3 rfl d_Ref_step_266 ?_
                  refine Go.get (v := .int (gI s49 16)) hx hb hts in_Ref hown hK 0 (Rw_0 ad ca _) rfl 29 (by decide) (hts _ k_644) (fun _ h9 => h9) rfl d_Ref_step_267 ?_
                  obtain ⟨_, s50, q50, h⟩ := gb_some h
                  refine Go.callVv S hK hA 0 (Rw_0 ad ca _) rfl (fun sz9 => m_Ref_falls l D ad ca N _ sz9 _ _ _ s50 q50) (cwV 2 hts (gwV k_731 k_733 k_36 k_67 k_734) rfl rfl rfl (by decide +kernel) ⟨Nat.le_of_ble_eq_true rfl, Nat.le_of_ble_eq_true rfl⟩) rfl rfl (Nat.le_of_ble_eq_true rfl) ⟨Nat.zero_le _, Nat.zero_le _⟩ d_Ref_step_270 ?_
                  refine Go.goto (tgt := 290) hx hb d_Ref_step_273 rfl ?_
                  exact Go.vret hx hb hr hK hlk h d_Ref_step_290
          · replace h := (if_neg c102).symm.trans h
            refine Go.aload_n hx hb 3 rfl d_Ref_step_105 ?_
            refine Go.iload_n hx hb 2 rfl d_Ref_step_106 ?_
            refine Go.iload_n hx hb 1 rfl d_Ref_step_107 ?_
            obtain ⟨_, s51, q51, h⟩ := gb_some h
            refine Go.callVv S hK hA 0 (Rw_0 ad ca _) rfl (fun sz9 => m_Ref_stores l D ad ca N _ sz9 _ _ _ s51 q51) (cwV 2 hts (gwV k_771 k_773 k_46 k_67 k_774) rfl rfl rfl (by decide +kernel) ⟨Nat.le_of_ble_eq_true rfl, Nat.le_of_ble_eq_true rfl⟩) rfl rfl (Nat.le_of_ble_eq_true rfl) ⟨Nat.zero_le _, Nat.zero_le _⟩ d_Ref_step_108 ?_
            refine Go.goto (tgt := 257) hx hb d_Ref_step_111 rfl ?_
            refine Go.aload_n hx hb 3 rfl d_Ref_step_257 ?_
            refine Go.get (v := .int (gI s51 16)) hx hb hts in_Ref hown hK 0 (Rw_0 ad ca _) rfl 29 (by decide) (hts _ k_644) (fun _ h9 => h9) rfl d_Ref_step_258 ?_
            refine Go.if_le (tgt := 276) hx hb d_Ref_step_261 rfl (fun c261 => ?_) (fun c261 => ?_)
            · replace h := (if_pos c261).symm.trans h
              refine Go.iload_n hx hb 0 rfl d_Ref_step_276 ?_
              refine Go.if_ne (tgt := 290) hx hb d_Ref_step_277 rfl (fun z9 => absurd (by decide) z9) (fun _ => ?_)
              refine Go.aload_n hx hb 3 rfl d_Ref_step_280 ?_
              refine Go.dup hx hb rfl d_Ref_step_281 ?_
              refine Go.get (v := .int (gI s51 6)) hx hb hts in_Ref hown hK 0 (Rw_0 ad ca _) rfl 19 (by decide) (hts _ k_634) (fun _ h9 => h9) rfl d_Ref_step_282 ?_
              refine Go.iconst (v := 1) hx hb (by decide) d_Ref_step_285 ?_
              refine Go.iadd hx hb d_Ref_step_286 ?_
              refine Go.put (ty := (.int)) hx hb hts in_Ref ty_Ref tyok_Ref nm_Ref hown hK 0 (Rw_0 ad ca _) rfl 19 (by decide) (hts _ k_634) (fun _ h9 => h9) rfl (by decide +kernel) rfl rfl (Nat.le_of_ble_eq_true rfl) (uI s51 6 ((gI s51 6) + 1)) (Rs_I6 ad ca _ _) d_Ref_step_287 ?_
              exact Go.vret hx hb hr hK hlk h d_Ref_step_290
            · replace h := (if_neg c261).symm.trans h
              refine Go.aload_n hx hb 3 rfl d_Ref_step_264 ?_
              refine Go.iconst (v := 3) hx hb (by decide) d_Ref_step_265 ?_
              refine Go.aload_n hx hb 3 rfl d_Ref_step_266 ?_
              refine Go.get (v := .int (gI s51 16)) hx hb hts in_Ref hown hK 0 (Rw_0 ad ca _) rfl 29 (by decide) (hts _ k_644) (fun _ h9 => h9) rfl d_Ref_step_267 ?_
              obtain ⟨_, s52, q52, h⟩ := gb_some h
              refine Go.callVv S hK hA 0 (Rw_0 ad ca _) rfl (fun sz9 => m_Ref_falls l D ad ca N _ sz9 _ _ _ s52 q52) (cwV 2 hts (gwV k_731 k_733 k_36 k_67 k_734) rfl rfl rfl (by decide +kernel) ⟨Nat.le_of_ble_eq_true rfl, Nat.le_of_ble_eq_true rfl⟩) rfl rfl (Nat.le_of_ble_eq_true rfl) ⟨Nat.zero_le _, Nat.zero_le _⟩ d_Ref_step_270 ?_
              refine Go.goto (tgt := 290) hx hb d_Ref_step_273 rfl ?_
              exact Go.vret hx hb hr hK hlk h d_Ref_step_290
        · replace h := (if_neg c87).symm.trans h
          refine Go.aload_n hx hb 3 rfl d_Ref_step_90 ?_
          refine Go.iload_n hx hb 2 rfl d_Ref_step_91 ?_
          refine Go.iload_n hx hb 1 rfl d_Ref_step_92 ?_
          obtain ⟨_, s53, q53, h⟩ := gb_some h
          refine Go.callVv S hK hA 0 (Rw_0 ad ca _) rfl (fun sz9 => m_Ref_loads l D ad ca N _ sz9 _ _ _ s53 q53) (cwV 2 hts (gwV k_743 k_745 k_39 k_67 k_746) rfl rfl rfl (by decide +kernel) ⟨Nat.le_of_ble_eq_true rfl, Nat.le_of_ble_eq_true rfl⟩) rfl rfl (Nat.le_of_ble_eq_true rfl) ⟨Nat.zero_le _, Nat.zero_le _⟩ d_Ref_step_93 ?_
          refine Go.goto (tgt := 257) hx hb d_Ref_step_96 rfl ?_
          refine Go.aload_n hx hb 3 rfl d_Ref_step_257 ?_
          refine Go.get (v := .int (gI s53 16)) hx hb hts in_Ref hown hK 0 (Rw_0 ad ca _) rfl 29 (by decide) (hts _ k_644) (fun _ h9 => h9) rfl d_Ref_step_258 ?_
          refine Go.if_le (tgt := 276) hx hb d_Ref_step_261 rfl (fun c261 => ?_) (fun c261 => ?_)
          · replace h := (if_pos c261).symm.trans h
            refine Go.iload_n hx hb 0 rfl d_Ref_step_276 ?_
            refine Go.if_ne (tgt := 290) hx hb d_Ref_step_277 rfl (fun z9 => absurd (by decide) z9) (fun _ => ?_)
            refine Go.aload_n hx hb 3 rfl d_Ref_step_280 ?_
            refine Go.dup hx hb rfl d_Ref_step_281 ?_
            refine Go.get (v := .int (gI s53 6)) hx hb hts in_Ref hown hK 0 (Rw_0 ad ca _) rfl 19 (by decide) (hts _ k_634) (fun _ h9 => h9) rfl d_Ref_step_282 ?_
            refine Go.iconst (v := 1) hx hb (by decide) d_Ref_step_285 ?_
            refine Go.iadd hx hb d_Ref_step_286 ?_
            refine Go.put (ty := (.int)) hx hb hts in_Ref ty_Ref tyok_Ref nm_Ref hown hK 0 (Rw_0 ad ca _) rfl 19 (by decide) (hts _ k_634) (fun _ h9 => h9) rfl (by decide +kernel) rfl rfl (Nat.le_of_ble_eq_true rfl) (uI s53 6 ((gI s53 6) + 1)) (Rs_I6 ad ca _ _) d_Ref_step_287 ?_
            exact Go.vret hx hb hr hK hlk h d_Ref_step_290
          · replace h := (if_neg c261).symm.trans h
            refine Go.aload_n hx hb 3 rfl d_Ref_step_264 ?_
            refine Go.iconst (v := 3) hx hb (by decide) d_Ref_step_265 ?_
            refine Go.aload_n hx hb 3 rfl d_Ref_step_266 ?_
            refine Go.get (v := .int (gI s53 16)) hx hb hts in_Ref hown hK 0 (Rw_0 ad ca _) rfl 29 (by decide) (hts _ k_644) (fun _ h9 => h9) rfl d_Ref_step_267 ?_
            obtain ⟨_, s54, q54, h⟩ := gb_some h
            refine Go.callVv S hK hA 0 (Rw_0 ad ca _) rfl (fun sz9 => m_Ref_falls l D ad ca N _ sz9 _ _ _ s54 q54) (cwV 2 hts (gwV k_731 k_733 k_36 k_67 k_734) rfl rfl rfl (by decide +kernel) ⟨Nat.le_of_ble_eq_true rfl, Nat.le_of_ble_eq_true rfl⟩) rfl rfl (Nat.le_of_ble_eq_true rfl) ⟨Nat.zero_le _, Nat.zero_le _⟩ d_Ref_step_270 ?_
            refine Go.goto (tgt := 290) hx hb d_Ref_step_273 rfl ?_
            exact Go.vret hx hb hr hK hlk h d_Ref_step_290
      · replace h := (if_pos c72).symm.trans h
        refine Go.aload_n hx hb 3 rfl d_Ref_step_75 ?_
        refine Go.iconst (v := 3) hx hb (by decide) d_Ref_step_76 ?_
        refine Go.iload_n hx hb 1 rfl d_Ref_step_77 ?_
        obtain ⟨_, s55, q55, h⟩ := gb_some h
        refine Go.callVv S hK hA 0 (Rw_0 ad ca _) rfl (fun sz9 => m_Ref_acc l D ad ca N _ sz9 _ _ _ s55 q55) (cwV 2 hts (gwV k_739 k_741 k_38 k_67 k_742) rfl rfl rfl (by decide +kernel) ⟨Nat.le_of_ble_eq_true rfl, Nat.le_of_ble_eq_true rfl⟩) rfl rfl (Nat.le_of_ble_eq_true rfl) ⟨Nat.zero_le _, Nat.zero_le _⟩ d_Ref_step_78 ?_
        refine Go.goto (tgt := 257) hx hb d_Ref_step_81 rfl ?_
        refine Go.aload_n hx hb 3 rfl d_Ref_step_257 ?_
        refine Go.get (v := .int (gI s55 16)) hx hb hts in_Ref hown hK 0 (Rw_0 ad ca _) rfl 29 (by decide) (hts _ k_644) (fun _ h9 => h9) rfl d_Ref_step_258 ?_
        refine Go.if_le (tgt := 276) hx hb d_Ref_step_261 rfl (fun c261 => ?_) (fun c261 => ?_)
        · replace h := (if_pos c261).symm.trans h
          refine Go.iload_n hx hb 0 rfl d_Ref_step_276 ?_
          refine Go.if_ne (tgt := 290) hx hb d_Ref_step_277 rfl (fun z9 => absurd (by decide) z9) (fun _ => ?_)
          refine Go.aload_n hx hb 3 rfl d_Ref_step_280 ?_
          refine Go.dup hx hb rfl d_Ref_step_281 ?_
          refine Go.get (v := .int (gI s55 6)) hx hb hts in_Ref hown hK 0 (Rw_0 ad ca _) rfl 19 (by decide) (hts _ k_634) (fun _ h9 => h9) rfl d_Ref_step_282 ?_
          refine Go.iconst (v := 1) hx hb (by decide) d_Ref_step_285 ?_
          refine Go.iadd hx hb d_Ref_step_286 ?_
          refine Go.put (ty := (.int)) hx hb hts in_Ref ty_Ref tyok_Ref nm_Ref hown hK 0 (Rw_0 ad ca _) rfl 19 (by decide) (hts _ k_634) (fun _ h9 => h9) rfl (by decide +kernel) rfl rfl (Nat.le_of_ble_eq_true rfl) (uI s55 6 ((gI s55 6) + 1)) (Rs_I6 ad ca _ _) d_Ref_step_287 ?_
          exact Go.vret hx hb hr hK hlk h d_Ref_step_290
        · replace h := (if_neg c261).symm.trans h
          refine Go.aload_n hx hb 3 rfl d_Ref_step_264 ?_
          refine Go.iconst (v := 3) hx hb (by decide) d_Ref_step_265 ?_
          refine Go.aload_n hx hb 3 rfl d_Ref_step_266 ?_
          refine Go.get (v := .int (gI s55 16)) hx hb hts in_Ref hown hK 0 (Rw_0 ad ca _) rfl 29 (by decide) (hts _ k_644) (fun _ h9 => h9) rfl d_Ref_step_267 ?_
          obtain ⟨_, s56, q56, h⟩ := gb_some h
          refine Go.callVv S hK hA 0 (Rw_0 ad ca _) rfl (fun sz9 => m_Ref_falls l D ad ca N _ sz9 _ _ _ s56 q56) (cwV 2 hts (gwV k_731 k_733 k_36 k_67 k_734) rfl rfl rfl (by decide +kernel) ⟨Nat.le_of_ble_eq_true rfl, Nat.le_of_ble_eq_true rfl⟩) rfl rfl (Nat.le_of_ble_eq_true rfl) ⟨Nat.zero_le _, Nat.zero_le _⟩ d_Ref_step_270 ?_
          refine Go.goto (tgt := 290) hx hb d_Ref_step_273 rfl ?_
          exact Go.vret hx hb hr hK hlk h d_Ref_step_290
    · replace h := (if_neg c58).symm.trans h
      refine Go.aload_n hx hb 3 rfl d_Ref_step_61 ?_
      refine Go.iload_n hx hb 2 rfl d_Ref_step_62 ?_
      refine Go.iconst (v := 0) hx hb (by decide) d_Ref_step_63 ?_
      obtain ⟨_, s57, q57, h⟩ := gb_some h
      refine Go.callVv S hK hA 0 (Rw_0 ad ca _) rfl (fun sz9 => m_Ref_acc l D ad ca N _ sz9 _ _ _ s57 q57) (cwV 2 hts (gwV k_739 k_741 k_38 k_67 k_742) rfl rfl rfl (by decide +kernel) ⟨Nat.le_of_ble_eq_true rfl, Nat.le_of_ble_eq_true rfl⟩) rfl rfl (Nat.le_of_ble_eq_true rfl) ⟨Nat.zero_le _, Nat.zero_le _⟩ d_Ref_step_64 ?_
      refine Go.goto (tgt := 257) hx hb d_Ref_step_67 rfl ?_
      refine Go.aload_n hx hb 3 rfl d_Ref_step_257 ?_
      refine Go.get (v := .int (gI s57 16)) hx hb hts in_Ref hown hK 0 (Rw_0 ad ca _) rfl 29 (by decide) (hts _ k_644) (fun _ h9 => h9) rfl d_Ref_step_258 ?_
      refine Go.if_le (tgt := 276) hx hb d_Ref_step_261 rfl (fun c261 => ?_) (fun c261 => ?_)
      · replace h := (if_pos c261).symm.trans h
        refine Go.iload_n hx hb 0 rfl d_Ref_step_276 ?_
        refine Go.if_ne (tgt := 290) hx hb d_Ref_step_277 rfl (fun z9 => absurd (by decide) z9) (fun _ => ?_)
        refine Go.aload_n hx hb 3 rfl d_Ref_step_280 ?_
        refine Go.dup hx hb rfl d_Ref_step_281 ?_
        refine Go.get (v := .int (gI s57 6)) hx hb hts in_Ref hown hK 0 (Rw_0 ad ca _) rfl 19 (by decide) (hts _ k_634) (fun _ h9 => h9) rfl d_Ref_step_282 ?_
        refine Go.iconst (v := 1) hx hb (by decide) d_Ref_step_285 ?_
        refine Go.iadd hx hb d_Ref_step_286 ?_
        refine Go.put (ty := (.int)) hx hb hts in_Ref ty_Ref tyok_Ref nm_Ref hown hK 0 (Rw_0 ad ca _) rfl 19 (by decide) (hts _ k_634) (fun _ h9 => h9) rfl (by decide +kernel) rfl rfl (Nat.le_of_ble_eq_true rfl) (uI s57 6 ((gI s57 6) + 1)) (Rs_I6 ad ca _ _) d_Ref_step_287 ?_
        exact Go.vret hx hb hr hK hlk h d_Ref_step_290
      · replace h := (if_neg c261).symm.trans h
        refine Go.aload_n hx hb 3 rfl d_Ref_step_264 ?_
        refine Go.iconst (v := 3) hx hb (by decide) d_Ref_step_265 ?_
        refine Go.aload_n hx hb 3 rfl d_Ref_step_266 ?_
        refine Go.get (v := .int (gI s57 16)) hx hb hts in_Ref hown hK 0 (Rw_0 ad ca _) rfl 29 (by decide) (hts _ k_644) (fun _ h9 => h9) rfl d_Ref_step_267 ?_
        obtain ⟨_, s58, q58, h⟩ := gb_some h
        refine Go.callVv S hK hA 0 (Rw_0 ad ca _) rfl (fun sz9 => m_Ref_falls l D ad ca N _ sz9 _ _ _ s58 q58) (cwV 2 hts (gwV k_731 k_733 k_36 k_67 k_734) rfl rfl rfl (by decide +kernel) ⟨Nat.le_of_ble_eq_true rfl, Nat.le_of_ble_eq_true rfl⟩) rfl rfl (Nat.le_of_ble_eq_true rfl) ⟨Nat.zero_le _, Nat.zero_le _⟩ d_Ref_step_270 ?_
        refine Go.goto (tgt := 290) hx hb d_Ref_step_273 rfl ?_
        exact Go.vret hx hb hr hK hlk h d_Ref_step_290
  · replace h := (if_pos c40).symm.trans h
    refine Go.aload_n hx hb 3 rfl d_Ref_step_43 ?_
    refine Go.aload_n hx hb 3 rfl d_Ref_step_44 ?_
    refine Go.get (v := .int (gI st 2)) hx hb hts in_Ref hown hK 0 (Rw_0 ad ca _) rfl 4 (by decide) (hts _ k_619) (fun _ h9 => h9) rfl d_Ref_step_45 ?_
    refine Go.aload_n hx hb 3 rfl d_Ref_step_48 ?_
    refine Go.get (v := .int (gI st 3)) hx hb hts in_Ref hown hK 0 (Rw_0 ad ca _) rfl 5 (by decide) (hts _ k_620) (fun _ h9 => h9) rfl d_Ref_step_49 ?_
    obtain ⟨_, s59, q59, h⟩ := gb_some h
    refine Go.callVv S hK hA 0 (Rw_0 ad ca _) rfl (fun sz9 => m_Ref_falls l D ad ca N _ sz9 _ _ _ s59 q59) (cwV 2 hts (gwV k_731 k_733 k_36 k_67 k_734) rfl rfl rfl (by decide +kernel) ⟨Nat.le_of_ble_eq_true rfl, Nat.le_of_ble_eq_true rfl⟩) rfl rfl (Nat.le_of_ble_eq_true rfl) ⟨Nat.zero_le _, Nat.zero_le _⟩ d_Ref_step_52 ?_
    exact Go.vret hx hb hr hK hlk h d_Ref_step_55
