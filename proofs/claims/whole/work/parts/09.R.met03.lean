set_option maxHeartbeats 4000000 in
set_option maxRecDepth 100000 in
theorem m_Ref_reckons (l : Launch) (D : va_G) (ad : Nat → Nat) (ca : Nat → ClassId) (N : Nat) (st : SG) (sz : Nat) (a0 : Int32) (r : Unit) (u : SG) (h : fR_ValueMachineModel_reckons N st a0 = some (r, u)) : Met l y_Ref_reckons (Cond.code y_Ref_reckons c_Ref_reckons 5 none :: tbl) ({ frames := 2, cells := 0, slots := 0, locals := 44 } : Room) (va_Pc [.ref (ad 0), .int a0] (goPre (Rw ad ca) D vwCl (Rtys ca) sz st)) (va_Qv (fun u' => u' = u) (goPost (Rw ad ca) D vwCl (Rtys ca) (va_A (Rw ad ca st) sz)) (va_A (Rw ad ca st) sz)) 0 0 (va_A (Rw ad ca st) sz) := by
  refine go_met (Qc := fun A9 => va_Qv (fun u' => u' = u) (goPost (Rw ad ca) D vwCl (Rtys ca) A9) A9) (cc := c_Ref_reckons) (maxL := 5) (ret := none) [(0, .ref (ad 0)), (1, .int a0)] (by decide) rfl (Nat.le_of_ble_eq_true rfl) rfl ?_
  intro p e s m below meth c A S hr hlk hK hA hsz
  obtain ⟨hx, hb, hml, hown, hts⟩ := id S
  unfold fR_ValueMachineModel_reckons at h
  refine Go.aload_n hx hb 0 rfl d_Ref_reckons_0 ?_
  refine Go.iconst (v := 1) hx hb (by decide) d_Ref_reckons_1 ?_
  obtain ⟨r1, s1, q1, h⟩ := gb_some h
  refine Go.callVi S hK hA 0 (Rw_0 ad ca _) rfl (fun sz9 => m_Ref_has l D ad ca N _ sz9 _ r1 s1 q1) (cwV 1 hts (gwV k_763 k_765 k_44 k_67 k_766) rfl rfl rfl (by decide +kernel) ⟨Nat.le_of_ble_eq_true rfl, Nat.le_of_ble_eq_true rfl⟩) rfl rfl (Nat.le_of_ble_eq_true rfl) ⟨Nat.zero_le _, Nat.zero_le _⟩ d_Ref_reckons_2 ?_
  refine Go.if_ne (tgt := 9) hx hb d_Ref_reckons_5 rfl (fun c5 => ?_) (fun c5 => ?_)
  · replace h := (if_neg c5).symm.trans h
    refine Go.aload_n hx hb 0 rfl d_Ref_reckons_9 ?_
    refine Go.get (v := .ref (ad 3)) hx hb hts in_Ref hown hK 0 (Rw_0 ad ca _) rfl 6 (by decide) (hts _ k_621) (fun _ h9 => h9) rfl d_Ref_reckons_10 ?_
    refine Go.aload_n hx hb 0 rfl d_Ref_reckons_13 ?_
    refine Go.iconst (v := 0) hx hb (by decide) d_Ref_reckons_14 ?_
    obtain ⟨r2, s2, q2, h⟩ := gb_some h
    refine Go.callVi S hK hA 0 (Rw_0 ad ca _) rfl (fun sz9 => m_Ref_deep l D ad ca N _ sz9 _ r2 s2 q2) (cwV 1 hts (gwV k_751 k_753 k_41 k_67 k_754) rfl rfl rfl (by decide +kernel) ⟨Nat.le_of_ble_eq_true rfl, Nat.le_of_ble_eq_true rfl⟩) rfl rfl (Nat.le_of_ble_eq_true rfl) ⟨Nat.zero_le _, Nat.zero_le _⟩ d_Ref_reckons_15 ?_
    obtain ⟨c18, h⟩ := gg_some h
    refine Go.iald (v := gA s2 2 r2.toNatClampNeg) hx hb hK 3 2 (Rw_3 ad ca _) rfl c18 rfl d_Ref_reckons_18 ?_
    refine Go.istore_n (i := 2) (lv' := [(2, .int (gA s2 2 r2.toNatClampNeg)), (0, .ref (ad 0)), (1, .int a0)]) hx hb rfl (Nat.le_of_ble_eq_true rfl) rfl d_Ref_reckons_19 ?_
    refine Go.aload_n hx hb 1 rfl d_Ref_reckons_20 ?_
    refine Go.get (v := .ref (ad 4)) hx hb hts in_Ref hown hK 0 (Rw_0 ad ca _) rfl 7 (by decide) (hts _ k_622) (fun _ h9 => h9) rfl d_Ref_reckons_21 ?_
    refine Go.aload_n hx hb 1 rfl d_Ref_reckons_24 ?_
    refine Go.iconst (v := 0) hx hb (by decide) d_Ref_reckons_25 ?_
    obtain ⟨r3, s3, q3, h⟩ := gb_some h
    refine Go.callVi S hK hA 0 (Rw_0 ad ca _) rfl (fun sz9 => m_Ref_deep l D ad ca N _ sz9 _ r3 s3 q3) (cwV 1 hts (gwV k_751 k_753 k_41 k_67 k_754) rfl rfl rfl (by decide +kernel) ⟨Nat.le_of_ble_eq_true rfl, Nat.le_of_ble_eq_true rfl⟩) rfl rfl (Nat.le_of_ble_eq_true rfl) ⟨Nat.zero_le _, Nat.zero_le _⟩ d_Ref_reckons_26 ?_
    obtain ⟨c29, h⟩ := gg_some h
    refine Go.iald (v := gA s3 3 r3.toNatClampNeg) hx hb hK 4 3 (Rw_4 ad ca _) rfl c29 rfl d_Ref_reckons_29 ?_
    refine Go.istore_n (i := 3) (lv' := [(3, .int (gA s3 3 r3.toNatClampNeg)), (2, .int (gA s2 2 r2.toNatClampNeg)), (0, .ref (ad 0)), (1, .int a0)]) hx hb rfl (Nat.le_of_ble_eq_true rfl) rfl d_Ref_reckons_30 ?_
    refine Go.aload_n hx hb 2 rfl d_Ref_reckons_31 ?_
    refine Go.get (v := .int (gI s3 3)) hx hb hts in_Ref hown hK 0 (Rw_0 ad ca _) rfl 5 (by decide) (hts _ k_620) (fun _ h9 => h9) rfl d_Ref_reckons_32 ?_
    refine Go.istore (i := 4) (lv' := [(4, .int (gI s3 3)), (3, .int (gA s3 3 r3.toNatClampNeg)), (2, .int (gA s2 2 r2.toNatClampNeg)), (0, .ref (ad 0)), (1, .int a0)]) hx hb (Nat.le_of_ble_eq_true rfl) rfl d_Ref_reckons_35 ?_
    refine Go.iload_n hx hb 4 rfl d_Ref_reckons_37 ?_
    refine Go.bipush (v := 18) hx hb (by decide) d_Ref_reckons_38 ?_
    refine Go.icmp_ne (tgt := 69) hx hb d_Ref_reckons_40 rfl (fun c40 => ?_) (fun c40 => ?_)
    · replace h := (if_neg c40).symm.trans h
      refine Go.aload_n hx hb 3 rfl d_Ref_reckons_69 ?_
      refine Go.iconst (v := 0) hx hb (by decide) d_Ref_reckons_70 ?_
      refine Go.iconst (v := 3) hx hb (by decide) d_Ref_reckons_71 ?_
      obtain ⟨r4, s4, q4, h⟩ := gb_some h
      refine Go.callVi S hK hA 0 (Rw_0 ad ca _) rfl (fun sz9 => m_Ref_isSort l D ad ca N _ sz9 _ _ r4 s4 q4) (cwV 2 hts (gwV k_767 k_769 k_45 k_67 k_770) rfl rfl rfl (by decide +kernel) ⟨Nat.le_of_ble_eq_true rfl, Nat.le_of_ble_eq_true rfl⟩) rfl rfl (Nat.le_of_ble_eq_true rfl) ⟨Nat.zero_le _, Nat.zero_le _⟩ d_Ref_reckons_72 ?_
      refine Go.if_ne (tgt := 82) hx hb d_Ref_reckons_75 rfl (fun c75 => ?_) (fun c75 => ?_)
      · replace h := (if_neg c75).symm.trans h
        refine Go.iconst (v := 0) hx hb (by decide) d_Ref_reckons_82 ?_
        refine Go.aload_n hx hb 3 rfl d_Ref_reckons_83 ?_
        refine Go.iconst (v := 3) hx hb (by decide) d_Ref_reckons_84 ?_
        obtain ⟨r5, s5, q5, h⟩ := gb_some h
        refine Go.callVi S hK hA 0 (Rw_0 ad ca _) rfl (fun sz9 => m_Ref_isAcc l D ad ca N _ sz9 _ r5 s5 q5) (cwV 1 hts (gwV k_755 k_757 k_42 k_67 k_758) rfl rfl rfl (by decide +kernel) ⟨Nat.le_of_ble_eq_true rfl, Nat.le_of_ble_eq_true rfl⟩) rfl rfl (Nat.le_of_ble_eq_true rfl) ⟨Nat.zero_le _, Nat.zero_le _⟩ d_Ref_reckons_85 ?_
        refine Go.if_ne (tgt := 95) hx hb d_Ref_reckons_88 rfl (fun c88 => ?_) (fun c88 => ?_)
        · replace h := (if_neg c88).symm.trans h
          refine Go.iconst (v := 0) hx hb (by decide) d_Ref_reckons_95 ?_
          refine Go.ior hx hb d_Ref_reckons_96 ?_
          refine Go.if_ne (tgt := 124) hx hb d_Ref_reckons_97 rfl (fun c97 => ?_) (fun c97 => ?_)
          · replace h := (if_neg c97).symm.trans h
            exact Go.vret hx hb hr hK hlk h d_Ref_reckons_124
          · replace h := (if_pos c97).symm.trans h
            refine Go.aload_n hx hb 3 rfl d_Ref_reckons_100 ?_
            refine Go.iload_n hx hb 4 rfl d_Ref_reckons_101 ?_
            refine Go.bipush (v := 23) hx hb (by decide) d_Ref_reckons_102 ?_
            refine Go.icmp_lt (tgt := 112) hx hb d_Ref_reckons_104 rfl (fun c104 => ?_) (fun c104 => ?_)
            · replace h := (if_pos c104).symm.trans h
              refine Go.iconst (v := 1) hx hb (by decide) d_Ref_reckons_112 ?_
              refine Go.goto (tgt := 117) hx hb d_Ref_reckons_113 rfl ?_
              refine Go.iconst (v := 5) hx hb (by decide) d_Ref_reckons_117 ?_
              obtain ⟨r6, s6, q6, h⟩ := gb_some h
              refine Go.callVi S hK hA 0 (Rw_0 ad ca _) rfl (fun sz9 => m_Ref_needs l D ad ca N _ sz9 _ _ r6 s6 q6) (cwV 2 hts (gwV k_747 k_749 k_40 k_67 k_750) rfl rfl rfl (by decide +kernel) ⟨Nat.le_of_ble_eq_true rfl, Nat.le_of_ble_eq_true rfl⟩) rfl rfl (Nat.le_of_ble_eq_true rfl) ⟨Nat.zero_le _, Nat.zero_le _⟩ d_Ref_reckons_118 ?_
              refine Go.if_ne (tgt := 125) hx hb d_Ref_reckons_121 rfl (fun c121 => ?_) (fun c121 => ?_)
              · replace h := (if_neg c121).symm.trans h
                refine Go.aload_n hx hb 3 rfl d_Ref_reckons_125 ?_
                refine Go.dup hx hb rfl d_Ref_reckons_126 ?_
                refine Go.get (v := .int (gI s6 4)) hx hb hts in_Ref hown hK 0 (Rw_0 ad ca _) rfl 8 (by decide) (hts _ k_623) (fun _ h9 => h9) rfl d_Ref_reckons_127 ?_
                refine Go.iconst (v := 1) hx hb (by decide) d_Ref_reckons_130 ?_
                refine Go.isub hx hb d_Ref_reckons_131 ?_
                refine Go.put (ty := (.int)) hx hb hts in_Ref ty_Ref tyok_Ref nm_Ref hown hK 0 (Rw_0 ad ca _) rfl 8 (by decide) (hts _ k_623) (fun _ h9 => h9) rfl (by decide +kernel) rfl rfl (Nat.le_of_ble_eq_true rfl) (uI s6 4 ((gI s6 4) - 1)) (Rs_I4 ad ca _ _) d_Ref_reckons_132 ?_
                refine Go.iload_n hx hb 4 rfl d_Ref_reckons_135 ?_
                by_cases c136_0 : a0 = 19
                · replace h := (if_pos c136_0).symm.trans h
                  refine Go.tin (tgt := 172) (off := 36) hx hb 19 c136_0 d_Ref_reckons_136 (by decide) (by decide) rfl rfl ?_
                  refine Go.aload_n hx hb 3 rfl d_Ref_reckons_172 ?_
                  refine Go.iload_n hx hb 1 rfl d_Ref_reckons_173 ?_
                  refine Go.iload hx hb 0 rfl d_Ref_reckons_174 ?_
                  refine Go.icmp_ge (tgt := 183) hx hb d_Ref_reckons_176 rfl (fun c176 => ?_) (fun c176 => ?_)
                  · replace h := (if_pos c176).symm.trans h
                    refine Go.iconst (v := 0) hx hb (by decide) d_Ref_reckons_183 ?_
                    obtain ⟨_, s7, q7, h⟩ := gb_some h
                    refine Go.callVv S hK hA 0 (Rw_0 ad ca _) rfl (fun sz9 => m_Ref_truth l D ad ca N _ sz9 _ _ s7 q7) (cwV 1 hts (gwV k_786 k_788 k_49 k_67 k_789) rfl rfl rfl (by decide +kernel) ⟨Nat.le_of_ble_eq_true rfl, Nat.le_of_ble_eq_true rfl⟩) rfl rfl (Nat.le_of_ble_eq_true rfl) ⟨Nat.zero_le _, Nat.zero_le _⟩ d_Ref_reckons_184 ?_
                    refine Go.goto (tgt := 268) hx hb d_Ref_reckons_187 rfl ?_
                    exact Go.vret hx hb hr hK hlk h d_Ref_reckons_268
                  · replace h := (if_neg c176).symm.trans h
                    refine Go.iconst (v := 1) hx hb (by decide) d_Ref_reckons_179 ?_
                    refine Go.goto (tgt := 184) hx hb d_Ref_reckons_180 rfl ?_
                    obtain ⟨_, s8, q8, h⟩ := gb_some h
                    refine Go.callVv S hK hA 0 (Rw_0 ad ca _) rfl (fun sz9 => m_Ref_truth l D ad ca N _ sz9 _ _ s8 q8) (cwV 1 hts (gwV k_786 k_788 k_49 k_67 k_789) rfl rfl rfl (by decide +kernel) ⟨Nat.le_of_ble_eq_true rfl, Nat.le_of_ble_eq_true rfl⟩) rfl rfl (Nat.le_of_ble_eq_true rfl) ⟨Nat.zero_le _, Nat.zero_le _⟩ d_Ref_reckons_184 ?_
                    refine Go.goto (tgt := 268) hx hb d_Ref_reckons_187 rfl ?_
                    exact Go.vret hx hb hr hK hlk h d_Ref_reckons_268
                replace h := (if_neg c136_0).symm.trans h
                by_cases c136_1 : a0 = 20
                · replace h := (if_pos c136_1).symm.trans h
                  refine Go.tin (tgt := 190) (off := 54) hx hb 20 c136_1 d_Ref_reckons_136 (by decide) (by decide) rfl rfl ?_
                  refine Go.aload_n hx hb 3 rfl d_Ref_reckons_190 ?_
                  refine Go.iconst (v := 3) hx hb (by decide) d_Ref_reckons_191 ?_
                  refine Go.iload_n hx hb 1 rfl d_Ref_reckons_192 ?_
                  refine Go.iload hx hb 0 rfl d_Ref_reckons_193 ?_
                  refine Go.iadd hx hb d_Ref_reckons_195 ?_
                  obtain ⟨_, s9, q9, h⟩ := gb_some h
                  refine Go.callVv S hK hA 0 (Rw_0 ad ca _) rfl (fun sz9 => m_Ref_acc l D ad ca N _ sz9 _ _ _ s9 q9) (cwV 2 hts (gwV k_739 k_741 k_38 k_67 k_742) rfl rfl rfl (by decide +kernel) ⟨Nat.le_of_ble_eq_true rfl, Nat.le_of_ble_eq_true rfl⟩) rfl rfl (Nat.le_of_ble_eq_true rfl) ⟨Nat.zero_le _, Nat.zero_le _⟩ d_Ref_reckons_196 ?_
                  refine Go.goto (tgt := 268) hx hb d_Ref_reckons_199 rfl ?_
                  exact Go.vret hx hb hr hK hlk h d_Ref_reckons_268
                replace h := (if_neg c136_1).symm.trans h
                by_cases c136_2 : a0 = 21
                · replace h := (if_pos c136_2).symm.trans h
                  refine Go.tin (tgt := 202) (off := 66) hx hb 21 c136_2 d_Ref_reckons_136 (by decide) (by decide) rfl rfl ?_
                  refine Go.aload_n hx hb 3 rfl d_Ref_reckons_202 ?_
                  refine Go.iconst (v := 3) hx hb (by decide) d_Ref_reckons_203 ?_
                  refine Go.iload_n hx hb 1 rfl d_Ref_reckons_204 ?_
                  refine Go.iload hx hb 0 rfl d_Ref_reckons_205 ?_
                  refine Go.isub hx hb d_Ref_reckons_207 ?_
                  obtain ⟨_, s10, q10, h⟩ := gb_some h
                  refine Go.callVv S hK hA 0 (Rw_0 ad ca _) rfl (fun sz9 => m_Ref_acc l D ad ca N _ sz9 _ _ _ s10 q10) (cwV 2 hts (gwV k_739 k_741 k_38 k_67 k_742) rfl rfl rfl (by decide +kernel) ⟨Nat.le_of_ble_eq_true rfl, Nat.le_of_ble_eq_true rfl⟩) rfl rfl (Nat.le_of_ble_eq_true rfl) ⟨Nat.zero_le _, Nat.zero_le _⟩ d_Ref_reckons_208 ?_
                  refine Go.goto (tgt := 268) hx hb d_Ref_reckons_211 rfl ?_
                  exact Go.vret hx hb hr hK hlk h d_Ref_reckons_268
                replace h := (if_neg c136_2).symm.trans h
                by_cases c136_3 : a0 = 22
                · replace h := (if_pos c136_3).symm.trans h
                  refine Go.tin (tgt := 214) (off := 78) hx hb 22 c136_3 d_Ref_reckons_136 (by decide) (by decide) rfl rfl ?_
                  refine Go.aload_n hx hb 3 rfl d_Ref_reckons_214 ?_
                  refine Go.iconst (v := 3) hx hb (by decide) d_Ref_reckons_215 ?_
                  refine Go.iload_n hx hb 1 rfl d_Ref_reckons_216 ?_
                  refine Go.iload hx hb 0 rfl d_Ref_reckons_217 ?_
                  refine Go.imul hx hb d_Ref_reckons_219 ?_
                  obtain ⟨_, s11, q11, h⟩ := gb_some h
                  refine Go.callVv S hK hA 0 (Rw_0 ad ca _) rfl (fun sz9 => m_Ref_acc l D ad ca N _ sz9 _ _ _ s11 q11) (cwV 2 hts (gwV k_739 k_741 k_38 k_67 k_742) rfl rfl rfl (by decide +kernel) ⟨Nat.le_of_ble_eq_true rfl, Nat.le_of_ble_eq_true rfl⟩) rfl rfl (Nat.le_of_ble_eq_true rfl) ⟨Nat.zero_le _, Nat.zero_le _⟩ d_Ref_reckons_220 ?_
                  refine Go.goto (tgt := 268) hx hb d_Ref_reckons_223 rfl ?_
                  exact Go.vret hx hb hr hK hlk h d_Ref_reckons_268
                replace h := (if_neg c136_3).symm.trans h
                by_cases c136_4 : a0 = 23
                · replace h := (if_pos c136_4).symm.trans h
                  refine Go.tin (tgt := 226) (off := 90) hx hb 23 c136_4 d_Ref_reckons_136 (by decide) (by decide) rfl rfl ?_
                  refine Go.aload_n hx hb 3 rfl d_Ref_reckons_226 ?_
                  refine Go.iconst (v := 3) hx hb (by decide) d_Ref_reckons_227 ?_
                  refine Go.iload hx hb 0 rfl d_Ref_reckons_228 ?_
                  refine Go.iconst (v := (-1)) hx hb (by decide) d_Ref_reckons_230 ?_
                  refine Go.icmp_ne (tgt := 239) hx hb d_Ref_reckons_231 rfl (fun c231 => ?_) (fun c231 => ?_)
                  · replace h := (if_neg c231).symm.trans h
                    refine Go.iload_n hx hb 1 rfl d_Ref_reckons_239 ?_
                    refine Go.iload hx hb 0 rfl d_Ref_reckons_240 ?_
                    obtain ⟨c242, h⟩ := gg_some h
                    refine Go.idiv hx hb c242 d_Ref_reckons_242 ?_
                    obtain ⟨_, s12, q12, h⟩ := gb_some h
                    refine Go.callVv S hK hA 0 (Rw_0 ad ca _) rfl (fun sz9 => m_Ref_acc l D ad ca N _ sz9 _ _ _ s12 q12) (cwV 2 hts (gwV k_739 k_741 k_38 k_67 k_742) rfl rfl rfl (by decide +kernel) ⟨Nat.le_of_ble_eq_true rfl, Nat.le_of_ble_eq_true rfl⟩) rfl rfl (Nat.le_of_ble_eq_true rfl) ⟨Nat.zero_le _, Nat.zero_le _⟩ d_Ref_reckons_243 ?_
                    refine Go.goto (tgt := 268) hx hb d_Ref_reckons_246 rfl ?_
                    exact Go.vret hx hb hr hK hlk h d_Ref_reckons_268
                  · replace h := (if_pos c231).symm.trans h
                    refine Go.iload_n hx hb 1 rfl d_Ref_reckons_234 ?_
                    refine Go.ineg hx hb d_Ref_reckons_235 ?_
                    refine Go.goto (tgt := 243) hx hb d_Ref_reckons_236 rfl ?_
                    obtain ⟨_, s13, q13, h⟩ := gb_some h
                    refine Go.callVv S hK hA 0 (Rw_0 ad ca _) rfl (fun sz9 => m_Ref_acc l D ad ca N _ sz9 _ _ _ s13 q13) (cwV 2 hts (gwV k_739 k_741 k_38 k_67 k_742) rfl rfl rfl (by decide +kernel) ⟨Nat.le_of_ble_eq_true rfl, Nat.le_of_ble_eq_true rfl⟩) rfl rfl (Nat.le_of_ble_eq_true rfl) ⟨Nat.zero_le _, Nat.zero_le _⟩ d_Ref_reckons_243 ?_
                    refine Go.goto (tgt := 268) hx hb d_Ref_reckons_246 rfl ?_
                    exact Go.vret hx hb hr hK hlk h d_Ref_reckons_268
                replace h := (if_neg c136_4).symm.trans h
                have n136_0 := lv_neT (a := 19) c136_0 (by decide)
                have n136_1 := lv_neT (a := 20) c136_1 (by decide)
                have n136_2 := lv_neT (a := 21) c136_2 (by decide)
                have n136_3 := lv_neT (a := 22) c136_3 (by decide)
                have n136_4 := lv_neT (a := 23) c136_4 (by decide)
                refine Go.tout (tgt := 249) hx hb d_Ref_reckons_136 (by omega) rfl ?_
                refine Go.aload_n hx hb 3 rfl d_Ref_reckons_249 ?_
                refine Go.iconst (v := 3) hx hb (by decide) d_Ref_reckons_250 ?_
                refine Go.iload hx hb 0 rfl d_Ref_reckons_251 ?_
                refine Go.iconst (v := (-1)) hx hb (by decide) d_Ref_reckons_253 ?_
                refine Go.icmp_ne (tgt := 261) hx hb d_Ref_reckons_254 rfl (fun c254 => ?_) (fun c254 => ?_)
                · replace h := (if_neg c254).symm.trans h
                  refine Go.iload_n hx hb 1 rfl d_Ref_reckons_261 ?_
                  refine Go.iload hx hb 0 rfl d_Ref_reckons_262 ?_
                  obtain ⟨c264, h⟩ := gg_some h
                  refine Go.irem hx hb c264 d_Ref_reckons_264 ?_
                  obtain ⟨_, s14, q14, h⟩ := gb_some h
                  refine Go.callVv S hK hA 0 (Rw_0 ad ca _) rfl (fun sz9 => m_Ref_acc l D ad ca N _ sz9 _ _ _ s14 q14) (cwV 2 hts (gwV k_739 k_741 k_38 k_67 k_742) rfl rfl rfl (by decide +kernel) ⟨Nat.le_of_ble_eq_true rfl, Nat.le_of_ble_eq_true rfl⟩) rfl rfl (Nat.le_of_ble_eq_true rfl) ⟨Nat.zero_le _, Nat.zero_le _⟩ d_Ref_reckons_265 ?_
                  exact Go.vret hx hb hr hK hlk h d_Ref_reckons_268
                · replace h := (if_pos c254).symm.trans h
                  refine Go.iconst (v := 0) hx hb (by decide) d_Ref_reckons_257 ?_
                  refine Go.goto (tgt := 265) hx hb d_Ref_reckons_258 rfl ?_
                  obtain ⟨_, s15, q15, h⟩ := gb_some h
                  refine Go.callVv S hK hA 0 (Rw_0 ad ca _) rfl (fun sz9 => m_Ref_acc l D ad ca N _ sz9 _ _ _ s15 q15) (cwV 2 hts (gwV k_739 k_741 k_38 k_67 k_742) rfl rfl rfl (by decide +kernel) ⟨Nat.le_of_ble_eq_true rfl, Nat.le_of_ble_eq_true rfl⟩) rfl rfl (Nat.le_of_ble_eq_true rfl) ⟨Nat.zero_le _, Nat.zero_le _⟩ d_Ref_reckons_265 ?_
                  exact Go.vret hx hb hr hK hlk h d_Ref_reckons_268
              · replace h := (if_pos c121).symm.trans h
                exact Go.vret hx hb hr hK hlk h d_Ref_reckons_124
            · replace h := (if_neg c104).symm.trans h
              refine Go.iload hx hb 0 rfl d_Ref_reckons_107 ?_
              refine Go.if_eq (tgt := 116) hx hb d_Ref_reckons_109 rfl (fun c109 => ?_) (fun c109 => ?_)
              · replace h := (if_pos c109).symm.trans h
                refine Go.iconst (v := 0) hx hb (by decide) d_Ref_reckons_116 ?_
                refine Go.iconst (v := 5) hx hb (by decide) d_Ref_reckons_117 ?_
                obtain ⟨r16, s16, q16, h⟩ := gb_some h
                refine Go.callVi S hK hA 0 (Rw_0 ad ca _) rfl (fun sz9 => m_Ref_needs l D ad ca N _ sz9 _ _ r16 s16 q16) (cwV 2 hts (gwV k_747 k_749 k_40 k_67 k_750) rfl rfl rfl (by decide +kernel) ⟨Nat.le_of_ble_eq_true rfl, Nat.le_of_ble_eq_true rfl⟩) rfl rfl (Nat.le_of_ble_eq_true rfl) ⟨Nat.zero_le _, Nat.zero_le _⟩ d_Ref_reckons_118 ?_
                refine Go.if_ne (tgt := 125) hx hb d_Ref_reckons_121 rfl (fun c121 => ?_) (fun c121 => ?_)
                · replace h := (if_neg c121).symm.trans h
                  refine Go.aload_n hx hb 3 rfl d_Ref_reckons_125 ?_
                  refine Go.dup hx hb rfl d_Ref_reckons_126 ?_
                  refine Go.get (v := .int (gI s16 4)) hx hb hts in_Ref hown hK 0 (Rw_0 ad ca _) rfl 8 (by decide) (hts _ k_623) (fun _ h9 => h9) rfl d_Ref_reckons_127 ?_
                  refine Go.iconst (v := 1) hx hb (by decide) d_Ref_reckons_130 ?_
                  refine Go.isub hx hb d_Ref_reckons_131 ?_
                  refine Go.put (ty := (.int)) hx hb hts in_Ref ty_Ref tyok_Ref nm_Ref hown hK 0 (Rw_0 ad ca _) rfl 8 (by decide) (hts _ k_623) (fun _ h9 => h9) rfl (by decide +kernel) rfl rfl (Nat.le_of_ble_eq_true rfl) (uI s16 4 ((gI s16 4) - 1)) (Rs_I4 ad ca _ _) d_Ref_reckons_132 ?_
                  refine Go.iload_n hx hb 4 rfl d_Ref_reckons_135 ?_
                  by_cases c136_0 : a0 = 19
                  · replace h := (if_pos c136_0).symm.trans h
                    refine Go.tin (tgt := 172) (off := 36) hx hb 19 c136_0 d_Ref_reckons_136 (by decide) (by decide) rfl rfl ?_
                    refine Go.aload_n hx hb 3 rfl d_Ref_reckons_172 ?_
                    refine Go.iload_n hx hb 1 rfl d_Ref_reckons_173 ?_
                    refine Go.iload hx hb 0 rfl d_Ref_reckons_174 ?_
                    refine Go.icmp_ge (tgt := 183) hx hb d_Ref_reckons_176 rfl (fun c176 => ?_) (fun c176 => ?_)
                    · replace h := (if_pos c176).symm.trans h
                      refine Go.iconst (v := 0) hx hb (by decide) d_Ref_reckons_183 ?_
                      obtain ⟨_, s17, q17, h⟩ := gb_some h
                      refine Go.callVv S hK hA 0 (Rw_0 ad ca _) rfl (fun sz9 => m_Ref_truth l D ad ca N _ sz9 _ _ s17 q17) (cwV 1 hts (gwV k_786 k_788 k_49 k_67 k_789) rfl rfl rfl (by decide +kernel) ⟨Nat.le_of_ble_eq_true rfl, Nat.le_of_ble_eq_true rfl⟩) rfl rfl (Nat.le_of_ble_eq_true rfl) ⟨Nat.zero_le _, Nat.zero_le _⟩ d_Ref_reckons_184 ?_
                      refine Go.goto (tgt := 268) hx hb d_Ref_reckons_187 rfl ?_
                      exact Go.vret hx hb hr hK hlk h d_Ref_reckons_268
                    · replace h := (if_neg c176).symm.trans h
                      refine Go.iconst (v := 1) hx hb (by decide) d_Ref_reckons_179 ?_
                      refine Go.goto (tgt := 184) hx hb d_Ref_reckons_180 rfl ?_
                      obtain ⟨_, s18, q18, h⟩ := gb_some h
                      refine Go.callVv S hK hA 0 (Rw_0 ad ca _) rfl (fun sz9 => m_Ref_truth l D ad ca N _ sz9 _ _ s18 q18) (cwV 1 hts (gwV k_786 k_788 k_49 k_67 k_789) rfl rfl rfl (by decide +kernel) ⟨Nat.le_of_ble_eq_true rfl, Nat.le_of_ble_eq_true rfl⟩) rfl rfl (Nat.le_of_ble_eq_true rfl) ⟨Nat.zero_le _, Nat.zero_le _⟩ d_Ref_reckons_184 ?_
                      refine Go.goto (tgt := 268) hx hb d_Ref_reckons_187 rfl ?_
                      exact Go.vret hx hb hr hK hlk h d_Ref_reckons_268
                  replace h := (if_neg c136_0).symm.trans h
                  by_cases c136_1 : a0 = 20
                  · replace h := (if_pos c136_1).symm.trans h
                    refine Go.tin (tgt := 190) (off := 54) hx hb 20 c136_1 d_Ref_reckons_136 (by decide) (by decide) rfl rfl ?_
                    refine Go.aload_n hx hb 3 rfl d_Ref_reckons_190 ?_
                    refine Go.iconst (v := 3) hx hb (by decide) d_Ref_reckons_191 ?_
                    refine Go.iload_n hx hb 1 rfl d_Ref_reckons_192 ?_
                    refine Go.iload hx hb 0 rfl d_Ref_reckons_193 ?_
                    refine Go.iadd hx hb d_Ref_reckons_195 ?_
                    obtain ⟨_, s19, q19, h⟩ := gb_some h
                    refine Go.callVv S hK hA 0 (Rw_0 ad ca _) rfl (fun sz9 => m_Ref_acc l D ad ca N _ sz9 _ _ _ s19 q19) (cwV 2 hts (gwV k_739 k_741 k_38 k_67 k_742) rfl rfl rfl (by decide +kernel) ⟨Nat.le_of_ble_eq_true rfl, Nat.le_of_ble_eq_true rfl⟩) rfl rfl (Nat.le_of_ble_eq_true rfl) ⟨Nat.zero_le _, Nat.zero_le _⟩ d_Ref_reckons_196 ?_
                    refine Go.goto (tgt := 268) hx hb d_Ref_reckons_199 rfl ?_
                    exact Go.vret hx hb hr hK hlk h d_Ref_reckons_268
                  replace h := (if_neg c136_1).symm.trans h
                  by_cases c136_2 : a0 = 21
                  · replace h := (if_pos c136_2).symm.trans h
                    refine Go.tin (tgt := 202) (off := 66) hx hb 21 c136_2 d_Ref_reckons_136 (by decide) (by decide) rfl rfl ?_
                    refine Go.aload_n hx hb 3 rfl d_Ref_reckons_202 ?_
                    refine Go.iconst (v := 3) hx hb (by decide) d_Ref_reckons_203 ?_
                    refine Go.iload_n hx hb 1 rfl d_Ref_reckons_204 ?_
                    refine Go.iload hx hb 0 rfl d_Ref_reckons_205 ?_
                    refine Go.isub hx hb d_Ref_reckons_207 ?_
                    obtain ⟨_, s20, q20, h⟩ := gb_some h
                    refine Go.callVv S hK hA 0 (Rw_0 ad ca _) rfl (fun sz9 => m_Ref_acc l D ad ca N _ sz9 _ _ _ s20 q20) (cwV 2 hts (gwV k_739 k_741 k_38 k_67 k_742) rfl rfl rfl (by decide +kernel) ⟨Nat.le_of_ble_eq_true rfl, Nat.le_of_ble_eq_true rfl⟩) rfl rfl (Nat.le_of_ble_eq_true rfl) ⟨Nat.zero_le _, Nat.zero_le _⟩ d_Ref_reckons_208 ?_
                    refine Go.goto (tgt := 268) hx hb d_Ref_reckons_211 rfl ?_
                    exact Go.vret hx hb hr hK hlk h d_Ref_reckons_268
                  replace h := (if_neg c136_2).symm.trans h
                  by_cases c136_3 : a0 = 22
                  · replace h := (if_pos c136_3).symm.trans h
                    refine Go.tin (tgt := 214) (off := 78) hx hb 22 c136_3 d_Ref_reckons_136 (by decide) (by decide) rfl rfl ?_
                    refine Go.aload_n hx hb 3 rfl d_Ref_reckons_214 ?_
                    refine Go.iconst (v := 3) hx hb (by decide) d_Ref_reckons_215 ?_
                    refine Go.iload_n hx hb 1 rfl d_Ref_reckons_216 ?_
                    refine Go.iload hx hb 0 rfl d_Ref_reckons_217 ?_
                    refine Go.imul hx hb d_Ref_reckons_219 ?_
                    obtain ⟨_, s21, q21, h⟩ := gb_some h
                    refine Go.callVv S hK hA 0 (Rw_0 ad ca _) rfl (fun sz9 => m_Ref_acc l D ad ca N _ sz9 _ _ _ s21 q21) (cwV 2 hts (gwV k_739 k_741 k_38 k_67 k_742) rfl rfl rfl (by decide +kernel) ⟨Nat.le_of_ble_eq_true rfl, Nat.le_of_ble_eq_true rfl⟩) rfl rfl (Nat.le_of_ble_eq_true rfl) ⟨Nat.zero_le _, Nat.zero_le _⟩ d_Ref_reckons_220 ?_
                    refine Go.goto (tgt := 268) hx hb d_Ref_reckons_223 rfl ?_
                    exact Go.vret hx hb hr hK hlk h d_Ref_reckons_268
                  replace h := (if_neg c136_3).symm.trans h
                  by_cases c136_4 : a0 = 23
                  · replace h := (if_pos c136_4).symm.trans h
                    refine Go.tin (tgt := 226) (off := 90) hx hb 23 c136_4 d_Ref_reckons_136 (by decide) (by decide) rfl rfl ?_
                    refine Go.aload_n hx hb 3 rfl d_Ref_reckons_226 ?_
                    refine Go.iconst (v := 3) hx hb (by decide) d_Ref_reckons_227 ?_
                    refine Go.iload hx hb 0 rfl d_Ref_reckons_228 ?_
                    refine Go.iconst (v := (-1)) hx hb (by decide) d_Ref_reckons_230 ?_
                    refine Go.icmp_ne (tgt := 239) hx hb d_Ref_reckons_231 rfl (fun c231 => ?_) (fun c231 => ?_)
                    · replace h := (if_neg c231).symm.trans h
                      refine Go.iload_n hx hb 1 rfl d_Ref_reckons_239 ?_
                      refine Go.iload hx hb 0 rfl d_Ref_reckons_240 ?_
                      obtain ⟨c242, h⟩ := gg_some h
                      refine Go.idiv hx hb c242 d_Ref_reckons_242 ?_
                      obtain ⟨_, s22, q22, h⟩ := gb_some h
                      refine Go.callVv S hK hA 0 (Rw_0 ad ca _) rfl (fun sz9 => m_Ref_acc l D ad ca N _ sz9 _ _ _ s22 q22) (cwV 2 hts (gwV k_739 k_741 k_38 k_67 k_742) rfl rfl rfl (by decide +kernel) ⟨Nat.le_of_ble_eq_true rfl, Nat.le_of_ble_eq_true rfl⟩) rfl rfl (Nat.le_of_ble_eq_true rfl) ⟨Nat.zero_le _, Nat.zero_le _⟩ d_Ref_reckons_243 ?_
                      refine Go.goto (tgt := 268) hx hb d_Ref_reckons_246 rfl ?_
                      exact Go.vret hx hb hr hK hlk h d_Ref_reckons_268
                    · replace h := (if_pos c231).symm.trans h
                      refine Go.iload_n hx hb 1 rfl d_Ref_reckons_234 ?_
                      refine Go.ineg hx hb d_Ref_reckons_235 ?_
                      refine Go.goto (tgt := 243) hx hb d_Ref_reckons_236 rfl ?_
                      obtain ⟨_, s23, q23, h⟩ := gb_some h
                      refine Go.callVv S hK hA 0 (Rw_0 ad ca _) rfl (fun sz9 => m_Ref_acc l D ad ca N _ sz9 _ _ _ s23 q23) (cwV 2 hts (gwV k_739 k_741 k_38 k_67 k_742) rfl rfl rfl (by decide +kernel) ⟨Nat.le_of_ble_eq_true rfl, Nat.le_of_ble_eq_true rfl⟩) rfl rfl (Nat.le_of_ble_eq_true rfl) ⟨Nat.zero_le _, Nat.zero_le _⟩ d_Ref_reckons_243 ?_
                      refine Go.goto (tgt := 268) hx hb d_Ref_reckons_246 rfl ?_
                      exact Go.vret hx hb hr hK hlk h d_Ref_reckons_268
                  replace h := (if_neg c136_4).symm.trans h
                  have n136_0 := lv_neT (a := 19) c136_0 (by decide)
                  have n136_1 := lv_neT (a := 20) c136_1 (by decide)
                  have n136_2 := lv_neT (a := 21) c136_2 (by decide)
                  have n136_3 := lv_neT (a := 22) c136_3 (by decide)
                  have n136_4 := lv_neT (a := 23) c136_4 (by decide)
                  refine Go.tout (tgt := 249) hx hb d_Ref_reckons_136 (by omega) rfl ?_
                  refine Go.aload_n hx hb 3 rfl d_Ref_reckons_249 ?_
                  refine Go.iconst (v := 3) hx hb (by decide) d_Ref_reckons_250 ?_
                  refine Go.iload hx hb 0 rfl d_Ref_reckons_251 ?_
                  refine Go.iconst (v := (-1)) hx hb (by decide) d_Ref_reckons_253 ?_
                  refine Go.icmp_ne (tgt := 261) hx hb d_Ref_reckons_254 rfl (fun c254 => ?_) (fun c254 => ?_)
                  · replace h := (if_neg c254).symm.trans h
                    refine Go.iload_n hx hb 1 rfl d_Ref_reckons_261 ?_
                    refine Go.iload hx hb 0 rfl d_Ref_reckons_262 ?_
                    obtain ⟨c264, h⟩ := gg_some h
                    refine Go.irem hx hb c264 d_Ref_reckons_264 ?_
                    obtain ⟨_, s24, q24, h⟩ := gb_some h
                    refine Go.callVv S hK hA 0 (Rw_0 ad ca _) rfl (fun sz9 => m_Ref_acc l D ad ca N _ sz9 _ _ _ s24 q24) (cwV 2 hts (gwV k_739 k_741 k_38 k_67 k_742) rfl rfl rfl (by decide +kernel) ⟨Nat.le_of_ble_eq_true rfl, Nat.le_of_ble_eq_true rfl⟩) rfl rfl (Nat.le_of_ble_eq_true rfl) ⟨Nat.zero_le _, Nat.zero_le _⟩ d_Ref_reckons_265 ?_
                    exact Go.vret hx hb hr hK hlk h d_Ref_reckons_268
                  · replace h := (if_pos c254).symm.trans h
                    refine Go.iconst (v := 0) hx hb (by decide) d_Ref_reckons_257 ?_
                    refine Go.goto (tgt := 265) hx hb d_Ref_reckons_258 rfl ?_
                    obtain ⟨_, s25, q25, h⟩ := gb_some h
                    refine Go.callVv S hK hA 0 (Rw_0 ad ca _) rfl (fun sz9 => m_Ref_acc l D ad ca N _ sz9 _ _ _ s25 q25) (cwV 2 hts (gwV k_739 k_741 k_38 k_67 k_742) rfl rfl rfl (by decide +kernel) ⟨Nat.le_of_ble_eq_true rfl, Nat.le_of_ble_eq_true rfl⟩) rfl rfl (Nat.le_of_ble_eq_true rfl) ⟨Nat.zero_le _, Nat.zero_le _⟩ d_Ref_reckons_265 ?_
                    exact Go.vret hx hb hr hK hlk h d_Ref_reckons_268
                · replace h := (if_pos c121).symm.trans h
                  exact Go.vret hx hb hr hK hlk h d_Ref_reckons_124
              · replace h := (if_neg c109).symm.trans h
                refine Go.iconst (v := 1) hx hb (by decide) d_Ref_reckons_112 ?_
                refine Go.goto (tgt := 117) hx hb d_Ref_reckons_113 rfl ?_
                refine Go.iconst (v := 5) hx hb (by decide) d_Ref_reckons_117 ?_
                obtain ⟨r26, s26, q26, h⟩ := gb_some h
                refine Go.callVi S hK hA 0 (Rw_0 ad ca _) rfl (fun sz9 => m_Ref_needs l D ad ca N _ sz9 _ _ r26 s26 q26) (cwV 2 hts (gwV k_747 k_749 k_40 k_67 k_750) rfl rfl rfl (by decide +kernel) ⟨Nat.le_of_ble_eq_true rfl, Nat.le_of_ble_eq_true rfl⟩) rfl rfl (Nat.le_of_ble_eq_true rfl) ⟨Nat.zero_le _, Nat.zero_le _⟩ d_Ref_reckons_118 ?_
                refine Go.if_ne (tgt := 125) hx hb d_Ref_reckons_121 rfl (fun c121 => ?_) (fun c121 => ?_)
                · replace h := (if_neg c121).symm.trans h
                  refine Go.aload_n hx hb 3 rfl d_Ref_reckons_125 ?_
                  refine Go.dup hx hb rfl d_Ref_reckons_126 ?_
                  refine Go.get (v := .int (gI s26 4)) hx hb hts in_Ref hown hK 0 (Rw_0 ad ca _) rfl 8 (by decide) (hts _ k_623) (fun _ h9 => h9) rfl d_Ref_reckons_127 ?_
                  refine Go.iconst (v := 1) hx hb (by decide) d_Ref_reckons_130 ?_
                  refine Go.isub hx hb d_Ref_reckons_131 ?_
                  refine Go.put (ty := (.int)) hx hb hts in_Ref ty_Ref tyok_Ref nm_Ref hown hK 0 (Rw_0 ad ca _) rfl 8 (by decide) (hts _ k_623) (fun _ h9 => h9) rfl (by decide +kernel) rfl rfl (Nat.le_of_ble_eq_true rfl) (uI s26 4 ((gI s26 4) - 1)) (Rs_I4 ad ca _ _) d_Ref_reckons_132 ?_
                  refine Go.iload_n hx hb 4 rfl d_Ref_reckons_135 ?_
                  by_cases c136_0 : a0 = 19
                  · replace h := (if_pos c136_0).symm.trans h
                    refine Go.tin (tgt := 172) (off := 36) hx hb 19 c136_0 d_Ref_reckons_136 (by decide) (by decide) rfl rfl ?_
                    refine Go.aload_n hx hb 3 rfl d_Ref_reckons_172 ?_
                    refine Go.iload_n hx hb 1 rfl d_Ref_reckons_173 ?_
                    refine Go.iload hx hb 0 rfl d_Ref_reckons_174 ?_
                    refine Go.icmp_ge (tgt := 183) hx hb d_Ref_reckons_176 rfl (fun c176 => ?_) (fun c176 => ?_)
                    · replace h := (if_pos c176).symm.trans h
                      refine Go.iconst (v := 0) hx hb (by decide) d_Ref_reckons_183 ?_
                      obtain ⟨_, s27, q27, h⟩ := gb_some h
                      refine Go.callVv S hK hA 0 (Rw_0 ad ca _) rfl (fun sz9 => m_Ref_truth l D ad ca N _ sz9 _ _ s27 q27) (cwV 1 hts (gwV k_786 k_788 k_49 k_67 k_789) rfl rfl rfl (by decide +kernel) ⟨Nat.le_of_ble_eq_true rfl, Nat.le_of_ble_eq_true rfl⟩) rfl rfl (Nat.le_of_ble_eq_true rfl) ⟨Nat.zero_le _, Nat.zero_le _⟩ d_Ref_reckons_184 ?_
                      refine Go.goto (tgt := 268) hx hb d_Ref_reckons_187 rfl ?_
                      exact Go.vret hx hb hr hK hlk h d_Ref_reckons_268
                    · replace h := (if_neg c176).symm.trans h
                      refine Go.iconst (v := 1) hx hb (by decide) d_Ref_reckons_179 ?_
                      refine Go.goto (tgt := 184) hx hb d_Ref_reckons_180 rfl ?_
                      obtain ⟨_, s28, q28, h⟩ := gb_some h
                      refine Go.callVv S hK hA 0 (Rw_0 ad ca _) rfl (fun sz9 => m_Ref_truth l D ad ca N _ sz9 _ _ s28 q28) (cwV 1 hts (gwV k_786 k_788 k_49 k_67 k_789) rfl rfl rfl (by decide +kernel) ⟨Nat.le_of_ble_eq_true rfl, Nat.le_of_ble_eq_true rfl⟩) rfl rfl (Nat.le_of_ble_eq_true rfl) ⟨Nat.zero_le _, Nat.zero_le _⟩ d_Ref_reckons_184 ?_
                      refine Go.goto (tgt := 268) hx hb d_Ref_reckons_187 rfl ?_
                      exact Go.vret hx hb hr hK hlk h d_Ref_reckons_268
                  replace h := (if_neg c136_0).symm.trans h
                  by_cases c136_1 : a0 = 20
                  · replace h := (if_pos c136_1).symm.trans h
                    refine Go.tin (tgt := 190) (off := 54) hx hb 20 c136_1 d_Ref_reckons_136 (by decide) (by decide) rfl rfl ?_
                    refine Go.aload_n hx hb 3 rfl d_Ref_reckons_190 ?_
                    refine Go.iconst (v := 3) hx hb (by decide) d_Ref_reckons_191 ?_
                    refine Go.iload_n hx hb 1 rfl d_Ref_reckons_192 ?_
                    refine Go.iload hx hb 0 rfl d_Ref_reckons_193 ?_
                    refine Go.iadd hx hb d_Ref_reckons_195 ?_
                    obtain ⟨_, s29, q29, h⟩ := gb_some h
                    refine Go.callVv S hK hA 0 (Rw_0 ad ca _) rfl (fun sz9 => m_Ref_acc l D ad ca N _ sz9 _ _ _ s29 q29) (cwV 2 hts (gwV k_739 k_741 k_38 k_67 k_742) rfl rfl rfl (by decide +kernel) ⟨Nat.le_of_ble_eq_true rfl, Nat.le_of_ble_eq_true rfl⟩) rfl rfl (Nat.le_of_ble_eq_true rfl) ⟨Nat.zero_le _, Nat.zero_le _⟩ d_Ref_reckons_196 ?_
                    refine Go.goto (tgt := 268) hx hb d_Ref_reckons_199 rfl ?_
                    exact Go.vret hx hb hr hK hlk h d_Ref_reckons_268
                  replace h := (if_neg c136_1).symm.trans h
                  by_cases c136_2 : a0 = 21
                  · replace h := (if_pos c136_2).symm.trans h
                    refine Go.tin (tgt := 202) (off := 66) hx hb 21 c136_2 d_Ref_reckons_136 (by decide) (by decide) rfl rfl ?_
                    refine Go.aload_n hx hb 3 rfl d_Ref_reckons_202 ?_
                    refine Go.iconst (v := 3) hx hb (by decide) d_Ref_reckons_203 ?_
                    refine Go.iload_n hx hb 1 rfl d_Ref_reckons_204 ?_
                    refine Go.iload hx hb 0 rfl d_Ref_reckons_205 ?_
                    refine Go.isub hx hb d_Ref_reckons_207 ?_
                    obtain ⟨_, s30, q30, h⟩ := gb_some h
                    refine Go.callVv S hK hA 0 (Rw_0 ad ca _) rfl (fun sz9 => m_Ref_acc l D ad ca N _ sz9 _ _ _ s30 q30) (cwV 2 hts (gwV k_739 k_741 k_38 k_67 k_742) rfl rfl rfl (by decide +kernel) ⟨Nat.le_of_ble_eq_true rfl, Nat.le_of_ble_eq_true rfl⟩) rfl rfl (Nat.le_of_ble_eq_true rfl) ⟨Nat.zero_le _, Nat.zero_le _⟩ d_Ref_reckons_208 ?_
                    refine Go.goto (tgt := 268) hx hb d_Ref_reckons_211 rfl ?_
                    exact Go.vret hx hb hr hK hlk h d_Ref_reckons_268
                  replace h := (if_neg c136_2).symm.trans h
                  by_cases c136_3 : a0 = 22
                  · replace h := (if_pos c136_3).symm.trans h
                    refine Go.tin (tgt := 214) (off := 78) hx hb 22 c136_3 d_Ref_reckons_136 (by decide) (by decide) rfl rfl ?_
                    refine Go.aload_n hx hb 3 rfl d_Ref_reckons_214 ?_
                    refine Go.iconst (v := 3) hx hb (by decide) d_Ref_reckons_215 ?_
                    refine Go.iload_n hx hb 1 rfl d_Ref_reckons_216 ?_
                    refine Go.iload hx hb 0 rfl d_Ref_reckons_217 ?_
                    refine Go.imul hx hb d_Ref_reckons_219 ?_
                    obtain ⟨_, s31, q31, h⟩ := gb_some h
                    refine Go.callVv S hK hA 0 (Rw_0 ad ca _) rfl (fun sz9 => m_Ref_acc l D ad ca N _ sz9 _ _ _ s31 q31) (cwV 2 hts (gwV k_739 k_741 k_38 k_67 k_742) rfl rfl rfl (by decide +kernel) ⟨Nat.le_of_ble_eq_true rfl, Nat.le_of_ble_eq_true rfl⟩) rfl rfl (Nat.le_of_ble_eq_true rfl) ⟨Nat.zero_le _, Nat.zero_le _⟩ d_Ref_reckons_220 ?_
                    refine Go.goto (tgt := 268) hx hb d_Ref_reckons_223 rfl ?_
                    exact Go.vret hx hb hr hK hlk h d_Ref_reckons_268
                  replace h := (if_neg c136_3).symm.trans h
                  by_cases c136_4 : a0 = 23
                  · replace h := (if_pos c136_4).symm.trans h
                    refine Go.tin (tgt := 226) (off := 90) hx hb 23 c136_4 d_Ref_reckons_136 (by decide) (by decide) rfl rfl ?_
                    refine Go.aload_n hx hb 3 rfl d_Ref_reckons_226 ?_
                    refine Go.iconst (v := 3) hx hb (by decide) d_Ref_reckons_227 ?_
                    refine Go.iload hx hb 0 rfl d_Ref_reckons_228 ?_
                    refine Go.iconst (v := (-1)) hx hb (by decide) d_Ref_reckons_230 ?_
                    refine Go.icmp_ne (tgt := 239) hx hb d_Ref_reckons_231 rfl (fun c231 => ?_) (fun c231 => ?_)
                    · replace h := (if_neg c231).symm.trans h
                      refine Go.iload_n hx hb 1 rfl d_Ref_reckons_239 ?_
                      refine Go.iload hx hb 0 rfl d_Ref_reckons_240 ?_
                      obtain ⟨c242, h⟩ := gg_some h
                      refine Go.idiv hx hb c242 d_Ref_reckons_242 ?_
                      obtain ⟨_, s32, q32, h⟩ := gb_some h
                      refine Go.callVv S hK hA 0 (Rw_0 ad ca _) rfl (fun sz9 => m_Ref_acc l D ad ca N _ sz9 _ _ _ s32 q32) (cwV 2 hts (gwV k_739 k_741 k_38 k_67 k_742) rfl rfl rfl (by decide +kernel) ⟨Nat.le_of_ble_eq_true rfl, Nat.le_of_ble_eq_true rfl⟩) rfl rfl (Nat.le_of_ble_eq_true rfl) ⟨Nat.zero_le _, Nat.zero_le _⟩ d_Ref_reckons_243 ?_
                      refine Go.goto (tgt := 268) hx hb d_Ref_reckons_246 rfl ?_
                      exact Go.vret hx hb hr hK hlk h d_Ref_reckons_268
                    · replace h := (if_pos c231).symm.trans h
                      refine Go.iload_n hx hb 1 rfl d_Ref_reckons_234 ?_
                      refine Go.ineg hx hb d_Ref_reckons_235 ?_
                      refine Go.goto (tgt := 243) hx hb d_Ref_reckons_236 rfl ?_
                      obtain ⟨_, s33, q33, h⟩ := gb_some h
                      refine Go.callVv S hK hA 0 (Rw_0 ad ca _) rfl (fun sz9 => m_Ref_acc l D ad ca N _ sz9 _ _ _ s33 q33) (cwV 2 hts (gwV k_739 k_741 k_38 k_67 k_742) rfl rfl rfl (by decide +kernel) ⟨Nat.le_of_ble_eq_true rfl, Nat.le_of_ble_eq_true rfl⟩) rfl rfl (Nat.le_of_ble_eq_true rfl) ⟨Nat.zero_le _, Nat.zero_le _⟩ d_Ref_reckons_243 ?_
                      refine Go.goto (tgt := 268) hx hb d_Ref_reckons_246 rfl ?_
                      exact Go.vret hx hb hr hK hlk h d_Ref_reckons_268
                  replace h := (if_neg c136_4).symm.trans h
                  have n136_0 := lv_neT (a := 19) c136_0 (by decide)
                  have n136_1 := lv_neT (a := 20) c136_1 (by decide)
                  have n136_2 := lv_neT (a := 21) c136_2 (by decide)
                  have n136_3 := lv_neT (a := 22) c136_3 (by decide)
                  have n136_4 := lv_neT (a := 23) c136_4 (by decide)
                  refine Go.tout (tgt := 249) hx hb d_Ref_reckons_136 (by omega) rfl ?_
                  refine Go.aload_n hx hb 3 rfl d_Ref_reckons_249 ?_
                  refine Go.iconst (v := 3) hx hb (by decide) d_Ref_reckons_250 ?_
                  refine Go.iload hx hb 0 rfl d_Ref_reckons_251 ?_
                  refine Go.iconst (v := (-1)) hx hb (by decide) d_Ref_reckons_253 ?_
                  refine Go.icmp_ne (tgt := 261) hx hb d_Ref_reckons_254 rfl (fun c254 => ?_) (fun c254 => ?_)
                  · replace h := (if_neg c254).symm.trans h
                    refine Go.iload_n hx hb 1 rfl d_Ref_reckons_261 ?_
                    refine Go.iload hx hb 0 rfl d_Ref_reckons_262 ?_
                    obtain ⟨c264, h⟩ := gg_some h
                    refine Go.irem hx hb c264 d_Ref_reckons_264 ?_
                    obtain ⟨_, s34, q34, h⟩ := gb_some h
                    refine Go.callVv S hK hA 0 (Rw_0 ad ca _) rfl (fun sz9 => m_Ref_acc l D ad ca N _ sz9 _ _ _ s34 q34) (cwV 2 hts (gwV k_739 k_741 k_38 k_67 k_742) rfl rfl rfl (by decide +kernel) ⟨Nat.le_of_ble_eq_true rfl, Nat.le_of_ble_eq_true rfl⟩) rfl rfl (Nat.le_of_ble_eq_true rfl) ⟨Nat.zero_le _, Nat.zero_le _⟩ d_Ref_reckons_265 ?_
                    exact Go.vret hx hb hr hK hlk h d_Ref_reckons_268
                  · replace h := (if_pos c254).symm.trans h
                    refine Go.iconst (v := 0) hx hb (by decide) d_Ref_reckons_257 ?_
                    refine Go.goto (tgt := 265) hx hb d_Ref_reckons_258 rfl ?_
                    obtain ⟨_, s35, q35, h⟩ := gb_some h
                    refine Go.callVv S hK hA 0 (Rw_0 ad ca _) rfl (fun sz9 => m_Ref_acc l D ad ca N _ sz9 _ _ _ s35 q35) (cwV 2 hts (gwV k_739 k_741 k_38 k_67 k_742) rfl rfl rfl (by decide +kernel) ⟨Nat.le_of_ble_eq_true rfl, Nat.le_of_ble_eq_true rfl⟩) rfl rfl (Nat.le_of_ble_eq_true rfl) ⟨Nat.zero_le _, Nat.zero_le _⟩ d_Ref_reckons_265 ?_
                    exact Go.vret hx hb hr hK hlk h d_Ref_reckons_268
                · replace h := (if_pos c121).symm.trans h
                  exact Go.vret hx hb hr hK hlk h d_Ref_reckons_124
        · replace h := (if_pos c88).symm.trans h
          refine Go.iconst (v := 1) hx hb (by decide) d_Ref_reckons_91 ?_
          refine Go.goto (tgt := 96) hx hb d_Ref_reckons_92 rfl ?_
          refine Go.ior hx hb d_Ref_reckons_96 ?_
          refine Go.if_ne (tgt := 124) hx hb d_Ref_reckons_97 rfl (fun c97 => ?_) (fun c97 => ?_)
          · replace h := (if_neg c97).symm.trans h
            exact Go.vret hx hb hr hK hlk h d_Ref_reckons_124
          · replace h := (if_pos c97).symm.trans h
            refine Go.aload_n hx hb 3 rfl d_Ref_reckons_100 ?_
            refine Go.iload_n hx hb 4 rfl d_Ref_reckons_101 ?_
            refine Go.bipush (v := 23) hx hb (by decide) d_Ref_reckons_102 ?_
            refine Go.icmp_lt (tgt := 112) hx hb d_Ref_reckons_104 rfl (fun c104 => ?_) (fun c104 => ?_)
            · replace h := (if_pos c104).symm.trans h
              refine Go.iconst (v := 1) hx hb (by decide) d_Ref_reckons_112 ?_
              refine Go.goto (tgt := 117) hx hb d_Ref_reckons_113 rfl ?_
              refine Go.iconst (v := 5) hx hb (by decide) d_Ref_reckons_117 ?_
              obtain ⟨r36, s36, q36, h⟩ := gb_some h
              refine Go.callVi S hK hA 0 (Rw_0 ad ca _) rfl (fun sz9 => m_Ref_needs l D ad ca N _ sz9 _ _ r36 s36 q36) (cwV 2 hts (gwV k_747 k_749 k_40 k_67 k_750) rfl rfl rfl (by decide +kernel) ⟨Nat.le_of_ble_eq_true rfl, Nat.le_of_ble_eq_true rfl⟩) rfl rfl (Nat.le_of_ble_eq_true rfl) ⟨Nat.zero_le _, Nat.zero_le _⟩ d_Ref_reckons_118 ?_
              refine Go.if_ne (tgt := 125) hx hb d_Ref_reckons_121 rfl (fun c121 => ?_) (fun c121 => ?_)
              · replace h := (if_neg c121).symm.trans h
                refine Go.aload_n hx hb 3 rfl d_Ref_reckons_125 ?_
                refine Go.dup hx hb rfl d_Ref_reckons_126 ?_
                refine Go.get (v := .int (gI s36 4)) hx hb hts in_Ref hown hK 0 (Rw_0 ad ca _) rfl 8 (by decide) (hts _ k_623) (fun _ h9 => h9) rfl d_Ref_reckons_127 ?_
                refine Go.iconst (v := 1) hx hb (by decide) d_Ref_reckons_130 ?_
                refine Go.isub hx hb d_Ref_reckons_131 ?_
                refine Go.put (ty := (.int)) hx hb hts in_Ref ty_Ref tyok_Ref nm_Ref hown hK 0 (Rw_0 ad ca _) rfl 8 (by decide) (hts _ k_623) (fun _ h9 => h9) rfl (by decide +kernel) rfl rfl (Nat.le_of_ble_eq_true rfl) (uI s36 4 ((gI s36 4) - 1)) (Rs_I4 ad ca _ _) d_Ref_reckons_132 ?_
                refine Go.iload_n hx hb 4 rfl d_Ref_reckons_135 ?_
                by_cases c136_0 : a0 = 19
                · replace h := (if_pos c136_0).symm.trans h
                  refine Go.tin (tgt := 172) (off := 36) hx hb 19 c136_0 d_Ref_reckons_136 (by decide) (by decide) rfl rfl ?_
                  refine Go.aload_n hx hb 3 rfl d_Ref_reckons_172 ?_
                  refine Go.iload_n hx hb 1 rfl d_Ref_reckons_173 ?_
                  refine Go.iload hx hb 0 rfl d_Ref_reckons_174 ?_
                  refine Go.icmp_ge (tgt := 183) hx hb d_Ref_reckons_176 rfl (fun c176 => ?_) (fun c176 => ?_)
                  · replace h := (if_pos c176).symm.trans h
                    refine Go.iconst (v := 0) hx hb (by decide) d_Ref_reckons_183 ?_
                    obtain ⟨_, s37, q37, h⟩ := gb_some h
                    refine Go.callVv S hK hA 0 (Rw_0 ad ca _) rfl (fun sz9 => m_Ref_truth l D ad ca N _ sz9 _ _ s37 q37) (cwV 1 hts (gwV k_786 k_788 k_49 k_67 k_789) rfl rfl rfl (by decide +kernel) ⟨Nat.le_of_ble_eq_true rfl, Nat.le_of_ble_eq_true rfl⟩) rfl rfl (Nat.le_of_ble_eq_true rfl) ⟨Nat.zero_le _, Nat.zero_le _⟩ d_Ref_reckons_184 ?_
                    refine Go.goto (tgt := 268) hx hb d_Ref_reckons_187 rfl ?_
                    exact Go.vret hx hb hr hK hlk h d_Ref_reckons_268
                  · replace h := (if_neg c176).symm.trans h
                    refine Go.iconst (v := 1) hx hb (by decide) d_Ref_reckons_179 ?_
                    refine Go.goto (tgt := 184) hx hb d_Ref_reckons_180 rfl ?_
                    obtain ⟨_, s38, q38, h⟩ := gb_some h
                    refine Go.callVv S hK hA 0 (Rw_0 ad ca _) rfl (fun sz9 => m_Ref_truth l D ad ca N _ sz9 _ _ s38 q38) (cwV 1 hts (gwV k_786 k_788 k_49 k_67 k_789) rfl rfl rfl (by decide +kernel) ⟨Nat.le_of_ble_eq_true rfl, Nat.le_of_ble_eq_true rfl⟩) rfl rfl (Nat.le_of_ble_eq_true rfl) ⟨Nat.zero_le _, Nat.zero_le _⟩ d_Ref_reckons_184 ?_
                    refine Go.goto (tgt := 268) hx hb d_Ref_reckons_187 rfl ?_
                    exact Go.vret hx hb hr hK hlk h d_Ref_reckons_268
                replace h := (if_neg c136_0).symm.trans h
                by_cases c136_1 : a0 = 20
                · replace h := (if_pos c136_1).symm.trans h
                  refine Go.tin (tgt := 190) (off := 54) hx hb 20 c136_1 d_Ref_reckons_136 (by decide) (by decide) rfl rfl ?_
                  refine Go.aload_n hx hb 3 rfl d_Ref_reckons_190 ?_
                  refine Go.iconst (v := 3) hx hb (by decide) d_Ref_reckons_191 ?_
                  refine Go.iload_n hx hb 1 rfl d_Ref_reckons_192 ?_
                  refine Go.iload hx hb 0 rfl d_Ref_reckons_193 ?_
                  refine Go.iadd hx hb d_Ref_reckons_195 ?_
                  obtain ⟨_, s39, q39, h⟩ := gb_some h
                  refine Go.callVv S hK hA 0 (Rw_0 ad ca _) rfl (fun sz9 => m_Ref_acc l D ad ca N _ sz9 _ _ _ s39 q39) (cwV 2 hts (gwV k_739 k_741 k_38 k_67 k_742) rfl rfl rfl (by decide +kernel) ⟨Nat.le_of_ble_eq_true rfl, Nat.le_of_ble_eq_true rfl⟩) rfl rfl (Nat.le_of_ble_eq_true rfl) ⟨Nat.zero_le _, Nat.zero_le _⟩ d_Ref_reckons_196 ?_
                  refine Go.goto (tgt := 268) hx hb d_Ref_reckons_199 rfl ?_
                  exact Go.vret hx hb hr hK hlk h d_Ref_reckons_268
                replace h := (if_neg c136_1).symm.trans h
                by_cases c136_2 : a0 = 21
                · replace h := (if_pos c136_2).symm.trans h
                  refine Go.tin (tgt := 202) (off := 66) hx hb 21 c136_2 d_Ref_reckons_136 (by decide) (by decide) rfl rfl ?_
                  refine Go.aload_n hx hb 3 rfl d_Ref_reckons_202 ?_
                  refine Go.iconst (v := 3) hx hb (by decide) d_Ref_reckons_203 ?_
                  refine Go.iload_n hx hb 1 rfl d_Ref_reckons_204 ?_
                  refine Go.iload hx hb 0 rfl d_Ref_reckons_205 ?_
                  refine Go.isub hx hb d_Ref_reckons_207 ?_
                  obtain ⟨_, s40, q40, h⟩ := gb_some h
                  refine Go.callVv S hK hA 0 (Rw_0 ad ca _) rfl (fun sz9 => m_Ref_acc l D ad ca N _ sz9 _ _ _ s40 q40) (cwV 2 hts (gwV k_739 k_741 k_38 k_67 k_742) rfl rfl rfl (by decide +kernel) ⟨Nat.le_of_ble_eq_true rfl, Nat.le_of_ble_eq_true rfl⟩) rfl rfl (Nat.le_of_ble_eq_true rfl) ⟨Nat.zero_le _, Nat.zero_le _⟩ d_Ref_reckons_208 ?_
                  refine Go.goto (tgt := 268) hx hb d_Ref_reckons_211 rfl ?_
                  exact Go.vret hx hb hr hK hlk h d_Ref_reckons_268
                replace h := (if_neg c136_2).symm.trans h
                by_cases c136_3 : a0 = 22
                · replace h := (if_pos c136_3).symm.trans h
                  refine Go.tin (tgt := 214) (off := 78) hx hb 22 c136_3 d_Ref_reckons_136 (by decide) (by decide) rfl rfl ?_
                  refine Go.aload_n hx hb 3 rfl d_Ref_reckons_214 ?_
                  refine Go.iconst (v := 3) hx hb (by decide) d_Ref_reckons_215 ?_
                  refine Go.iload_n hx hb 1 rfl d_Ref_reckons_216 ?_
                  refine Go.iload hx hb 0 rfl d_Ref_reckons_217 ?_
                  refine Go.imul hx hb d_Ref_reckons_219 ?_
                  obtain ⟨_, s41, q41, h⟩ := gb_some h
                  refine Go.callVv S hK hA 0 (Rw_0 ad ca _) rfl (fun sz9 => m_Ref_acc l D ad ca N _ sz9 _ _ _ s41 q41) (cwV 2 hts (gwV k_739 k_741 k_38 k_67 k_742) rfl rfl rfl (by decide +kernel) ⟨Nat.le_of_ble_eq_true rfl, Nat.le_of_ble_eq_true rfl⟩) rfl rfl (Nat.le_of_ble_eq_true rfl) ⟨Nat.zero_le _, Nat.zero_le _⟩ d_Ref_reckons_220 ?_
                  refine Go.goto (tgt := 268) hx hb d_Ref_reckons_223 rfl ?_
                  exact Go.vret hx hb hr hK hlk h d_Ref_reckons_268
                replace h := (if_neg c136_3).symm.trans h
                by_cases c136_4 : a0 = 23
                · replace h := (if_pos c136_4).symm.trans h
                  refine Go.tin (tgt := 226) (off := 90) hx hb 23 c136_4 d_Ref_reckons_136 (by decide) (by decide) rfl rfl ?_
                  refine Go.aload_n hx hb 3 rfl d_Ref_reckons_226 ?_
                  refine Go.iconst (v := 3) hx hb (by decide) d_Ref_reckons_227 ?_
                  refine Go.iload hx hb 0 rfl d_Ref_reckons_228 ?_
                  refine Go.iconst (v := (-1)) hx hb (by decide) d_Ref_reckons_230 ?_
                  refine Go.icmp_ne (tgt := 239) hx hb d_Ref_reckons_231 rfl (fun c231 => ?_) (fun c231 => ?_)
                  · replace h := (if_neg c231).symm.trans h
                    refine Go.iload_n hx hb 1 rfl d_Ref_reckons_239 ?_
                    refine Go.iload hx hb 0 rfl d_Ref_reckons_240 ?_
                    obtain ⟨c242, h⟩ := gg_some h
                    refine Go.idiv hx hb c242 d_Ref_reckons_242 ?_
                    obtain ⟨_, s42, q42, h⟩ := gb_some h
                    refine Go.callVv S hK hA 0 (Rw_0 ad ca _) rfl (fun sz9 => m_Ref_acc l D ad ca N _ sz9 _ _ _ s42 q42) (cwV 2 hts (gwV k_739 k_741 k_38 k_67 k_742) rfl rfl rfl (by decide +kernel) ⟨Nat.le_of_ble_eq_true rfl, Nat.le_of_ble_eq_true rfl⟩) rfl rfl (Nat.le_of_ble_eq_true rfl) ⟨Nat.zero_le _, Nat.zero_le _⟩ d_Ref_reckons_243 ?_
                    refine Go.goto (tgt := 268) hx hb d_Ref_reckons_246 rfl ?_
                    exact Go.vret hx hb hr hK hlk h d_Ref_reckons_268
                  · replace h := (if_pos c231).symm.trans h
                    refine Go.iload_n hx hb 1 rfl d_Ref_reckons_234 ?_
                    refine Go.ineg hx hb d_Ref_reckons_235 ?_
                    refine Go.goto (tgt := 243) hx hb d_Ref_reckons_236 rfl ?_
                    obtain ⟨_, s43, q43, h⟩ := gb_some h
                    refine Go.callVv S hK hA 0 (Rw_0 ad ca _) rfl (fun sz9 => m_Ref_acc l D ad ca N _ sz9 _ _ _ s43 q43) (cwV 2 hts (gwV k_739 k_741 k_38 k_67 k_742) rfl rfl rfl (by decide +kernel) ⟨Nat.le_of_ble_eq_true rfl, Nat.le_of_ble_eq_true rfl⟩) rfl rfl (Nat.le_of_ble_eq_true rfl) ⟨Nat.zero_le _, Nat.zero_le _⟩ d_Ref_reckons_243 ?_
                    refine Go.goto (tgt := 268) hx hb d_Ref_reckons_246 rfl ?_
                    exact Go.vret hx hb hr hK hlk h d_Ref_reckons_268
                replace h := (if_neg c136_4).symm.trans h
                have n136_0 := lv_neT (a := 19) c136_0 (by decide)
                have n136_1 := lv_neT (a := 20) c136_1 (by decide)
                have n136_2 := lv_neT (a := 21) c136_2 (by decide)
                have n136_3 := lv_neT (a := 22) c136_3 (by decide)
                have n136_4 := lv_neT (a := 23) c136_4 (by decide)
                refine Go.tout (tgt := 249) hx hb d_Ref_reckons_136 (by omega) rfl ?_
                refine Go.aload_n hx hb 3 rfl d_Ref_reckons_249 ?_
                refine Go.iconst (v := 3) hx hb (by decide) d_Ref_reckons_250 ?_
                refine Go.iload hx hb 0 rfl d_Ref_reckons_251 ?_
                refine Go.iconst (v := (-1)) hx hb (by decide) d_Ref_reckons_253 ?_
                refine Go.icmp_ne (tgt := 261) hx hb d_Ref_reckons_254 rfl (fun c254 => ?_) (fun c254 => ?_)
                · replace h := (if_neg c254).symm.trans h
                  refine Go.iload_n hx hb 1 rfl d_Ref_reckons_261 ?_
                  refine Go.iload hx hb 0 rfl d_Ref_reckons_262 ?_
                  obtain ⟨c264, h⟩ := gg_some h
                  refine Go.irem hx hb c264 d_Ref_reckons_264 ?_
                  obtain ⟨_, s44, q44, h⟩ := gb_some h
                  refine Go.callVv S hK hA 0 (Rw_0 ad ca _) rfl (fun sz9 => m_Ref_acc l D ad ca N _ sz9 _ _ _ s44 q44) (cwV 2 hts (gwV k_739 k_741 k_38 k_67 k_742) rfl rfl rfl (by decide +kernel) ⟨Nat.le_of_ble_eq_true rfl, Nat.le_of_ble_eq_true rfl⟩) rfl rfl (Nat.le_of_ble_eq_true rfl) ⟨Nat.zero_le _, Nat.zero_le _⟩ d_Ref_reckons_265 ?_
                  exact Go.vret hx hb hr hK hlk h d_Ref_reckons_268
                · replace h := (if_pos c254).symm.trans h
                  refine Go.iconst (v := 0) hx hb (by decide) d_Ref_reckons_257 ?_
                  refine Go.goto (tgt := 265) hx hb d_Ref_reckons_258 rfl ?_
                  obtain ⟨_, s45, q45, h⟩ := gb_some h
                  refine Go.callVv S hK hA 0 (Rw_0 ad ca _) rfl (fun sz9 => m_Ref_acc l D ad ca N _ sz9 _ _ _ s45 q45) (cwV 2 hts (gwV k_739 k_741 k_38 k_67 k_742) rfl rfl rfl (by decide +kernel) ⟨Nat.le_of_ble_eq_true rfl, Nat.le_of_ble_eq_true rfl⟩) rfl rfl (Nat.le_of_ble_eq_true rfl) ⟨Nat.zero_le _, Nat.zero_le _⟩ d_Ref_reckons_265 ?_
                  exact Go.vret hx hb hr hK hlk h d_Ref_reckons_268
              · replace h := (if_pos c121).symm.trans h
                exact Go.vret hx hb hr hK hlk h d_Ref_reckons_124
            · replace h := (if_neg c104).symm.trans h
              refine Go.iload hx hb 0 rfl d_Ref_reckons_107 ?_
              refine Go.if_eq (tgt := 116) hx hb d_Ref_reckons_109 rfl (fun c109 => ?_) (fun c109 => ?_)
              · replace h := (if_pos c109).symm.trans h
                refine Go.iconst (v := 0) hx hb (by decide) d_Ref_reckons_116 ?_
                refine Go.iconst (v := 5) hx hb (by decide) d_Ref_reckons_117 ?_
                obtain ⟨r46, s46, q46, h⟩ := gb_some h
                refine Go.callVi S hK hA 0 (Rw_0 ad ca _) rfl (fun sz9 => m_Ref_needs l D ad ca N _ sz9 _ _ r46 s46 q46) (cwV 2 hts (gwV k_747 k_749 k_40 k_67 k_750) rfl rfl rfl (by decide +kernel) ⟨Nat.le_of_ble_eq_true rfl, Nat.le_of_ble_eq_true rfl⟩) rfl rfl (Nat.le_of_ble_eq_true rfl) ⟨Nat.zero_le _, Nat.zero_le _⟩ d_Ref_reckons_118 ?_
                refine Go.if_ne (tgt := 125) hx hb d_Ref_reckons_121 rfl (fun c121 => ?_) (fun c121 => ?_)
                · replace h := (if_neg c121).symm.trans h
                  refine Go.aload_n hx hb 3 rfl d_Ref_reckons_125 ?_
                  refine Go.dup hx hb rfl d_Ref_reckons_126 ?_
                  refine Go.get (v := .int (gI s46 4)) hx hb hts in_Ref hown hK 0 (Rw_0 ad ca _) rfl 8 (by decide) (hts _ k_623) (fun _ h9 => h9) rfl d_Ref_reckons_127 ?_
                  refine Go.iconst (v := 1) hx hb (by decide) d_Ref_reckons_130 ?_
                  refine Go.isub hx hb d_Ref_reckons_131 ?_
                  refine Go.put (ty := (.int)) hx hb hts in_Ref ty_Ref tyok_Ref nm_Ref hown hK 0 (Rw_0 ad ca _) rfl 8 (by decide) (hts _ k_623) (fun _ h9 => h9) rfl (by decide +kernel) rfl rfl (Nat.le_of_ble_eq_true rfl) (uI s46 4 ((gI s46 4) - 1)) (Rs_I4 ad ca _ _) d_Ref_reckons_132 ?_
                  refine Go.iload_n hx hb 4 rfl d_Ref_reckons_135 ?_
                  by_cases c136_0 : a0 = 19
                  · replace h := (if_pos c136_0).symm.trans h
                    refine Go.tin (tgt := 172) (off := 36) hx hb 19 c136_0 d_Ref_reckons_136 (by decide) (by decide) rfl rfl ?_
                    refine Go.aload_n hx hb 3 rfl d_Ref_reckons_172 ?_
                    refine Go.iload_n hx hb 1 rfl d_Ref_reckons_173 ?_
                    refine Go.iload hx hb 0 rfl d_Ref_reckons_174 ?_
                    refine Go.icmp_ge (tgt := 183) hx hb d_Ref_reckons_176 rfl (fun c176 => ?_) (fun c176 => ?_)
                    · replace h := (if_pos c176).symm.trans h
                      refine Go.iconst (v := 0) hx hb (by decide) d_Ref_reckons_183 ?_
                      obtain ⟨_, s47, q47, h⟩ := gb_some h
                      refine Go.callVv S hK hA 0 (Rw_0 ad ca _) rfl (fun sz9 => m_Ref_truth l D ad ca N _ sz9 _ _ s47 q47) (cwV 1 hts (gwV k_786 k_788 k_49 k_67 k_789) rfl rfl rfl (by decide +kernel) ⟨Nat.le_of_ble_eq_true rfl, Nat.le_of_ble_eq_true rfl⟩) rfl rfl (Nat.le_of_ble_eq_true rfl) ⟨Nat.zero_le _, Nat.zero_le _⟩ d_Ref_reckons_184 ?_
                      refine Go.goto (tgt := 268) hx hb d_Ref_reckons_187 rfl ?_
                      exact Go.vret hx hb hr hK hlk h d_Ref_reckons_268
                    · replace h := (if_neg c176).symm.trans h
                      refine Go.iconst (v := 1) hx hb (by decide) d_Ref_reckons_179 ?_
                      refine Go.goto (tgt := 184) hx hb d_Ref_reckons_180 rfl ?_
                      obtain ⟨_, s48, q48, h⟩ := gb_some h
                      refine Go.callVv S hK hA 0 (Rw_0 ad ca _) rfl (fun sz9 => m_Ref_truth l D ad ca N _ sz9 _ _ s48 q48) (cwV 1 hts (gwV k_786 k_788 k_49 k_67 k_789) rfl rfl rfl (by decide +kernel) ⟨Nat.le_of_ble_eq_true rfl, Nat.le_of_ble_eq_true rfl⟩) rfl rfl (Nat.le_of_ble_eq_true rfl) ⟨Nat.zero_le _, Nat.zero_le _⟩ d_Ref_reckons_184 ?_
                      refine Go.goto (tgt := 268) hx hb d_Ref_reckons_187 rfl ?_
                      exact Go.vret hx hb hr hK hlk h d_Ref_reckons_268
                  replace h := (if_neg c136_0).symm.trans h
                  by_cases c136_1 : a0 = 20
                  · replace h := (if_pos c136_1).symm.trans h
                    refine Go.tin (tgt := 190) (off := 54) hx hb 20 c136_1 d_Ref_reckons_136 (by decide) (by decide) rfl rfl ?_
                    refine Go.aload_n hx hb 3 rfl d_Ref_reckons_190 ?_
                    refine Go.iconst (v := 3) hx hb (by decide) d_Ref_reckons_191 ?_
                    refine Go.iload_n hx hb 1 rfl d_Ref_reckons_192 ?_
                    refine Go.iload hx hb 0 rfl d_Ref_reckons_193 ?_
                    refine Go.iadd hx hb d_Ref_reckons_195 ?_
                    obtain ⟨_, s49, q49, h⟩ := gb_some h
                    refine Go.callVv S hK hA 0 (Rw_0 ad ca _) rfl (fun sz9 => m_Ref_acc l D ad ca N _ sz9 _ _ _ s49 q49) (cwV 2 hts (gwV k_739 k_741 k_38 k_67 k_742) rfl rfl rfl (by decide +kernel) ⟨Nat.le_of_ble_eq_true rfl, Nat.le_of_ble_eq_true rfl⟩) rfl rfl (Nat.le_of_ble_eq_true rfl) ⟨Nat.zero_le _, Nat.zero_le _⟩ d_Ref_reckons_196 ?_
                    refine Go.goto (tgt := 268) hx hb d_Ref_reckons_199 rfl ?_
                    exact Go.vret hx hb hr hK hlk h d_Ref_reckons_268
                  replace h := (if_neg c136_1).symm.trans h
                  by_cases c136_2 : a0 = 21
                  · replace h := (if_pos c136_2).symm.trans h
                    refine Go.tin (tgt := 202) (off := 66) hx hb 21 c136_2 d_Ref_reckons_136 (by decide) (by decide) rfl rfl ?_
                    refine Go.aload_n hx hb 3 rfl d_Ref_reckons_202 ?_
                    refine Go.iconst (v := 3) hx hb (by decide) d_Ref_reckons_203 ?_
                    refine Go.iload_n hx hb 1 rfl d_Ref_reckons_204 ?_
                    refine Go.iload hx hb 0 rfl d_Ref_reckons_205 ?_
                    refine Go.isub hx hb d_Ref_reckons_207 ?_
                    obtain ⟨_, s50, q50, h⟩ := gb_some h
                    refine Go.callVv S hK hA 0 (Rw_0 ad ca _) rfl (fun sz9 => m_Ref_acc l D ad ca N _ sz9 _ _ _ s50 q50) (cwV 2 hts (gwV k_739 k_741 k_38 k_67 k_742) rfl rfl rfl (by decide +kernel) ⟨Nat.le_of_ble_eq_true rfl, Nat.le_of_ble_eq_true rfl⟩) rfl rfl (Nat.le_of_ble_eq_true rfl) ⟨Nat.zero_le _, Nat.zero_le _⟩ d_Ref_reckons_208 ?_
                    refine Go.goto (tgt := 268) hx hb d_Ref_reckons_211 rfl ?_
                    exact Go.vret hx hb hr hK hlk h d_Ref_reckons_268
                  replace h := (if_neg c136_2).symm.trans h
                  by_cases c136_3 : a0 = 22
                  · replace h := (if_pos c136_3).symm.trans h
                    refine Go.tin (tgt := 214) (off := 78) hx hb 22 c136_3 d_Ref_reckons_136 (by decide) (by decide) rfl rfl ?_
                    refine Go.aload_n hx hb 3 rfl d_Ref_reckons_214 ?_
                    refine Go.iconst (v := 3) hx hb (by decide) d_Ref_reckons_215 ?_
                    refine Go.iload_n hx hb 1 rfl d_Ref_reckons_216 ?_
                    refine Go.iload hx hb 0 rfl d_Ref_reckons_217 ?_
                    refine Go.imul hx hb d_Ref_reckons_219 ?_
                    obtain ⟨_, s51, q51, h⟩ := gb_some h
                    refine Go.callVv S hK hA 0 (Rw_0 ad ca _) rfl (fun sz9 => m_Ref_acc l D ad ca N _ sz9 _ _ _ s51 q51) (cwV 2 hts (gwV k_739 k_741 k_38 k_67 k_742) rfl rfl rfl (by decide +kernel) ⟨Nat.le_of_ble_eq_true rfl, Nat.le_of_ble_eq_true rfl⟩) rfl rfl (Nat.le_of_ble_eq_true rfl) ⟨Nat.zero_le _, Nat.zero_le _⟩ d_Ref_reckons_220 ?_
                    refine Go.goto (tgt := 268) hx hb d_Ref_reckons_223 rfl ?_
                    exact Go.vret hx hb hr hK hlk h d_Ref_reckons_268
                  replace h := (if_neg c136_3).symm.trans h
                  by_cases c136_4 : a0 = 23
                  · replace h := (if_pos c136_4).symm.trans h
                    refine Go.tin (tgt := 226) (off := 90) hx hb 23 c136_4 d_Ref_reckons_136 (by decide) (by decide) rfl rfl ?_
                    refine Go.aload_n hx hb 3 rfl d_Ref_reckons_226 ?_
                    refine Go.iconst (v := 3) hx hb (by decide) d_Ref_reckons_227 ?_
                    refine Go.iload hx hb 0 rfl d_Ref_reckons_228 ?_
                    refine Go.iconst (v := (-1)) hx hb (by decide) d_Ref_reckons_230 ?_
                    refine Go.icmp_ne (tgt := 239) hx hb d_Ref_reckons_231 rfl (fun c231 => ?_) (fun c231 => ?_)
                    · replace h := (if_neg c231).symm.trans h
                      refine Go.iload_n hx hb 1 rfl d_Ref_reckons_239 ?_
                      refine Go.iload hx hb 0 rfl d_Ref_reckons_240 ?_
                      obtain ⟨c242, h⟩ := gg_some h
                      refine Go.idiv hx hb c242 d_Ref_reckons_242 ?_
                      obtain ⟨_, s52, q52, h⟩ := gb_some h
                      refine Go.callVv S hK hA 0 (Rw_0 ad ca _) rfl (fun sz9 => m_Ref_acc l D ad ca N _ sz9 _ _ _ s52 q52) (cwV 2 hts (gwV k_739 k_741 k_38 k_67 k_742) rfl rfl rfl (by decide +kernel) ⟨Nat.le_of_ble_eq_true rfl, Nat.le_of_ble_eq_true rfl⟩) rfl rfl (Nat.le_of_ble_eq_true rfl) ⟨Nat.zero_le _, Nat.zero_le _⟩ d_Ref_reckons_243 ?_
                      refine Go.goto (tgt := 268) hx hb d_Ref_reckons_246 rfl ?_
                      exact Go.vret hx hb hr hK hlk h d_Ref_reckons_268
                    · replace h := (if_pos c231).symm.trans h
                      refine Go.iload_n hx hb 1 rfl d_Ref_reckons_234 ?_
                      refine Go.ineg hx hb d_Ref_reckons_235 ?_
                      refine Go.goto (tgt := 243) hx hb d_Ref_reckons_236 rfl ?_
                      obtain ⟨_, s53, q53, h⟩ := gb_some h
                      refine Go.callVv S hK hA 0 (Rw_0 ad ca _) rfl (fun sz9 => m_Ref_acc l D ad ca N _ sz9 _ _ _ s53 q53) (cwV 2 hts (gwV k_739 k_741 k_38 k_67 k_742) rfl rfl rfl (by decide +kernel) ⟨Nat.le_of_ble_eq_true rfl, Nat.le_of_ble_eq_true rfl⟩) rfl rfl (Nat.le_of_ble_eq_true rfl) ⟨Nat.zero_le _, Nat.zero_le _⟩ d_Ref_reckons_243 ?_
                      refine Go.goto (tgt := 268) hx hb d_Ref_reckons_246 rfl ?_
                      exact Go.vret hx hb hr hK hlk h d_Ref_reckons_268
                  replace h := (if_neg c136_4).symm.trans h
                  have n136_0 := lv_neT (a := 19) c136_0 (by decide)
                  have n136_1 := lv_neT (a := 20) c136_1 (by decide)
                  have n136_2 := lv_neT (a := 21) c136_2 (by decide)
                  have n136_3 := lv_neT (a := 22) c136_3 (by decide)
                  have n136_4 := lv_neT (a := 23) c136_4 (by decide)
                  refine Go.tout (tgt := 249) hx hb d_Ref_reckons_136 (by omega) rfl ?_
                  refine Go.aload_n hx hb 3 rfl d_Ref_reckons_249 ?_
                  refine Go.iconst (v := 3) hx hb (by decide) d_Ref_reckons_250 ?_
                  refine Go.iload hx hb 0 rfl d_Ref_reckons_251 ?_
                  refine Go.iconst (v := (-1)) hx hb (by decide) d_Ref_reckons_253 ?_
                  refine Go.icmp_ne (tgt := 261) hx hb d_Ref_reckons_254 rfl (fun c254 => ?_) (fun c254 => ?_)
                  · replace h := (if_neg c254).symm.trans h
                    refine Go.iload_n hx hb 1 rfl d_Ref_reckons_261 ?_
                    refine Go.iload hx hb 0 rfl d_Ref_reckons_262 ?_
                    obtain ⟨c264, h⟩ := gg_some h
                    refine Go.irem hx hb c264 d_Ref_reckons_264 ?_
                    obtain ⟨_, s54, q54, h⟩ := gb_some h
                    refine Go.callVv S hK hA 0 (Rw_0 ad ca _) rfl (fun sz9 => m_Ref_acc l D ad ca N _ sz9 _ _ _ s54 q54) (cwV 2 hts (gwV k_739 k_741 k_38 k_67 k_742) rfl rfl rfl (by decide +kernel) ⟨Nat.le_of_ble_eq_true rfl, Nat.le_of_ble_eq_true rfl⟩) rfl rfl (Nat.le_of_ble_eq_true rfl) ⟨Nat.zero_le _, Nat.zero_le _⟩ d_Ref_reckons_265 ?_
                    exact Go.vret hx hb hr hK hlk h d_Ref_reckons_268
                  · replace h := (if_pos c254).symm.trans h
                    refine Go.iconst (v := 0) hx hb (by decide) d_Ref_reckons_257 ?_
                    refine Go.goto (tgt := 265) hx hb d_Ref_reckons_258 rfl ?_
                    obtain ⟨_, s55, q55, h⟩ := gb_some h
                    refine Go.callVv S hK hA 0 (Rw_0 ad ca _) rfl (fun sz9 => m_Ref_acc l D ad ca N _ sz9 _ _ _ s55 q55) (cwV 2 hts (gwV k_739 k_741 k_38 k_67 k_742) rfl rfl rfl (by decide +kernel) ⟨Nat.le_of_ble_eq_true rfl, Nat.le_of_ble_eq_true rfl⟩) rfl rfl (Nat.le_of_ble_eq_true rfl) ⟨Nat.zero_le _, Nat.zero_le _⟩ d_Ref_reckons_265 ?_
                    exact Go.vret hx hb hr hK hlk h d_Ref_reckons_268
                · replace h := (if_pos c121).symm.trans h
                  exact Go.vret hx hb hr hK hlk h d_Ref_reckons_124
              · replace h := (if_neg c109).symm.trans h
                refine Go.iconst (v := 1) hx hb (by decide) d_Ref_reckons_112 ?_
                refine Go.goto (tgt := 117) hx hb d_Ref_reckons_113 rfl ?_
                refine Go.iconst (v := 5) hx hb (by decide) d_Ref_reckons_117 ?_
                obtain ⟨r56, s56, q56, h⟩ := gb_some h
                refine Go.callVi S hK hA 0 (Rw_0 ad ca _) rfl (fun sz9 => m_Ref_needs l D ad ca N _ sz9 _ _ r56 s56 q56) (cwV 2 hts (gwV k_747 k_749 k_40 k_67 k_750) rfl rfl rfl (by decide +kernel) ⟨Nat.le_of_ble_eq_true rfl, Nat.le_of_ble_eq_true rfl⟩) rfl rfl (Nat.le_of_ble_eq_true rfl) ⟨Nat.zero_le _, Nat.zero_le _⟩ d_Ref_reckons_118 ?_
                refine Go.if_ne (tgt := 125) hx hb d_Ref_reckons_121 rfl (fun c121 => ?_) (fun c121 => ?_)
                · replace h := (if_neg c121).symm.trans h
                  refine Go.aload_n hx hb 3 rfl d_Ref_reckons_125 ?_
                  refine Go.dup hx hb rfl d_Ref_reckons_126 ?_
                  refine Go.get (v := .int (gI s56 4)) hx hb hts in_Ref hown hK 0 (Rw_0 ad ca _) rfl 8 (by decide) (hts _ k_623) (fun _ h9 => h9) rfl d_Ref_reckons_127 ?_
                  refine Go.iconst (v := 1) hx hb (by decide) d_Ref_reckons_130 ?_
                  refine Go.isub hx hb d_Ref_reckons_131 ?_
                  refine Go.put (ty := (.int)) hx hb hts in_Ref ty_Ref tyok_Ref nm_Ref hown hK 0 (Rw_0 ad ca _) rfl 8 (by decide) (hts _ k_623) (fun _ h9 => h9) rfl (by decide +kernel) rfl rfl (Nat.le_of_ble_eq_true rfl) (uI s56 4 ((gI s56 4) - 1)) (Rs_I4 ad ca _ _) d_Ref_reckons_132 ?_
                  refine Go.iload_n hx hb 4 rfl d_Ref_reckons_135 ?_
                  by_cases c136_0 : a0 = 19
                  · replace h := (if_pos c136_0).symm.trans h
                    refine Go.tin (tgt := 172) (off := 36) hx hb 19 c136_0 d_Ref_reckons_136 (by decide) (by decide) rfl rfl ?_
                    refine Go.aload_n hx hb 3 rfl d_Ref_reckons_172 ?_
                    refine Go.iload_n hx hb 1 rfl d_Ref_reckons_173 ?_
                    refine Go.iload hx hb 0 rfl d_Ref_reckons_174 ?_
                    refine Go.icmp_ge (tgt := 183) hx hb d_Ref_reckons_176 rfl (fun c176 => ?_) (fun c176 => ?_)
                    · replace h := (if_pos c176).symm.trans h
                      refine Go.iconst (v := 0) hx hb (by decide) d_Ref_reckons_183 ?_
                      obtain ⟨_, s57, q57, h⟩ := gb_some h
                      refine Go.callVv S hK hA 0 (Rw_0 ad ca _) rfl (fun sz9 => m_Ref_truth l D ad ca N _ sz9 _ _ s57 q57) (cwV 1 hts (gwV k_786 k_788 k_49 k_67 k_789) rfl rfl rfl (by decide +kernel) ⟨Nat.le_of_ble_eq_true rfl, Nat.le_of_ble_eq_true rfl⟩) rfl rfl (Nat.le_of_ble_eq_true rfl) ⟨Nat.zero_le _, Nat.zero_le _⟩ d_Ref_reckons_184 ?_
                      refine Go.goto (tgt := 268) hx hb d_Ref_reckons_187 rfl ?_
                      exact Go.vret hx hb hr hK hlk h d_Ref_reckons_268
                    · replace h := (if_neg c176).symm.trans h
                      refine Go.iconst (v := 1) hx hb (by decide) d_Ref_reckons_179 ?_
                      refine Go.goto (tgt := 184) hx hb d_Ref_reckons_180 rfl ?_
                      obtain ⟨_, s58, q58, h⟩ := gb_some h
                      refine Go.callVv S hK hA 0 (Rw_0 ad ca _) rfl (fun sz9 => m_Ref_truth l D ad ca N _ sz9 _ _ s58 q58) (cwV 1 hts (gwV k_786 k_788 k_49 k_67 k_789) rfl rfl rfl (by decide +kernel) ⟨Nat.le_of_ble_eq_true rfl, Nat.le_of_ble_eq_true rfl⟩) rfl rfl (Nat.le_of_ble_eq_true rfl) ⟨Nat.zero_le _, Nat.zero_le _⟩ d_Ref_reckons_184 ?_
                      refine Go.goto (tgt := 268) hx hb d_Ref_reckons_187 rfl ?_
                      exact Go.vret hx hb hr hK hlk h d_Ref_reckons_268
                  replace h := (if_neg c136_0).symm.trans h
                  by_cases c136_1 : a0 = 20
                  · replace h := (if_pos c136_1).symm.trans h
                    refine Go.tin (tgt := 190) (off := 54) hx hb 20 c136_1 d_Ref_reckons_136 (by decide) (by decide) rfl rfl ?_
                    refine Go.aload_n hx hb 3 rfl d_Ref_reckons_190 ?_
                    refine Go.iconst (v := 3) hx hb (by decide) d_Ref_reckons_191 ?_
                    refine Go.iload_n hx hb 1 rfl d_Ref_reckons_192 ?_
                    refine Go.iload hx hb 0 rfl d_Ref_reckons_193 ?_
                    refine Go.iadd hx hb d_Ref_reckons_195 ?_
                    obtain ⟨_, s59, q59, h⟩ := gb_some h
                    refine Go.callVv S hK hA 0 (Rw_0 ad ca _) rfl (fun sz9 => m_Ref_acc l D ad ca N _ sz9 _ _ _ s59 q59) (cwV 2 hts (gwV k_739 k_741 k_38 k_67 k_742) rfl rfl rfl (by decide +kernel) ⟨Nat.le_of_ble_eq_true rfl, Nat.le_of_ble_eq_true rfl⟩) rfl rfl (Nat.le_of_ble_eq_true rfl) ⟨Nat.zero_le _, Nat.zero_le _⟩ d_Ref_reckons_196 ?_
                    refine Go.goto (tgt := 268) hx hb d_Ref_reckons_199 rfl ?_
                    exact Go.vret hx hb hr hK hlk h d_Ref_reckons_268
                  replace h := (if_neg c136_1).symm.trans h
                  by_cases c136_2 : a0 = 21
                  · replace h := (if_pos c136_2).symm.trans h
                    refine Go.tin (tgt := 202) (off := 66) hx hb 21 c136_2 d_Ref_reckons_136 (by decide) (by decide) rfl rfl ?_
                    refine Go.aload_n hx hb 3 rfl d_Ref_reckons_202 ?_
                    refine Go.iconst (v := 3) hx hb (by decide) d_Ref_reckons_203 ?_
                    refine Go.iload_n hx hb 1 rfl d_Ref_reckons_204 ?_
                    refine Go.iload hx hb 0 rfl d_Ref_reckons_205 ?_
                    refine Go.isub hx hb d_Ref_reckons_207 ?_
                    obtain ⟨_, s60, q60, h⟩ := gb_some h
                    refine Go.callVv S hK hA 0 (Rw_0 ad ca _) rfl (fun sz9 => m_Ref_acc l D ad ca N _ sz9 _ _ _ s60 q60) (cwV 2 hts (gwV k_739 k_741 k_38 k_67 k_742) rfl rfl rfl (by decide +kernel) ⟨Nat.le_of_ble_eq_true rfl, Nat.le_of_ble_eq_true rfl⟩) rfl rfl (Nat.le_of_ble_eq_true rfl) ⟨Nat.zero_le _, Nat.zero_le _⟩ d_Ref_reckons_208 ?_
                    refine Go.goto (tgt := 268) hx hb d_Ref_reckons_211 rfl ?_
                    exact Go.vret hx hb hr hK hlk h d_Ref_reckons_268
                  replace h := (if_neg c136_2).symm.trans h
                  by_cases c136_3 : a0 = 22
                  · replace h := (if_pos c136_3).symm.trans h
                    refine Go.tin (tgt := 214) (off := 78) hx hb 22 c136_3 d_Ref_reckons_136 (by decide) (by decide) rfl rfl ?_
                    refine Go.aload_n hx hb 3 rfl d_Ref_reckons_214 ?_
                    refine Go.iconst (v := 3) hx hb (by decide) d_Ref_reckons_215 ?_
                    refine Go.iload_n hx hb 1 rfl d_Ref_reckons_216 ?_
                    refine Go.iload hx hb 0 rfl d_Ref_reckons_217 ?_
                    refine Go.imul hx hb d_Ref_reckons_219 ?_
                    obtain ⟨_, s61, q61, h⟩ := gb_some h
                    refine Go.callVv S hK hA 0 (Rw_0 ad ca _) rfl (fun sz9 => m_Ref_acc l D ad ca N _ sz9 _ _ _ s61 q61) (cwV 2 hts (gwV k_739 k_741 k_38 k_67 k_742) rfl rfl rfl (by decide +kernel) ⟨Nat.le_of_ble_eq_true rfl, Nat.le_of_ble_eq_true rfl⟩) rfl rfl (Nat.le_of_ble_eq_true rfl) ⟨Nat.zero_le _, Nat.zero_le _⟩ d_Ref_reckons_220 ?_
                    refine Go.goto (tgt := 268) hx hb d_Ref_reckons_223 rfl ?_
                    exact Go.vret hx hb hr hK hlk h d_Ref_reckons_268
                  replace h := (if_neg c136_3).symm.trans h
                  by_cases c136_4 : a0 = 23
                  · replace h := (if_pos c136_4).symm.trans h
                    refine Go.tin (tgt := 226) (off := 90) hx hb 23 c136_4 d_Ref_reckons_136 (by decide) (by decide) rfl rfl ?_
                    refine Go.aload_n hx hb 3 rfl d_Ref_reckons_226 ?_
                    refine Go.iconst (v := 3) hx hb (by decide) d_Ref_reckons_227 ?_
                    refine Go.iload hx hb 0 rfl d_Ref_reckons_228 ?_
                    refine Go.iconst (v := (-1)) hx hb (by decide) d_Ref_reckons_230 ?_
                    refine Go.icmp_ne (tgt := 239) hx hb d_Ref_reckons_231 rfl (fun c231 => ?_) (fun c231 => ?_)
                    · replace h := (if_neg c231).symm.trans h
                      refine Go.iload_n hx hb 1 rfl d_Ref_reckons_239 ?_
                      refine Go.iload hx hb 0 rfl d_Ref_reckons_240 ?_
                      obtain ⟨c242, h⟩ := gg_some h
                      refine Go.idiv hx hb c242 d_Ref_reckons_242 ?_
                      obtain ⟨_, s62, q62, h⟩ := gb_some h
                      refine Go.callVv S hK hA 0 (Rw_0 ad ca _) rfl (fun sz9 => m_Ref_acc l D ad ca N _ sz9 _ _ _ s62 q62) (cwV 2 hts (gwV k_739 k_741 k_38 k_67 k_742) rfl rfl rfl (by decide +kernel) ⟨Nat.le_of_ble_eq_true rfl, Nat.le_of_ble_eq_true rfl⟩) rfl rfl (Nat.le_of_ble_eq_true rfl) ⟨Nat.zero_le _, Nat.zero_le _⟩ d_Ref_reckons_243 ?_
                      refine Go.goto (tgt := 268) hx hb d_Ref_reckons_246 rfl ?_
                      exact Go.vret hx hb hr hK hlk h d_Ref_reckons_268
                    · replace h := (if_pos c231).symm.trans h
                      refine Go.iload_n hx hb 1 rfl d_Ref_reckons_234 ?_
                      refine Go.ineg hx hb d_Ref_reckons_235 ?_
                      refine Go.goto (tgt := 243) hx hb d_Ref_reckons_236 rfl ?_
                      obtain ⟨_, s63, q63, h⟩ := gb_some h
                      refine Go.callVv S hK hA 0 (Rw_0 ad ca _) rfl (fun sz9 => m_Ref_acc l D ad ca N _ sz9 _ _ _ s63 q63) (cwV 2 hts (gwV k_739 k_741 k_38 k_67 k_742) rfl rfl rfl (by decide +kernel) ⟨Nat.le_of_ble_eq_true rfl, Nat.le_of_ble_eq_true rfl⟩) rfl rfl (Nat.le_of_ble_eq_true rfl) ⟨Nat.zero_le _, Nat.zero_le _⟩ d_Ref_reckons_243 ?_
                      refine Go.goto (tgt := 268) hx hb d_Ref_reckons_246 rfl ?_
                      exact Go.vret hx hb hr hK hlk h d_Ref_reckons_268
                  replace h := (if_neg c136_4).symm.trans h
                  have n136_0 := lv_neT (a := 19) c136_0 (by decide)
                  have n136_1 := lv_neT (a := 20) c136_1 (by decide)
                  have n136_2 := lv_neT (a := 21) c136_2 (by decide)
                  have n136_3 := lv_neT (a := 22) c136_3 (by decide)
                  have n136_4 := lv_neT (a := 23) c136_4 (by decide)
                  refine Go.tout (tgt := 249) hx hb d_Ref_reckons_136 (by omega) rfl ?_
                  refine Go.aload_n hx hb 3 rfl d_Ref_reckons_249 ?_
                  refine Go.iconst (v := 3) hx hb (by decide) d_Ref_reckons_250 ?_
                  refine Go.iload hx hb 0 rfl d_Ref_reckons_251 ?_
                  refine Go.iconst (v := (-1)) hx hb (by decide) d_Ref_reckons_253 ?_
                  refine Go.icmp_ne (tgt := 261) hx hb d_Ref_reckons_254 rfl (fun c254 => ?_) (fun c254 => ?_)
                  · replace h := (if_neg c254).symm.trans h
                    refine Go.iload_n hx hb 1 rfl d_Ref_reckons_261 ?_
                    refine Go.iload hx hb 0 rfl d_Ref_reckons_262 ?_
                    obtain ⟨c264, h⟩ := gg_some h
                    refine Go.irem hx hb c264 d_Ref_reckons_264 ?_
                    obtain ⟨_, s64, q64, h⟩ := gb_some h
                    refine Go.callVv S hK hA 0 (Rw_0 ad ca _) rfl (fun sz9 => m_Ref_acc l D ad ca N _ sz9 _ _ _ s64 q64) (cwV 2 hts (gwV k_739 k_741 k_38 k_67 k_742) rfl rfl rfl (by decide +kernel) ⟨Nat.le_of_ble_eq_true rfl, Nat.le_of_ble_eq_true rfl⟩) rfl rfl (Nat.le_of_ble_eq_true rfl) ⟨Nat.zero_le _, Nat.zero_le _⟩ d_Ref_reckons_265 ?_
                    exact Go.vret hx hb hr hK hlk h d_Ref_reckons_268
                  · replace h := (if_pos c254).symm.trans h
                    refine Go.iconst (v := 0) hx hb (by decide) d_Ref_reckons_257 ?_
                    refine Go.goto (tgt := 265) hx hb d_Ref_reckons_258 rfl ?_
                    obtain ⟨_, s65, q65, h⟩ := gb_some h
                    refine Go.callVv S hK hA 0 (Rw_0 ad ca _) rfl (fun sz9 => m_Ref_acc l D ad ca N _ sz9 _ _ _ s65 q65) (cwV 2 hts (gwV k_739 k_741 k_38 k_67 k_742) rfl rfl rfl (by decide +kernel) ⟨Nat.le_of_ble_eq_true rfl, Nat.le_of_ble_eq_true rfl⟩) rfl rfl (Nat.le_of_ble_eq_true rfl) ⟨Nat.zero_le _, Nat.zero_le _⟩ d_Ref_reckons_265 ?_
                    exact Go.vret hx hb hr hK hlk h d_Ref_reckons_268
                · replace h := (if_pos c121).symm.trans h
                  exact Go.vret hx hb hr hK hlk h d_Ref_reckons_124
      · replace h := (if_pos c75).symm.trans h
        refine Go.iconst (v := 1) hx hb (by decide) d_Ref_reckons_78 ?_
        refine Go.goto (tgt := 83) hx hb d_Ref_reckons_79 rfl ?_
        refine Go.aload_n hx hb 3 rfl d_Ref_reckons_83 ?_
        refine Go.iconst (v := 3) hx hb (by decide) d_Ref_reckons_84 ?_
        obtain ⟨r66, s66, q66, h⟩ := gb_some h
        refine Go.callVi S hK hA 0 (Rw_0 ad ca _) rfl (fun sz9 => m_Ref_isAcc l D ad ca N _ sz9 _ r66 s66 q66) (cwV 1 hts (gwV k_755 k_757 k_42 k_67 k_758) rfl rfl rfl (by decide +kernel) ⟨Nat.le_of_ble_eq_true rfl, Nat.le_of_ble_eq_true rfl⟩) rfl rfl (Nat.le_of_ble_eq_true rfl) ⟨Nat.zero_le _, Nat.zero_le _⟩ d_Ref_reckons_85 ?_
        refine Go.if_ne (tgt := 95) hx hb d_Ref_reckons_88 rfl (fun c88 => ?_) (fun c88 => ?_)
        · replace h := (if_neg c88).symm.trans h
          refine Go.iconst (v := 0) hx hb (by decide) d_Ref_reckons_95 ?_
          refine Go.ior hx hb d_Ref_reckons_96 ?_
          refine Go.if_ne (tgt := 124) hx hb d_Ref_reckons_97 rfl (fun c97 => ?_) (fun c97 => ?_)
          · replace h := (if_neg c97).symm.trans h
            exact Go.vret hx hb hr hK hlk h d_Ref_reckons_124
          · replace h := (if_pos c97).symm.trans h
            refine Go.aload_n hx hb 3 rfl d_Ref_reckons_100 ?_
            refine Go.iload_n hx hb 4 rfl d_Ref_reckons_101 ?_
            refine Go.bipush (v := 23) hx hb (by decide) d_Ref_reckons_102 ?_
            refine Go.icmp_lt (tgt := 112) hx hb d_Ref_reckons_104 rfl (fun c104 => ?_) (fun c104 => ?_)
            · replace h := (if_pos c104).symm.trans h
              refine Go.iconst (v := 1) hx hb (by decide) d_Ref_reckons_112 ?_
              refine Go.goto (tgt := 117) hx hb d_Ref_reckons_113 rfl ?_
              refine Go.iconst (v := 5) hx hb (by decide) d_Ref_reckons_117 ?_
              obtain ⟨r67, s67, q67, h⟩ := gb_some h
              refine Go.callVi S hK hA 0 (Rw_0 ad ca _) rfl (fun sz9 => m_Ref_needs l D ad ca N _ sz9 _ _ r67 s67 q67) (cwV 2 hts (gwV k_747 k_749 k_40 k_67 k_750) rfl rfl rfl (by decide +kernel) ⟨Nat.le_of_ble_eq_true rfl, Nat.le_of_ble_eq_true rfl⟩) rfl rfl (Nat.le_of_ble_eq_true rfl) ⟨Nat.zero_le _, Nat.zero_le _⟩ d_Ref_reckons_118 ?_
              refine Go.if_ne (tgt := 125) hx hb d_Ref_reckons_121 rfl (fun c121 => ?_) (fun c121 => ?_)
              · replace h := (if_neg c121).symm.trans h
                refine Go.aload_n hx hb 3 rfl d_Ref_reckons_125 ?_
                refine Go.dup hx hb rfl d_Ref_reckons_126 ?_
                refine Go.get (v := .int (gI s67 4)) hx hb hts in_Ref hown hK 0 (Rw_0 ad ca _) rfl 8 (by decide) (hts _ k_623) (fun _ h9 => h9) rfl d_Ref_reckons_127 ?_
                refine Go.iconst (v := 1) hx hb (by decide) d_Ref_reckons_130 ?_
                refine Go.isub hx hb d_Ref_reckons_131 ?_
                refine Go.put (ty := (.int)) hx hb hts in_Ref ty_Ref tyok_Ref nm_Ref hown hK 0 (Rw_0 ad ca _) rfl 8 (by decide) (hts _ k_623) (fun _ h9 => h9) rfl (by decide +kernel) rfl rfl (Nat.le_of_ble_eq_true rfl) (uI s67 4 ((gI s67 4) - 1)) (Rs_I4 ad ca _ _) d_Ref_reckons_132 ?_
                refine Go.iload_n hx hb 4 rfl d_Ref_reckons_135 ?_
                by_cases c136_0 : a0 = 19
                · replace h := (if_pos c136_0).symm.trans h
                  refine Go.tin (tgt := 172) (off := 36) hx hb 19 c136_0 d_Ref_reckons_136 (by decide) (by decide) rfl rfl ?_
                  refine Go.aload_n hx hb 3 rfl d_Ref_reckons_172 ?_
                  refine Go.iload_n hx hb 1 rfl d_Ref_reckons_173 ?_
                  refine Go.iload hx hb 0 rfl d_Ref_reckons_174 ?_
                  refine Go.icmp_ge (tgt := 183) hx hb d_Ref_reckons_176 rfl (fun c176 => ?_) (fun c176 => ?_)
                  · replace h := (if_pos c176).symm.trans h
                    refine Go.iconst (v := 0) hx hb (by decide) d_Ref_reckons_183 ?_
                    obtain ⟨_, s68, q68, h⟩ := gb_some h
                    refine Go.callVv S hK hA 0 (Rw_0 ad ca _) rfl (fun sz9 => m_Ref_truth l D ad ca N _ sz9 _ _ s68 q68) (cwV 1 hts (gwV k_786 k_788 k_49 k_67 k_789) rfl rfl rfl (by decide +kernel) ⟨Nat.le_of_ble_eq_true rfl, Nat.le_of_ble_eq_true rfl⟩) rfl rfl (Nat.le_of_ble_eq_true rfl) ⟨Nat.zero_le _, Nat.zero_le _⟩ d_Ref_reckons_184 ?_
                    refine Go.goto (tgt := 268) hx hb d_Ref_reckons_187 rfl ?_
                    exact Go.vret hx hb hr hK hlk h d_Ref_reckons_268
                  · replace h := (if_neg c176).symm.trans h
                    refine Go.iconst (v := 1) hx hb (by decide) d_Ref_reckons_179 ?_
                    refine Go.goto (tgt := 184) hx hb d_Ref_reckons_180 rfl ?_
                    obtain ⟨_, s69, q69, h⟩ := gb_some h
                    refine Go.callVv S hK hA 0 (Rw_0 ad ca _) rfl (fun sz9 => m_Ref_truth l D ad ca N _ sz9 _ _ s69 q69) (cwV 1 hts (gwV k_786 k_788 k_49 k_67 k_789) rfl rfl rfl (by decide +kernel) ⟨Nat.le_of_ble_eq_true rfl, Nat.le_of_ble_eq_true rfl⟩) rfl rfl (Nat.le_of_ble_eq_true rfl) ⟨Nat.zero_le _, Nat.zero_le _⟩ d_Ref_reckons_184 ?_
                    refine Go.goto (tgt := 268) hx hb d_Ref_reckons_187 rfl ?_
                    exact Go.vret hx hb hr hK hlk h d_Ref_reckons_268
                replace h := (if_neg c136_0).symm.trans h
                by_cases c136_1 : a0 = 20
                · replace h := (if_pos c136_1).symm.trans h
                  refine Go.tin (tgt := 190) (off := 54) hx hb 20 c136_1 d_Ref_reckons_136 (by decide) (by decide) rfl rfl ?_
                  refine Go.aload_n hx hb 3 rfl d_Ref_reckons_190 ?_
                  refine Go.iconst (v := 3) hx hb (by decide) d_Ref_reckons_191 ?_
                  refine Go.iload_n hx hb 1 rfl d_Ref_reckons_192 ?_
                  refine Go.iload hx hb 0 rfl d_Ref_reckons_193 ?_
                  refine Go.iadd hx hb d_Ref_reckons_195 ?_
                  obtain ⟨_, s70, q70, h⟩ := gb_some h
                  refine Go.callVv S hK hA 0 (Rw_0 ad ca _) rfl (fun sz9 => m_Ref_acc l D ad ca N _ sz9 _ _ _ s70 q70) (cwV 2 hts (gwV k_739 k_741 k_38 k_67 k_742) rfl rfl rfl (by decide +kernel) ⟨Nat.le_of_ble_eq_true rfl, Nat.le_of_ble_eq_true rfl⟩) rfl rfl (Nat.le_of_ble_eq_true rfl) ⟨Nat.zero_le _, Nat.zero_le _⟩ d_Ref_reckons_196 ?_
                  refine Go.goto (tgt := 268) hx hb d_Ref_reckons_199 rfl ?_
                  exact Go.vret hx hb hr hK hlk h d_Ref_reckons_268
                replace h := (if_neg c136_1).symm.trans h
                by_cases c136_2 : a0 = 21
                · replace h := (if_pos c136_2).symm.trans h
                  refine Go.tin (tgt := 202) (off := 66) hx hb 21 c136_2 d_Ref_reckons_136 (by decide) (by decide) rfl rfl ?_
                  refine Go.aload_n hx hb 3 rfl d_Ref_reckons_202 ?_
                  refine Go.iconst (v := 3) hx hb (by decide) d_Ref_reckons_203 ?_
                  refine Go.iload_n hx hb 1 rfl d_Ref_reckons_204 ?_
                  refine Go.iload hx hb 0 rfl d_Ref_reckons_205 ?_
                  refine Go.isub hx hb d_Ref_reckons_207 ?_
                  obtain ⟨_, s71, q71, h⟩ := gb_some h
                  refine Go.callVv S hK hA 0 (Rw_0 ad ca _) rfl (fun sz9 => m_Ref_acc l D ad ca N _ sz9 _ _ _ s71 q71) (cwV 2 hts (gwV k_739 k_741 k_38 k_67 k_742) rfl rfl rfl (by decide +kernel) ⟨Nat.le_of_ble_eq_true rfl, Nat.le_of_ble_eq_true rfl⟩) rfl rfl (Nat.le_of_ble_eq_true rfl) ⟨Nat.zero_le _, Nat.zero_le _⟩ d_Ref_reckons_208 ?_
                  refine Go.goto (tgt := 268) hx hb d_Ref_reckons_211 rfl ?_
                  exact Go.vret hx hb hr hK hlk h d_Ref_reckons_268
                replace h := (if_neg c136_2).symm.trans h
                by_cases c136_3 : a0 = 22
                · replace h := (if_pos c136_3).symm.trans h
                  refine Go.tin (tgt := 214) (off := 78) hx hb 22 c136_3 d_Ref_reckons_136 (by decide) (by decide) rfl rfl ?_
                  refine Go.aload_n hx hb 3 rfl d_Ref_reckons_214 ?_
                  refine Go.iconst (v := 3) hx hb (by decide) d_Ref_reckons_215 ?_
                  refine Go.iload_n hx hb 1 rfl d_Ref_reckons_216 ?_
                  refine Go.iload hx hb 0 rfl d_Ref_reckons_217 ?_
                  refine Go.imul hx hb d_Ref_reckons_219 ?_
                  obtain ⟨_, s72, q72, h⟩ := gb_some h
                  refine Go.callVv S hK hA 0 (Rw_0 ad ca _) rfl (fun sz9 => m_Ref_acc l D ad ca N _ sz9 _ _ _ s72 q72) (cwV 2 hts (gwV k_739 k_741 k_38 k_67 k_742) rfl rfl rfl (by decide +kernel) ⟨Nat.le_of_ble_eq_true rfl, Nat.le_of_ble_eq_true rfl⟩) rfl rfl (Nat.le_of_ble_eq_true rfl) ⟨Nat.zero_le _, Nat.zero_le _⟩ d_Ref_reckons_220 ?_
                  refine Go.goto (tgt := 268) hx hb d_Ref_reckons_223 rfl ?_
                  exact Go.vret hx hb hr hK hlk h d_Ref_reckons_268
                replace h := (if_neg c136_3).symm.trans h
                by_cases c136_4 : a0 = 23
                · replace h := (if_pos c136_4).symm.trans h
                  refine Go.tin (tgt := 226) (off := 90) hx hb 23 c136_4 d_Ref_reckons_136 (by decide) (by decide) rfl rfl ?_
                  refine Go.aload_n hx hb 3 rfl d_Ref_reckons_226 ?_
                  refine Go.iconst (v := 3) hx hb (by decide) d_Ref_reckons_227 ?_
                  refine Go.iload hx hb 0 rfl d_Ref_reckons_228 ?_
                  refine Go.iconst (v := (-1)) hx hb (by decide) d_Ref_reckons_230 ?_
                  refine Go.icmp_ne (tgt := 239) hx hb d_Ref_reckons_231 rfl (fun c231 => ?_) (fun c231 => ?_)
                  · replace h := (if_neg c231).symm.trans h
                    refine Go.iload_n hx hb 1 rfl d_Ref_reckons_239 ?_
                    refine Go.iload hx hb 0 rfl d_Ref_reckons_240 ?_
                    obtain ⟨c242, h⟩ := gg_some h
                    refine Go.idiv hx hb c242 d_Ref_reckons_242 ?_
                    obtain ⟨_, s73, q73, h⟩ := gb_some h
                    refine Go.callVv S hK hA 0 (Rw_0 ad ca _) rfl (fun sz9 => m_Ref_acc l D ad ca N _ sz9 _ _ _ s73 q73) (cwV 2 hts (gwV k_739 k_741 k_38 k_67 k_742) rfl rfl rfl (by decide +kernel) ⟨Nat.le_of_ble_eq_true rfl, Nat.le_of_ble_eq_true rfl⟩) rfl rfl (Nat.le_of_ble_eq_true rfl) ⟨Nat.zero_le _, Nat.zero_le _⟩ d_Ref_reckons_243 ?_
                    refine Go.goto (tgt := 268) hx hb d_Ref_reckons_246 rfl ?_
                    exact Go.vret hx hb hr hK hlk h d_Ref_reckons_268
                  · replace h := (if_pos c231).symm.trans h
                    refine Go.iload_n hx hb 1 rfl d_Ref_reckons_234 ?_
                    refine Go.ineg hx hb d_Ref_reckons_235 ?_
                    refine Go.goto (tgt := 243) hx hb d_Ref_reckons_236 rfl ?_
                    obtain ⟨_, s74, q74, h⟩ := gb_some h
                    refine Go.callVv S hK hA 0 (Rw_0 ad ca _) rfl (fun sz9 => m_Ref_acc l D ad ca N _ sz9 _ _ _ s74 q74) (cwV 2 hts (gwV k_739 k_741 k_38 k_67 k_742) rfl rfl rfl (by decide +kernel) ⟨Nat.le_of_ble_eq_true rfl, Nat.le_of_ble_eq_true rfl⟩) rfl rfl (Nat.le_of_ble_eq_true rfl) ⟨Nat.zero_le _, Nat.zero_le _⟩ d_Ref_reckons_243 ?_
                    refine Go.goto (tgt := 268) hx hb d_Ref_reckons_246 rfl ?_
                    exact Go.vret hx hb hr hK hlk h d_Ref_reckons_268
                replace h := (if_neg c136_4).symm.trans h
                have n136_0 := lv_neT (a := 19) c136_0 (by decide)
                have n136_1 := lv_neT (a := 20) c136_1 (by decide)
                have n136_2 := lv_neT (a := 21) c136_2 (by decide)
                have n136_3 := lv_neT (a := 22) c136_3 (by decide)
                have n136_4 := lv_neT (a := 23) c136_4 (by decide)
                refine Go.tout (tgt := 249) hx hb d_Ref_reckons_136 (by omega) rfl ?_
                refine Go.aload_n hx hb 3 rfl d_Ref_reckons_249 ?_
                refine Go.iconst (v := 3) hx hb (by decide) d_Ref_reckons_250 ?_
                refine Go.iload hx hb 0 rfl d_Ref_reckons_251 ?_
                refine Go.iconst (v := (-1)) hx hb (by decide) d_Ref_reckons_253 ?_
                refine Go.icmp_ne (tgt := 261) hx hb d_Ref_reckons_254 rfl (fun c254 => ?_) (fun c254 => ?_)
                · replace h := (if_neg c254).symm.trans h
                  refine Go.iload_n hx hb 1 rfl d_Ref_reckons_261 ?_
                  refine Go.iload hx hb 0 rfl d_Ref_reckons_262 ?_
                  obtain ⟨c264, h⟩ := gg_some h
                  refine Go.irem hx hb c264 d_Ref_reckons_264 ?_
                  obtain ⟨_, s75, q75, h⟩ := gb_some h
                  refine Go.callVv S hK hA 0 (Rw_0 ad ca _) rfl (fun sz9 => m_Ref_acc l D ad ca N _ sz9 _ _ _ s75 q75) (cwV 2 hts (gwV k_739 k_741 k_38 k_67 k_742) rfl rfl rfl (by decide +kernel) ⟨Nat.le_of_ble_eq_true rfl, Nat.le_of_ble_eq_true rfl⟩) rfl rfl (Nat.le_of_ble_eq_true rfl) ⟨Nat.zero_le _, Nat.zero_le _⟩ d_Ref_reckons_265 ?_
                  exact Go.vret hx hb hr hK hlk h d_Ref_reckons_268
                · replace h := (if_pos c254).symm.trans h
                  refine Go.iconst (v := 0) hx hb (by decide) d_Ref_reckons_257 ?_
                  refine Go.goto (tgt := 265) hx hb d_Ref_reckons_258 rfl ?_
                  obtain ⟨_, s76, q76, h⟩ := gb_some h
                  refine Go.callVv S hK hA 0 (Rw_0 ad ca _) rfl (fun sz9 => m_Ref_acc l D ad ca N _ sz9 _ _ _ s76 q76) (cwV 2 hts (gwV k_739 k_741 k_38 k_67 k_742) rfl rfl rfl (by decide +kernel) ⟨Nat.le_of_ble_eq_true rfl, Nat.le_of_ble_eq_true rfl⟩) rfl rfl (Nat.le_of_ble_eq_true rfl) ⟨Nat.zero_le _, Nat.zero_le _⟩ d_Ref_reckons_265 ?_
                  exact Go.vret hx hb hr hK hlk h d_Ref_reckons_268
              · replace h := (if_pos c121).symm.trans h
                exact Go.vret hx hb hr hK hlk h d_Ref_reckons_124
            · replace h := (if_neg c104).symm.trans h
              refine Go.iload hx hb 0 rfl d_Ref_reckons_107 ?_
              refine Go.if_eq (tgt := 116) hx hb d_Ref_reckons_109 rfl (fun c109 => ?_) (fun c109 => ?_)
              · replace h := (if_pos c109).symm.trans h
                refine Go.iconst (v := 0) hx hb (by decide) d_Ref_reckons_116 ?_
                refine Go.iconst (v := 5) hx hb (by decide) d_Ref_reckons_117 ?_
                obtain ⟨r77, s77, q77, h⟩ := gb_some h
                refine Go.callVi S hK hA 0 (Rw_0 ad ca _) rfl (fun sz9 => m_Ref_needs l D ad ca N _ sz9 _ _ r77 s77 q77) (cwV 2 hts (gwV k_747 k_749 k_40 k_67 k_750) rfl rfl rfl (by decide +kernel) ⟨Nat.le_of_ble_eq_true rfl, Nat.le_of_ble_eq_true rfl⟩) rfl rfl (Nat.le_of_ble_eq_true rfl) ⟨Nat.zero_le _, Nat.zero_le _⟩ d_Ref_reckons_118 ?_
                refine Go.if_ne (tgt := 125) hx hb d_Ref_reckons_121 rfl (fun c121 => ?_) (fun c121 => ?_)
                · replace h := (if_neg c121).symm.trans h
                  refine Go.aload_n hx hb 3 rfl d_Ref_reckons_125 ?_
                  refine Go.dup hx hb rfl d_Ref_reckons_126 ?_
                  refine Go.get (v := .int (gI s77 4)) hx hb hts in_Ref hown hK 0 (Rw_0 ad ca _) rfl 8 (by decide) (hts _ k_623) (fun _ h9 => h9) rfl d_Ref_reckons_127 ?_
                  refine Go.iconst (v := 1) hx hb (by decide) d_Ref_reckons_130 ?_
                  refine Go.isub hx hb d_Ref_reckons_131 ?_
                  refine Go.put (ty := (.int)) hx hb hts in_Ref ty_Ref tyok_Ref nm_Ref hown hK 0 (Rw_0 ad ca _) rfl 8 (by decide) (hts _ k_623) (fun _ h9 => h9) rfl (by decide +kernel) rfl rfl (Nat.le_of_ble_eq_true rfl) (uI s77 4 ((gI s77 4) - 1)) (Rs_I4 ad ca _ _) d_Ref_reckons_132 ?_
                  refine Go.iload_n hx hb 4 rfl d_Ref_reckons_135 ?_
                  by_cases c136_0 : a0 = 19
                  · replace h := (if_pos c136_0).symm.trans h
                    refine Go.tin (tgt := 172) (off := 36) hx hb 19 c136_0 d_Ref_reckons_136 (by decide) (by decide) rfl rfl ?_
                    refine Go.aload_n hx hb 3 rfl d_Ref_reckons_172 ?_
                    refine Go.iload_n hx hb 1 rfl d_Ref_reckons_173 ?_
                    refine Go.iload hx hb 0 rfl d_Ref_reckons_174 ?_
                    refine Go.icmp_ge (tgt := 183) hx hb d_Ref_reckons_176 rfl (fun c176 => ?_) (fun c176 => ?_)
                    · replace h := (if_pos c176).symm.trans h
                      refine Go.iconst (v := 0) hx hb (by decide) d_Ref_reckons_183 ?_
                      obtain ⟨_, s78, q78, h⟩ := gb_some h
                      refine Go.callVv S hK hA 0 (Rw_0 ad ca _) rfl (fun sz9 => m_Ref_truth l D ad ca N _ sz9 _ _ s78 q78) (cwV 1 hts (gwV k_786 k_788 k_49 k_67 k_789) rfl rfl rfl (by decide +kernel) ⟨Nat.le_of_ble_eq_true rfl, Nat.le_of_ble_eq_true rfl⟩) rfl rfl (Nat.le_of_ble_eq_true rfl) ⟨Nat.zero_le _, Nat.zero_le _⟩ d_Ref_reckons_184 ?_
                      refine Go.goto (tgt := 268) hx hb d_Ref_reckons_187 rfl ?_
                      exact Go.vret hx hb hr hK hlk h d_Ref_reckons_268
                    · replace h := (if_neg c176).symm.trans h
                      refine Go.iconst (v := 1) hx hb (by decide) d_Ref_reckons_179 ?_
                      refine Go.goto (tgt := 184) hx hb d_Ref_reckons_180 rfl ?_
                      obtain ⟨_, s79, q79, h⟩ := gb_some h
                      refine Go.callVv S hK hA 0 (Rw_0 ad ca _) rfl (fun sz9 => m_Ref_truth l D ad ca N _ sz9 _ _ s79 q79) (cwV 1 hts (gwV k_786 k_788 k_49 k_67 k_789) rfl rfl rfl (by decide +kernel) ⟨Nat.le_of_ble_eq_true rfl, Nat.le_of_ble_eq_true rfl⟩) rfl rfl (Nat.le_of_ble_eq_true rfl) ⟨Nat.zero_le _, Nat.zero_le _⟩ d_Ref_reckons_184 ?_
                      refine Go.goto (tgt := 268) hx hb d_Ref_reckons_187 rfl ?_
                      exact Go.vret hx hb hr hK hlk h d_Ref_reckons_268
                  replace h := (if_neg c136_0).symm.trans h
                  by_cases c136_1 : a0 = 20
                  · replace h := (if_pos c136_1).symm.trans h
                    refine Go.tin (tgt := 190) (off := 54) hx hb 20 c136_1 d_Ref_reckons_136 (by decide) (by decide) rfl rfl ?_
                    refine Go.aload_n hx hb 3 rfl d_Ref_reckons_190 ?_
                    refine Go.iconst (v := 3) hx hb (by decide) d_Ref_reckons_191 ?_
                    refine Go.iload_n hx hb 1 rfl d_Ref_reckons_192 ?_
                    refine Go.iload hx hb 0 rfl d_Ref_reckons_193 ?_
                    refine Go.iadd hx hb d_Ref_reckons_195 ?_
                    obtain ⟨_, s80, q80, h⟩ := gb_some h
                    refine Go.callVv S hK hA 0 (Rw_0 ad ca _) rfl (fun sz9 => m_Ref_acc l D ad ca N _ sz9 _ _ _ s80 q80) (cwV 2 hts (gwV k_739 k_741 k_38 k_67 k_742) rfl rfl rfl (by decide +kernel) ⟨Nat.le_of_ble_eq_true rfl, Nat.le_of_ble_eq_true rfl⟩) rfl rfl (Nat.le_of_ble_eq_true rfl) ⟨Nat.zero_le _, Nat.zero_le _⟩ d_Ref_reckons_196 ?_
                    refine Go.goto (tgt := 268) hx hb d_Ref_reckons_199 rfl ?_
                    exact Go.vret hx hb hr hK hlk h d_Ref_reckons_268
                  replace h := (if_neg c136_1).symm.trans h
                  by_cases c136_2 : a0 = 21
                  · replace h := (if_pos c136_2).symm.trans h
                    refine Go.tin (tgt := 202) (off := 66) hx hb 21 c136_2 d_Ref_reckons_136 (by decide) (by decide) rfl rfl ?_
                    refine Go.aload_n hx hb 3 rfl d_Ref_reckons_202 ?_
                    refine Go.iconst (v := 3) hx hb (by decide) d_Ref_reckons_203 ?_
                    refine Go.iload_n hx hb 1 rfl d_Ref_reckons_204 ?_
                    refine Go.iload hx hb 0 rfl d_Ref_reckons_205 ?_
                    refine Go.isub hx hb d_Ref_reckons_207 ?_
                    obtain ⟨_, s81, q81, h⟩ := gb_some h
                    refine Go.callVv S hK hA 0 (Rw_0 ad ca _) rfl (fun sz9 => m_Ref_acc l D ad ca N _ sz9 _ _ _ s81 q81) (cwV 2 hts (gwV k_739 k_741 k_38 k_67 k_742) rfl rfl rfl (by decide +kernel) ⟨Nat.le_of_ble_eq_true rfl, Nat.le_of_ble_eq_true rfl⟩) rfl rfl (Nat.le_of_ble_eq_true rfl) ⟨Nat.zero_le _, Nat.zero_le _⟩ d_Ref_reckons_208 ?_
                    refine Go.goto (tgt := 268) hx hb d_Ref_reckons_211 rfl ?_
                    exact Go.vret hx hb hr hK hlk h d_Ref_reckons_268
                  replace h := (if_neg c136_2).symm.trans h
                  by_cases c136_3 : a0 = 22
                  · replace h := (if_pos c136_3).symm.trans h
                    refine Go.tin (tgt := 214) (off := 78) hx hb 22 c136_3 d_Ref_reckons_136 (by decide) (by decide) rfl rfl ?_
                    refine Go.aload_n hx hb 3 rfl d_Ref_reckons_214 ?_
                    refine Go.iconst (v := 3) hx hb (by decide) d_Ref_reckons_215 ?_
                    refine Go.iload_n hx hb 1 rfl d_Ref_reckons_216 ?_
                    refine Go.iload hx hb 0 rfl d_Ref_reckons_217 ?_
                    refine Go.imul hx hb d_Ref_reckons_219 ?_
                    obtain ⟨_, s82, q82, h⟩ := gb_some h
                    refine Go.callVv S hK hA 0 (Rw_0 ad ca _) rfl (fun sz9 => m_Ref_acc l D ad ca N _ sz9 _ _ _ s82 q82) (cwV 2 hts (gwV k_739 k_741 k_38 k_67 k_742) rfl rfl rfl (by decide +kernel) ⟨Nat.le_of_ble_eq_true rfl, Nat.le_of_ble_eq_true rfl⟩) rfl rfl (Nat.le_of_ble_eq_true rfl) ⟨Nat.zero_le _, Nat.zero_le _⟩ d_Ref_reckons_220 ?_
                    refine Go.goto (tgt := 268) hx hb d_Ref_reckons_223 rfl ?_
                    exact Go.vret hx hb hr hK hlk h d_Ref_reckons_268
                  replace h := (if_neg c136_3).symm.trans h
                  by_cases c136_4 : a0 = 23
                  · replace h := (if_pos c136_4).symm.trans h
                    refine Go.tin (tgt := 226) (off := 90) hx hb 23 c136_4 d_Ref_reckons_136 (by decide) (by decide) rfl rfl ?_
                    refine Go.aload_n hx hb 3 rfl d_Ref_reckons_226 ?_
                    refine Go.iconst (v := 3) hx hb (by decide) d_Ref_reckons_227 ?_
                    refine Go.iload hx hb 0 rfl d_Ref_reckons_228 ?_
                    refine Go.iconst (v := (-1)) hx hb (by decide) d_Ref_reckons_230 ?_
                    refine Go.icmp_ne (tgt := 239) hx hb d_Ref_reckons_231 rfl (fun c231 => ?_) (fun c231 => ?_)
                    · replace h := (if_neg c231).symm.trans h
                      refine Go.iload_n hx hb 1 rfl d_Ref_reckons_239 ?_
                      refine Go.iload hx hb 0 rfl d_Ref_reckons_240 ?_
                      obtain ⟨c242, h⟩ := gg_some h
                      refine Go.idiv hx hb c242 d_Ref_reckons_242 ?_
                      obtain ⟨_, s83, q83, h⟩ := gb_some h
                      refine Go.callVv S hK hA 0 (Rw_0 ad ca _) rfl (fun sz9 => m_Ref_acc l D ad ca N _ sz9 _ _ _ s83 q83) (cwV 2 hts (gwV k_739 k_741 k_38 k_67 k_742) rfl rfl rfl (by decide +kernel) ⟨Nat.le_of_ble_eq_true rfl, Nat.le_of_ble_eq_true rfl⟩) rfl rfl (Nat.le_of_ble_eq_true rfl) ⟨Nat.zero_le _, Nat.zero_le _⟩ d_Ref_reckons_243 ?_
                      refine Go.goto (tgt := 268) hx hb d_Ref_reckons_246 rfl ?_
                      exact Go.vret hx hb hr hK hlk h d_Ref_reckons_268
                    · replace h := (if_pos c231).symm.trans h
                      refine Go.iload_n hx hb 1 rfl d_Ref_reckons_234 ?_
                      refine Go.ineg hx hb d_Ref_reckons_235 ?_
                      refine Go.goto (tgt := 243) hx hb d_Ref_reckons_236 rfl ?_
                      obtain ⟨_, s84, q84, h⟩ := gb_some h
                      refine Go.callVv S hK hA 0 (Rw_0 ad ca _) rfl (fun sz9 => m_Ref_acc l D ad ca N _ sz9 _ _ _ s84 q84) (cwV 2 hts (gwV k_739 k_741 k_38 k_67 k_742) rfl rfl rfl (by decide +kernel) ⟨Nat.le_of_ble_eq_true rfl, Nat.le_of_ble_eq_true rfl⟩) rfl rfl (Nat.le_of_ble_eq_true rfl) ⟨Nat.zero_le _, Nat.zero_le _⟩ d_Ref_reckons_243 ?_
                      refine Go.goto (tgt := 268) hx hb d_Ref_reckons_246 rfl ?_
                      exact Go.vret hx hb hr hK hlk h d_Ref_reckons_268
                  replace h := (if_neg c136_4).symm.trans h
                  have n136_0 := lv_neT (a := 19) c136_0 (by decide)
                  have n136_1 := lv_neT (a := 20) c136_1 (by decide)
                  have n136_2 := lv_neT (a := 21) c136_2 (by decide)
                  have n136_3 := lv_neT (a := 22) c136_3 (by decide)
                  have n136_4 := lv_neT (a := 23) c136_4 (by decide)
                  refine Go.tout (tgt := 249) hx hb d_Ref_reckons_136 (by omega) rfl ?_
                  refine Go.aload_n hx hb 3 rfl d_Ref_reckons_249 ?_
                  refine Go.iconst (v := 3) hx hb (by decide) d_Ref_reckons_250 ?_
                  refine Go.iload hx hb 0 rfl d_Ref_reckons_251 ?_
                  refine Go.iconst (v := (-1)) hx hb (by decide) d_Ref_reckons_253 ?_
                  refine Go.icmp_ne (tgt := 261) hx hb d_Ref_reckons_254 rfl (fun c254 => ?_) (fun c254 => ?_)
                  · replace h := (if_neg c254).symm.trans h
                    refine Go.iload_n hx hb 1 rfl d_Ref_reckons_261 ?_
                    refine Go.iload hx hb 0 rfl d_Ref_reckons_262 ?_
                    obtain ⟨c264, h⟩ := gg_some h
                    refine Go.irem hx hb c264 d_Ref_reckons_264 ?_
                    obtain ⟨_, s85, q85, h⟩ := gb_some h
                    refine Go.callVv S hK hA 0 (Rw_0 ad ca _) rfl (fun sz9 => m_Ref_acc l D ad ca N _ sz9 _ _ _ s85 q85) (cwV 2 hts (gwV k_739 k_741 k_38 k_67 k_742) rfl rfl rfl (by decide +kernel) ⟨Nat.le_of_ble_eq_true rfl, Nat.le_of_ble_eq_true rfl⟩) rfl rfl (Nat.le_of_ble_eq_true rfl) ⟨Nat.zero_le _, Nat.zero_le _⟩ d_Ref_reckons_265 ?_
                    exact Go.vret hx hb hr hK hlk h d_Ref_reckons_268
                  · replace h := (if_pos c254).symm.trans h
                    refine Go.iconst (v := 0) hx hb (by decide) d_Ref_reckons_257 ?_
                    refine Go.goto (tgt := 265) hx hb d_Ref_reckons_258 rfl ?_
                    obtain ⟨_, s86, q86, h⟩ := gb_some h
                    refine Go.callVv S hK hA 0 (Rw_0 ad ca _) rfl (fun sz9 => m_Ref_acc l D ad ca N _ sz9 _ _ _ s86 q86) (cwV 2 hts (gwV k_739 k_741 k_38 k_67 k_742) rfl rfl rfl (by decide +kernel) ⟨Nat.le_of_ble_eq_true rfl, Nat.le_of_ble_eq_true rfl⟩) rfl rfl (Nat.le_of_ble_eq_true rfl) ⟨Nat.zero_le _, Nat.zero_le _⟩ d_Ref_reckons_265 ?_
                    exact Go.vret hx hb hr hK hlk h d_Ref_reckons_268
                · replace h := (if_pos c121).symm.trans h
                  exact Go.vret hx hb hr hK hlk h d_Ref_reckons_124
              · replace h := (if_neg c109).symm.trans h
                refine Go.iconst (v := 1) hx hb (by decide) d_Ref_reckons_112 ?_
                refine Go.goto (tgt := 117) hx hb d_Ref_reckons_113 rfl ?_
                refine Go.iconst (v := 5) hx hb (by decide) d_Ref_reckons_117 ?_
                obtain ⟨r87, s87, q87, h⟩ := gb_some h
                refine Go.callVi S hK hA 0 (Rw_0 ad ca _) rfl (fun sz9 => m_Ref_needs l D ad ca N _ sz9 _ _ r87 s87 q87) (cwV 2 hts (gwV k_747 k_749 k_40 k_67 k_750) rfl rfl rfl (by decide +kernel) ⟨Nat.le_of_ble_eq_true rfl, Nat.le_of_ble_eq_true rfl⟩) rfl rfl (Nat.le_of_ble_eq_true rfl) ⟨Nat.zero_le _, Nat.zero_le _⟩ d_Ref_reckons_118 ?_
                refine Go.if_ne (tgt := 125) hx hb d_Ref_reckons_121 rfl (fun c121 => ?_) (fun c121 => ?_)
                · replace h := (if_neg c121).symm.trans h
                  refine Go.aload_n hx hb 3 rfl d_Ref_reckons_125 ?_
                  refine Go.dup hx hb rfl d_Ref_reckons_126 ?_
                  refine Go.get (v := .int (gI s87 4)) hx hb hts in_Ref hown hK 0 (Rw_0 ad ca _) rfl 8 (by decide) (hts _ k_623) (fun _ h9 => h9) rfl d_Ref_reckons_127 ?_
                  refine Go.iconst (v := 1) hx hb (by decide) d_Ref_reckons_130 ?_
                  refine Go.isub hx hb d_Ref_reckons_131 ?_
                  refine Go.put (ty := (.int)) hx hb hts in_Ref ty_Ref tyok_Ref nm_Ref hown hK 0 (Rw_0 ad ca _) rfl 8 (by decide) (hts _ k_623) (fun _ h9 => h9) rfl (by decide +kernel) rfl rfl (Nat.le_of_ble_eq_true rfl) (uI s87 4 ((gI s87 4) - 1)) (Rs_I4 ad ca _ _) d_Ref_reckons_132 ?_
                  refine Go.iload_n hx hb 4 rfl d_Ref_reckons_135 ?_
                  by_cases c136_0 : a0 = 19
                  · replace h := (if_pos c136_0).symm.trans h
                    refine Go.tin (tgt := 172) (off := 36) hx hb 19 c136_0 d_Ref_reckons_136 (by decide) (by decide) rfl rfl ?_
                    refine Go.aload_n hx hb 3 rfl d_Ref_reckons_172 ?_
                    refine Go.iload_n hx hb 1 rfl d_Ref_reckons_173 ?_
                    refine Go.iload hx hb 0 rfl d_Ref_reckons_174 ?_
                    refine Go.icmp_ge (tgt := 183) hx hb d_Ref_reckons_176 rfl (fun c176 => ?_) (fun c176 => ?_)
                    · replace h := (if_pos c176).symm.trans h
                      refine Go.iconst (v := 0) hx hb (by decide) d_Ref_reckons_183 ?_
                      obtain ⟨_, s88, q88, h⟩ := gb_some h
                      refine Go.callVv S hK hA 0 (Rw_0 ad ca _) rfl (fun sz9 => m_Ref_truth l D ad ca N _ sz9 _ _ s88 q88) (cwV 1 hts (gwV k_786 k_788 k_49 k_67 k_789) rfl rfl rfl (by decide +kernel) ⟨Nat.le_of_ble_eq_true rfl, Nat.le_of_ble_eq_true rfl⟩) rfl rfl (Nat.le_of_ble_eq_true rfl) ⟨Nat.zero_le _, Nat.zero_le _⟩ d_Ref_reckons_184 ?_
                      refine Go.goto (tgt := 268) hx hb d_Ref_reckons_187 rfl ?_
                      exact Go.vret hx hb hr hK hlk h d_Ref_reckons_268
                    · replace h := (if_neg c176).symm.trans h
                      refine Go.iconst (v := 1) hx hb (by decide) d_Ref_reckons_179 ?_
                      refine Go.goto (tgt := 184) hx hb d_Ref_reckons_180 rfl ?_
                      obtain ⟨_, s89, q89, h⟩ := gb_some h
                      refine Go.callVv S hK hA 0 (Rw_0 ad ca _) rfl (fun sz9 => m_Ref_truth l D ad ca N _ sz9 _ _ s89 q89) (cwV 1 hts (gwV k_786 k_788 k_49 k_67 k_789) rfl rfl rfl (by decide +kernel) ⟨Nat.le_of_ble_eq_true rfl, Nat.le_of_ble_eq_true rfl⟩) rfl rfl (Nat.le_of_ble_eq_true rfl) ⟨Nat.zero_le _, Nat.zero_le _⟩ d_Ref_reckons_184 ?_
                      refine Go.goto (tgt := 268) hx hb d_Ref_reckons_187 rfl ?_
                      exact Go.vret hx hb hr hK hlk h d_Ref_reckons_268
                  replace h := (if_neg c136_0).symm.trans h
                  by_cases c136_1 : a0 = 20
                  · replace h := (if_pos c136_1).symm.trans h
                    refine Go.tin (tgt := 190) (off := 54) hx hb 20 c136_1 d_Ref_reckons_136 (by decide) (by decide) rfl rfl ?_
                    refine Go.aload_n hx hb 3 rfl d_Ref_reckons_190 ?_
                    refine Go.iconst (v := 3) hx hb (by decide) d_Ref_reckons_191 ?_
                    refine Go.iload_n hx hb 1 rfl d_Ref_reckons_192 ?_
                    refine Go.iload hx hb 0 rfl d_Ref_reckons_193 ?_
                    refine Go.iadd hx hb d_Ref_reckons_195 ?_
                    obtain ⟨_, s90, q90, h⟩ := gb_some h
                    refine Go.callVv S hK hA 0 (Rw_0 ad ca _) rfl (fun sz9 => m_Ref_acc l D ad ca N _ sz9 _ _ _ s90 q90) (cwV 2 hts (gwV k_739 k_741 k_38 k_67 k_742) rfl rfl rfl (by decide +kernel) ⟨Nat.le_of_ble_eq_true rfl, Nat.le_of_ble_eq_true rfl⟩) rfl rfl (Nat.le_of_ble_eq_true rfl) ⟨Nat.zero_le _, Nat.zero_le _⟩ d_Ref_reckons_196 ?_
                    refine Go.goto (tgt := 268) hx hb d_Ref_reckons_199 rfl ?_
                    exact Go.vret hx hb hr hK hlk h d_Ref_reckons_268
                  replace h := (if_neg c136_1).symm.trans h
                  by_cases c136_2 : a0 = 21
                  · replace h := (if_pos c136_2).symm.trans h
                    refine Go.tin (tgt := 202) (off := 66) hx hb 21 c136_2 d_Ref_reckons_136 (by decide) (by decide) rfl rfl ?_
                    refine Go.aload_n hx hb 3 rfl d_Ref_reckons_202 ?_
                    refine Go.iconst (v := 3) hx hb (by decide) d_Ref_reckons_203 ?_
                    refine Go.iload_n hx hb 1 rfl d_Ref_reckons_204 ?_
                    refine Go.iload hx hb 0 rfl d_Ref_reckons_205 ?_
                    refine Go.isub hx hb d_Ref_reckons_207 ?_
                    obtain ⟨_, s91, q91, h⟩ := gb_some h
                    refine Go.callVv S hK hA 0 (Rw_0 ad ca _) rfl (fun sz9 => m_Ref_acc l D ad ca N _ sz9 _ _ _ s91 q91) (cwV 2 hts (gwV k_739 k_741 k_38 k_67 k_742) rfl rfl rfl (by decide +kernel) ⟨Nat.le_of_ble_eq_true rfl, Nat.le_of_ble_eq_true rfl⟩) rfl rfl (Nat.le_of_ble_eq_true rfl) ⟨Nat.zero_le _, Nat.zero_le _⟩ d_Ref_reckons_208 ?_
                    refine Go.goto (tgt := 268) hx hb d_Ref_reckons_211 rfl ?_
                    exact Go.vret hx hb hr hK hlk h d_Ref_reckons_268
                  replace h := (if_neg c136_2).symm.trans h
                  by_cases c136_3 : a0 = 22
                  · replace h := (if_pos c136_3).symm.trans h
                    refine Go.tin (tgt := 214) (off := 78) hx hb 22 c136_3 d_Ref_reckons_136 (by decide) (by decide) rfl rfl ?_
                    refine Go.aload_n hx hb 3 rfl d_Ref_reckons_214 ?_
                    refine Go.iconst (v := 3) hx hb (by decide) d_Ref_reckons_215 ?_
                    refine Go.iload_n hx hb 1 rfl d_Ref_reckons_216 ?_
                    refine Go.iload hx hb 0 rfl d_Ref_reckons_217 ?_
                    refine Go.imul hx hb d_Ref_reckons_219 ?_
                    obtain ⟨_, s92, q92, h⟩ := gb_some h
                    refine Go.callVv S hK hA 0 (Rw_0 ad ca _) rfl (fun sz9 => m_Ref_acc l D ad ca N _ sz9 _ _ _ s92 q92) (cwV 2 hts (gwV k_739 k_741 k_38 k_67 k_742) rfl rfl rfl (by decide +kernel) ⟨Nat.le_of_ble_eq_true rfl, Nat.le_of_ble_eq_true rfl⟩) rfl rfl (Nat.le_of_ble_eq_true rfl) ⟨Nat.zero_le _, Nat.zero_le _⟩ d_Ref_reckons_220 ?_
                    refine Go.goto (tgt := 268) hx hb d_Ref_reckons_223 rfl ?_
                    exact Go.vret hx hb hr hK hlk h d_Ref_reckons_268
                  replace h := (if_neg c136_3).symm.trans h
                  by_cases c136_4 : a0 = 23
                  · replace h := (if_pos c136_4).symm.trans h
                    refine Go.tin (tgt := 226) (off := 90) hx hb 23 c136_4 d_Ref_reckons_136 (by decide) (by decide) rfl rfl ?_
                    refine Go.aload_n hx hb 3 rfl d_Ref_reckons_226 ?_
                    refine Go.iconst (v := 3) hx hb (by decide) d_Ref_reckons_227 ?_
                    refine Go.iload hx hb 0 rfl d_Ref_reckons_228 ?_
                    refine Go.iconst (v := (-1)) hx hb (by decide) d_Ref_reckons_230 ?_
                    refine Go.icmp_ne (tgt := 239) hx hb d_Ref_reckons_231 rfl (fun c231 => ?_) (fun c231 => ?_)
                    · replace h := (if_neg c231).symm.trans h
                      refine Go.iload_n hx hb 1 rfl d_Ref_reckons_239 ?_
                      refine Go.iload hx hb 0 rfl d_Ref_reckons_240 ?_
                      obtain ⟨c242, h⟩ := gg_some h
                      refine Go.idiv hx hb c242 d_Ref_reckons_242 ?_
                      obtain ⟨_, s93, q93, h⟩ := gb_some h
                      refine Go.callVv S hK hA 0 (Rw_0 ad ca _) rfl (fun sz9 => m_Ref_acc l D ad ca N _ sz9 _ _ _ s93 q93) (cwV 2 hts (gwV k_739 k_741 k_38 k_67 k_742) rfl rfl rfl (by decide +kernel) ⟨Nat.le_of_ble_eq_true rfl, Nat.le_of_ble_eq_true rfl⟩) rfl rfl (Nat.le_of_ble_eq_true rfl) ⟨Nat.zero_le _, Nat.zero_le _⟩ d_Ref_reckons_243 ?_
                      refine Go.goto (tgt := 268) hx hb d_Ref_reckons_246 rfl ?_
                      exact Go.vret hx hb hr hK hlk h d_Ref_reckons_268
                    · replace h := (if_pos c231).symm.trans h
                      refine Go.iload_n hx hb 1 rfl d_Ref_reckons_234 ?_
                      refine Go.ineg hx hb d_Ref_reckons_235 ?_
                      refine Go.goto (tgt := 243) hx hb d_Ref_reckons_236 rfl ?_
                      obtain ⟨_, s94, q94, h⟩ := gb_some h
                      refine Go.callVv S hK hA 0 (Rw_0 ad ca _) rfl (fun sz9 => m_Ref_acc l D ad ca N _ sz9 _ _ _ s94 q94) (cwV 2 hts (gwV k_739 k_741 k_38 k_67 k_742) rfl rfl rfl (by decide +kernel) ⟨Nat.le_of_ble_eq_true rfl, Nat.le_of_ble_eq_true rfl⟩) rfl rfl (Nat.le_of_ble_eq_true rfl) ⟨Nat.zero_le _, Nat.zero_le _⟩ d_Ref_reckons_243 ?_
                      refine Go.goto (tgt := 268) hx hb d_Ref_reckons_246 rfl ?_
                      exact Go.vret hx hb hr hK hlk h d_Ref_reckons_268
                  replace h := (if_neg c136_4).symm.trans h
                  have n136_0 := lv_neT (a := 19) c136_0 (by decide)
                  have n136_1 := lv_neT (a := 20) c136_1 (by decide)
                  have n136_2 := lv_neT (a := 21) c136_2 (by decide)
                  have n136_3 := lv_neT (a := 22) c136_3 (by decide)
                  have n136_4 := lv_neT (a := 23) c136_4 (by decide)
                  refine Go.tout (tgt := 249) hx hb d_Ref_reckons_136 (by omega) rfl ?_
                  refine Go.aload_n hx hb 3 rfl d_Ref_reckons_249 ?_
                  refine Go.iconst (v := 3) hx hb (by decide) d_Ref_reckons_250 ?_
                  refine Go.iload hx hb 0 rfl d_Ref_reckons_251 ?_
                  refine Go.iconst (v := (-1)) hx hb (by decide) d_Ref_reckons_253 ?_
                  refine Go.icmp_ne (tgt := 261) hx hb d_Ref_reckons_254 rfl (fun c254 => ?_) (fun c254 => ?_)
                  · replace h := (if_neg c254).symm.trans h
                    refine Go.iload_n hx hb 1 rfl d_Ref_reckons_261 ?_
                    refine Go.iload hx hb 0 rfl d_Ref_reckons_262 ?_
                    obtain ⟨c264, h⟩ := gg_some h
                    refine Go.irem hx hb c264 d_Ref_reckons_264 ?_
                    obtain ⟨_, s95, q95, h⟩ := gb_some h
                    refine Go.callVv S hK hA 0 (Rw_0 ad ca _) rfl (fun sz9 => m_Ref_acc l D ad ca N _ sz9 _ _ _ s95 q95) (cwV 2 hts (gwV k_739 k_741 k_38 k_67 k_742) rfl rfl rfl (by decide +kernel) ⟨Nat.le_of_ble_eq_true rfl, Nat.le_of_ble_eq_true rfl⟩) rfl rfl (Nat.le_of_ble_eq_true rfl) ⟨Nat.zero_le _, Nat.zero_le _⟩ d_Ref_reckons_265 ?_
                    exact Go.vret hx hb hr hK hlk h d_Ref_reckons_268
                  · replace h := (if_pos c254).symm.trans h
                    refine Go.iconst (v := 0) hx hb (by decide) d_Ref_reckons_257 ?_
                    refine Go.goto (tgt := 265) hx hb d_Ref_reckons_258 rfl ?_
                    obtain ⟨_, s96, q96, h⟩ := gb_some h
                    refine Go.callVv S hK hA 0 (Rw_0 ad ca _) rfl (fun sz9 => m_Ref_acc l D ad ca N _ sz9 _ _ _ s96 q96) (cwV 2 hts (gwV k_739 k_741 k_38 k_67 k_742) rfl rfl rfl (by decide +kernel) ⟨Nat.le_of_ble_eq_true rfl, Nat.le_of_ble_eq_true rfl⟩) rfl rfl (Nat.le_of_ble_eq_true rfl) ⟨Nat.zero_le _, Nat.zero_le _⟩ d_Ref_reckons_265 ?_
                    exact Go.vret hx hb hr hK hlk h d_Ref_reckons_268
                · replace h := (if_pos c121).symm.trans h
                  exact Go.vret hx hb hr hK hlk h d_Ref_reckons_124
        · replace h := (if_pos c88).symm.trans h
          refine Go.iconst (v := 1) hx hb (by decide) d_Ref_reckons_91 ?_
          refine Go.goto (tgt := 96) hx hb d_Ref_reckons_92 rfl ?_
          refine Go.ior hx hb d_Ref_reckons_96 ?_
          refine Go.if_ne (tgt := 124) hx hb d_Ref_reckons_97 rfl (fun c97 => ?_) (fun c97 => ?_)
          · replace h := (if_neg c97).symm.trans h
            exact Go.vret hx hb hr hK hlk h d_Ref_reckons_124
          · replace h := (if_pos c97).symm.trans h
            refine Go.aload_n hx hb 3 rfl d_Ref_reckons_100 ?_
            refine Go.iload_n hx hb 4 rfl d_Ref_reckons_101 ?_
            refine Go.bipush (v := 23) hx hb (by decide) d_Ref_reckons_102 ?_
            refine Go.icmp_lt (tgt := 112) hx hb d_Ref_reckons_104 rfl (fun c104 => ?_) (fun c104 => ?_)
            · replace h := (if_pos c104).symm.trans h
              refine Go.iconst (v := 1) hx hb (by decide) d_Ref_reckons_112 ?_
              refine Go.goto (tgt := 117) hx hb d_Ref_reckons_113 rfl ?_
              refine Go.iconst (v := 5) hx hb (by decide) d_Ref_reckons_117 ?_
              obtain ⟨r97, s97, q97, h⟩ := gb_some h
              refine Go.callVi S hK hA 0 (Rw_0 ad ca _) rfl (fun sz9 => m_Ref_needs l D ad ca N _ sz9 _ _ r97 s97 q97) (cwV 2 hts (gwV k_747 k_749 k_40 k_67 k_750) rfl rfl rfl (by decide +kernel) ⟨Nat.le_of_ble_eq_true rfl, Nat.le_of_ble_eq_true rfl⟩) rfl rfl (Nat.le_of_ble_eq_true rfl) ⟨Nat.zero_le _, Nat.zero_le _⟩ d_Ref_reckons_118 ?_
              refine Go.if_ne (tgt := 125) hx hb d_Ref_reckons_121 rfl (fun c121 => ?_) (fun c121 => ?_)
              · replace h := (if_neg c121).symm.trans h
                refine Go.aload_n hx hb 3 rfl d_Ref_reckons_125 ?_
                refine Go.dup hx hb rfl d_Ref_reckons_126 ?_
                refine Go.get (v := .int (gI s97 4)) hx hb hts in_Ref hown hK 0 (Rw_0 ad ca _) rfl 8 (by decide) (hts _ k_623) (fun _ h9 => h9) rfl d_Ref_reckons_127 ?_
                refine Go.iconst (v := 1) hx hb (by decide) d_Ref_reckons_130 ?_
                refine Go.isub hx hb d_Ref_reckons_131 ?_
                refine Go.put (ty := (.int)) hx hb hts in_Ref ty_Ref tyok_Ref nm_Ref hown hK 0 (Rw_0 ad ca _) rfl 8 (by decide) (hts _ k_623) (fun _ h9 => h9) rfl (by decide +kernel) rfl rfl (Nat.le_of_ble_eq_true rfl) (uI s97 4 ((gI s97 4) - 1)) (Rs_I4 ad ca _ _) d_Ref_reckons_132 ?_
                refine Go.iload_n hx hb 4 rfl d_Ref_reckons_135 ?_
                by_cases c136_0 : a0 = 19
                · replace h := (if_pos c136_0).symm.trans h
                  refine Go.tin (tgt := 172) (off := 36) hx hb 19 c136_0 d_Ref_reckons_136 (by decide) (by decide) rfl rfl ?_
                  refine Go.aload_n hx hb 3 rfl d_Ref_reckons_172 ?_
                  refine Go.iload_n hx hb 1 rfl d_Ref_reckons_173 ?_
                  refine Go.iload hx hb 0 rfl d_Ref_reckons_174 ?_
                  refine Go.icmp_ge (tgt := 183) hx hb d_Ref_reckons_176 rfl (fun c176 => ?_) (fun c176 => ?_)
                  · replace h := (if_pos c176).symm.trans h
                    refine Go.iconst (v := 0) hx hb (by decide) d_Ref_reckons_183 ?_
                    obtain ⟨_, s98, q98, h⟩ := gb_some h
                    refine Go.callVv S hK hA 0 (Rw_0 ad ca _) rfl (fun sz9 => m_Ref_truth l D ad ca N _ sz9 _ _ s98 q98) (cwV 1 hts (gwV k_786 k_788 k_49 k_67 k_789) rfl rfl rfl (by decide +kernel) ⟨Nat.le_of_ble_eq_true rfl, Nat.le_of_ble_eq_true rfl⟩) rfl rfl (Nat.le_of_ble_eq_true rfl) ⟨Nat.zero_le _, Nat.zero_le _⟩ d_Ref_reckons_184 ?_
                    refine Go.goto (tgt := 268) hx hb d_Ref_reckons_187 rfl ?_
                    exact Go.vret hx hb hr hK hlk h d_Ref_reckons_268
                  · replace h := (if_neg c176).symm.trans h
                    refine Go.iconst (v := 1) hx hb (by decide) d_Ref_reckons_179 ?_
                    refine Go.goto (tgt := 184) hx hb d_Ref_reckons_180 rfl ?_
                    obtain ⟨_, s99, q99, h⟩ := gb_some h
                    refine Go.callVv S hK hA 0 (Rw_0 ad ca _) rfl (fun sz9 => m_Ref_truth l D ad ca N _ sz9 _ _ s99 q99) (cwV 1 hts (gwV k_786 k_788 k_49 k_67 k_789) rfl rfl rfl (by decide +kernel) ⟨Nat.le_of_ble_eq_true rfl, Nat.le_of_ble_eq_true rfl⟩) rfl rfl (Nat.le_of_ble_eq_true rfl) ⟨Nat.zero_le _, Nat.zero_le _⟩ d_Ref_reckons_184 ?_
                    refine Go.goto (tgt := 268) hx hb d_Ref_reckons_187 rfl ?_
                    exact Go.vret hx hb hr hK hlk h d_Ref_reckons_268
                replace h := (if_neg c136_0).symm.trans h
                by_cases c136_1 : a0 = 20
                · replace h := (if_pos c136_1).symm.trans h
                  refine Go.tin (tgt := 190) (off := 54) hx hb 20 c136_1 d_Ref_reckons_136 (by decide) (by decide) rfl rfl ?_
                  refine Go.aload_n hx hb 3 rfl d_Ref_reckons_190 ?_
                  refine Go.iconst (v := 3) hx hb (by decide) d_Ref_reckons_191 ?_
                  refine Go.iload_n hx hb 1 rfl d_Ref_reckons_192 ?_
                  refine Go.iload hx hb 0 rfl d_Ref_reckons_193 ?_
                  refine Go.iadd hx hb d_Ref_reckons_195 ?_
                  obtain ⟨_, s100, q100, h⟩ := gb_some h
                  refine Go.callVv S hK hA 0 (Rw_0 ad ca _) rfl (fun sz9 => m_Ref_acc l D ad ca N _ sz9 _ _ _ s100 q100) (cwV 2 hts (gwV k_739 k_741 k_38 k_67 k_742) rfl rfl rfl (by decide +kernel) ⟨Nat.le_of_ble_eq_true rfl, Nat.le_of_ble_eq_true rfl⟩) rfl rfl (Nat.le_of_ble_eq_true rfl) ⟨Nat.zero_le _, Nat.zero_le _⟩ d_Ref_reckons_196 ?_
                  refine Go.goto (tgt := 268) hx hb d_Ref_reckons_199 rfl ?_
                  exact Go.vret hx hb hr hK hlk h d_Ref_reckons_268
                replace h := (if_neg c136_1).symm.trans h
                by_cases c136_2 : a0 = 21
                · replace h := (if_pos c136_2).symm.trans h
                  refine Go.tin (tgt := 202) (off := 66) hx hb 21 c136_2 d_Ref_reckons_136 (by decide) (by decide) rfl rfl ?_
                  refine Go.aload_n hx hb 3 rfl d_Ref_reckons_202 ?_
                  refine Go.iconst (v := 3) hx hb (by decide) d_Ref_reckons_203 ?_
                  refine Go.iload_n hx hb 1 rfl d_Ref_reckons_204 ?_
                  refine Go.iload hx hb 0 rfl d_Ref_reckons_205 ?_
                  refine Go.isub hx hb d_Ref_reckons_207 ?_
                  obtain ⟨_, s101, q101, h⟩ := gb_some h
                  refine Go.callVv S hK hA 0 (Rw_0 ad ca _) rfl (fun sz9 => m_Ref_acc l D ad ca N _ sz9 _ _ _ s101 q101) (cwV 2 hts (gwV k_739 k_741 k_38 k_67 k_742) rfl rfl rfl (by decide +kernel) ⟨Nat.le_of_ble_eq_true rfl, Nat.le_of_ble_eq_true rfl⟩) rfl rfl (Nat.le_of_ble_eq_true rfl) ⟨Nat.zero_le _, Nat.zero_le _⟩ d_Ref_reckons_208 ?_
                  refine Go.goto (tgt := 268) hx hb d_Ref_reckons_211 rfl ?_
                  exact Go.vret hx hb hr hK hlk h d_Ref_reckons_268
                replace h := (if_neg c136_2).symm.trans h
                by_cases c136_3 : a0 = 22
                · replace h := (if_pos c136_3).symm.trans h
                  refine Go.tin (tgt := 214) (off := 78) hx hb 22 c136_3 d_Ref_reckons_136 (by decide) (by decide) rfl rfl ?_
                  refine Go.aload_n hx hb 3 rfl d_Ref_reckons_214 ?_
                  refine Go.iconst (v := 3) hx hb (by decide) d_Ref_reckons_215 ?_
                  refine Go.iload_n hx hb 1 rfl d_Ref_reckons_216 ?_
                  refine Go.iload hx hb 0 rfl d_Ref_reckons_217 ?_
                  refine Go.imul hx hb d_Ref_reckons_219 ?_
                  obtain ⟨_, s102, q102, h⟩ := gb_some h
                  refine Go.callVv S hK hA 0 (Rw_0 ad ca _) rfl (fun sz9 => m_Ref_acc l D ad ca N _ sz9 _ _ _ s102 q102) (cwV 2 hts (gwV k_739 k_741 k_38 k_67 k_742) rfl rfl rfl (by decide +kernel) ⟨Nat.le_of_ble_eq_true rfl, Nat.le_of_ble_eq_true rfl⟩) rfl rfl (Nat.le_of_ble_eq_true rfl) ⟨Nat.zero_le _, Nat.zero_le _⟩ d_Ref_reckons_220 ?_
                  refine Go.goto (tgt := 268) hx hb d_Ref_reckons_223 rfl ?_
                  exact Go.vret hx hb hr hK hlk h d_Ref_reckons_268
                replace h := (if_neg c136_3).symm.trans h
                by_cases c136_4 : a0 = 23
                · replace h := (if_pos c136_4).symm.trans h
                  refine Go.tin (tgt := 226) (off := 90) hx hb 23 c136_4 d_Ref_reckons_136 (by decide) (by decide) rfl rfl ?_
                  refine Go.aload_n hx hb 3 rfl d_Ref_reckons_226 ?_
                  refine Go.iconst (v := 3) hx hb (by decide) d_Ref_reckons_227 ?_
                  refine Go.iload hx hb 0 rfl d_Ref_reckons_228 ?_
                  refine Go.iconst (v := (-1)) hx hb (by decide) d_Ref_reckons_230 ?_
                  refine Go.icmp_ne (tgt := 239) hx hb d_Ref_reckons_231 rfl (fun c231 => ?_) (fun c231 => ?_)
                  · replace h := (if_neg c231).symm.trans h
                    refine Go.iload_n hx hb 1 rfl d_Ref_reckons_239 ?_
                    refine Go.iload hx hb 0 rfl d_Ref_reckons_240 ?_
                    obtain ⟨c242, h⟩ := gg_some h
                    refine Go.idiv hx hb c242 d_Ref_reckons_242 ?_
                    obtain ⟨_, s103, q103, h⟩ := gb_some h
                    refine Go.callVv S hK hA 0 (Rw_0 ad ca _) rfl (fun sz9 => m_Ref_acc l D ad ca N _ sz9 _ _ _ s103 q103) (cwV 2 hts (gwV k_739 k_741 k_38 k_67 k_742) rfl rfl rfl (by decide +kernel) ⟨Nat.le_of_ble_eq_true rfl, Nat.le_of_ble_eq_true rfl⟩) rfl rfl (Nat.le_of_ble_eq_true rfl) ⟨Nat.zero_le _, Nat.zero_le _⟩ d_Ref_reckons_243 ?_
                    refine Go.goto (tgt := 268) hx hb d_Ref_reckons_246 rfl ?_
                    exact Go.vret hx hb hr hK hlk h d_Ref_reckons_268
                  · replace h := (if_pos c231).symm.trans h
                    refine Go.iload_n hx hb 1 rfl d_Ref_reckons_234 ?_
                    refine Go.ineg hx hb d_Ref_reckons_235 ?_
                    refine Go.goto (tgt := 243) hx hb d_Ref_reckons_236 rfl ?_
                    obtain ⟨_, s104, q104, h⟩ := gb_some h
                    refine Go.callVv S hK hA 0 (Rw_0 ad ca _) rfl (fun sz9 => m_Ref_acc l D ad ca N _ sz9 _ _ _ s104 q104) (cwV 2 hts (gwV k_739 k_741 k_38 k_67 k_742) rfl rfl rfl (by decide +kernel) ⟨Nat.le_of_ble_eq_true rfl, Nat.le_of_ble_eq_true rfl⟩) rfl rfl (Nat.le_of_ble_eq_true rfl) ⟨Nat.zero_le _, Nat.zero_le _⟩ d_Ref_reckons_243 ?_
                    refine Go.goto (tgt := 268) hx hb d_Ref_reckons_246 rfl ?_
                    exact Go.vret hx hb hr hK hlk h d_Ref_reckons_268
                replace h := (if_neg c136_4).symm.trans h
                have n136_0 := lv_neT (a := 19) c136_0 (by decide)
                have n136_1 := lv_neT (a := 20) c136_1 (by decide)
                have n136_2 := lv_neT (a := 21) c136_2 (by decide)
                have n136_3 := lv_neT (a := 22) c136_3 (by decide)
                have n136_4 := lv_neT (a := 23) c136_4 (by decide)
                refine Go.tout (tgt := 249) hx hb d_Ref_reckons_136 (by omega) rfl ?_
                refine Go.aload_n hx hb 3 rfl d_Ref_reckons_249 ?_
                refine Go.iconst (v := 3) hx hb (by decide) d_Ref_reckons_250 ?_
                refine Go.iload hx hb 0 rfl d_Ref_reckons_251 ?_
                refine Go.iconst (v := (-1)) hx hb (by decide) d_Ref_reckons_253 ?_
                refine Go.icmp_ne (tgt := 261) hx hb d_Ref_reckons_254 rfl (fun c254 => ?_) (fun c254 => ?_)
                · replace h := (if_neg c254).symm.trans h
                  refine Go.iload_n hx hb 1 rfl d_Ref_reckons_261 ?_
                  refine Go.iload hx hb 0 rfl d_Ref_reckons_262 ?_
                  obtain ⟨c264, h⟩ := gg_some h
                  refine Go.irem hx hb c264 d_Ref_reckons_264 ?_
                  obtain ⟨_, s105, q105, h⟩ := gb_some h
                  refine Go.callVv S hK hA 0 (Rw_0 ad ca _) rfl (fun sz9 => m_Ref_acc l D ad ca N _ sz9 _ _ _ s105 q105) (cwV 2 hts (gwV k_739 k_741 k_38 k_67 k_742) rfl rfl rfl (by decide +kernel) ⟨Nat.le_of_ble_eq_true rfl, Nat.le_of_ble_eq_true rfl⟩) rfl rfl (Nat.le_of_ble_eq_true rfl) ⟨Nat.zero_le _, Nat.zero_le _⟩ d_Ref_reckons_265 ?_
                  exact Go.vret hx hb hr hK hlk h d_Ref_reckons_268
                · replace h := (if_pos c254).symm.trans h
                  refine Go.iconst (v := 0) hx hb (by decide) d_Ref_reckons_257 ?_
                  refine Go.goto (tgt := 265) hx hb d_Ref_reckons_258 rfl ?_
                  obtain ⟨_, s106, q106, h⟩ := gb_some h
                  refine Go.callVv S hK hA 0 (Rw_0 ad ca _) rfl (fun sz9 => m_Ref_acc l D ad ca N _ sz9 _ _ _ s106 q106) (cwV 2 hts (gwV k_739 k_741 k_38 k_67 k_742) rfl rfl rfl (by decide +kernel) ⟨Nat.le_of_ble_eq_true rfl, Nat.le_of_ble_eq_true rfl⟩) rfl rfl (Nat.le_of_ble_eq_true rfl) ⟨Nat.zero_le _, Nat.zero_le _⟩ d_Ref_reckons_265 ?_
                  exact Go.vret hx hb hr hK hlk h d_Ref_reckons_268
              · replace h := (if_pos c121).symm.trans h
                exact Go.vret hx hb hr hK hlk h d_Ref_reckons_124
            · replace h := (if_neg c104).symm.trans h
              refine Go.iload hx hb 0 rfl d_Ref_reckons_107 ?_
              refine Go.if_eq (tgt := 116) hx hb d_Ref_reckons_109 rfl (fun c109 => ?_) (fun c109 => ?_)
              · replace h := (if_pos c109).symm.trans h
                refine Go.iconst (v := 0) hx hb (by decide) d_Ref_reckons_116 ?_
                refine Go.iconst (v := 5) hx hb (by decide) d_Ref_reckons_117 ?_
                obtain ⟨r107, s107, q107, h⟩ := gb_some h
                refine Go.callVi S hK hA 0 (Rw_0 ad ca _) rfl (fun sz9 => m_Ref_needs l D ad ca N _ sz9 _ _ r107 s107 q107) (cwV 2 hts (gwV k_747 k_749 k_40 k_67 k_750) rfl rfl rfl (by decide +kernel) ⟨Nat.le_of_ble_eq_true rfl, Nat.le_of_ble_eq_true rfl⟩) rfl rfl (Nat.le_of_ble_eq_true rfl) ⟨Nat.zero_le _, Nat.zero_le _⟩ d_Ref_reckons_118 ?_
                refine Go.if_ne (tgt := 125) hx hb d_Ref_reckons_121 rfl (fun c121 => ?_) (fun c121 => ?_)
                · replace h := (if_neg c121).symm.trans h
                  refine Go.aload_n hx hb 3 rfl d_Ref_reckons_125 ?_
                  refine Go.dup hx hb rfl d_Ref_reckons_126 ?_
                  refine Go.get (v := .int (gI s107 4)) hx hb hts in_Ref hown hK 0 (Rw_0 ad ca _) rfl 8 (by decide) (hts _ k_623) (fun _ h9 => h9) rfl d_Ref_reckons_127 ?_
                  refine Go.iconst (v := 1) hx hb (by decide) d_Ref_reckons_130 ?_
                  refine Go.isub hx hb d_Ref_reckons_131 ?_
                  refine Go.put (ty := (.int)) hx hb hts in_Ref ty_Ref tyok_Ref nm_Ref hown hK 0 (Rw_0 ad ca _) rfl 8 (by decide) (hts _ k_623) (fun _ h9 => h9) rfl (by decide +kernel) rfl rfl (Nat.le_of_ble_eq_true rfl) (uI s107 4 ((gI s107 4) - 1)) (Rs_I4 ad ca _ _) d_Ref_reckons_132 ?_
                  refine Go.iload_n hx hb 4 rfl d_Ref_reckons_135 ?_
                  by_cases c136_0 : a0 = 19
                  · replace h := (if_pos c136_0).symm.trans h
                    refine Go.tin (tgt := 172) (off := 36) hx hb 19 c136_0 d_Ref_reckons_136 (by decide) (by decide) rfl rfl ?_
                    refine Go.aload_n hx hb 3 rfl d_Ref_reckons_172 ?_
                    refine Go.iload_n hx hb 1 rfl d_Ref_reckons_173 ?_
                    refine Go.iload hx hb 0 rfl d_Ref_reckons_174 ?_
                    refine Go.icmp_ge (tgt := 183) hx hb d_Ref_reckons_176 rfl (fun c176 => ?_) (fun c176 => ?_)
                    · replace h := (if_pos c176).symm.trans h
                      refine Go.iconst (v := 0) hx hb (by decide) d_Ref_reckons_183 ?_
                      obtain ⟨_, s108, q108, h⟩ := gb_some h
                      refine Go.callVv S hK hA 0 (Rw_0 ad ca _) rfl (fun sz9 => m_Ref_truth l D ad ca N _ sz9 _ _ s108 q108) (cwV 1 hts (gwV k_786 k_788 k_49 k_67 k_789) rfl rfl rfl (by decide +kernel) ⟨Nat.le_of_ble_eq_true rfl, Nat.le_of_ble_eq_true rfl⟩) rfl rfl (Nat.le_of_ble_eq_true rfl) ⟨Nat.zero_le _, Nat.zero_le _⟩ d_Ref_reckons_184 ?_
                      refine Go.goto (tgt := 268) hx hb d_Ref_reckons_187 rfl ?_
                      exact Go.vret hx hb hr hK hlk h d_Ref_reckons_268
                    · replace h := (if_neg c176).symm.trans h
                      refine Go.iconst (v := 1) hx hb (by decide) d_Ref_reckons_179 ?_
                      refine Go.goto (tgt := 184) hx hb d_Ref_reckons_180 rfl ?_
                      obtain ⟨_, s109, q109, h⟩ := gb_some h
                      refine Go.callVv S hK hA 0 (Rw_0 ad ca _) rfl (fun sz9 => m_Ref_truth l D ad ca N _ sz9 _ _ s109 q109) (cwV 1 hts (gwV k_786 k_788 k_49 k_67 k_789) rfl rfl rfl (by decide +kernel) ⟨Nat.le_of_ble_eq_true rfl, Nat.le_of_ble_eq_true rfl⟩) rfl rfl (Nat.le_of_ble_eq_true rfl) ⟨Nat.zero_le _, Nat.zero_le _⟩ d_Ref_reckons_184 ?_
                      refine Go.goto (tgt := 268) hx hb d_Ref_reckons_187 rfl ?_
                      exact Go.vret hx hb hr hK hlk h d_Ref_reckons_268
                  replace h := (if_neg c136_0).symm.trans h
                  by_cases c136_1 : a0 = 20
                  · replace h := (if_pos c136_1).symm.trans h
                    refine Go.tin (tgt := 190) (off := 54) hx hb 20 c136_1 d_Ref_reckons_136 (by decide) (by decide) rfl rfl ?_
                    refine Go.aload_n hx hb 3 rfl d_Ref_reckons_190 ?_
                    refine Go.iconst (v := 3) hx hb (by decide) d_Ref_reckons_191 ?_
                    refine Go.iload_n hx hb 1 rfl d_Ref_reckons_192 ?_
                    refine Go.iload hx hb 0 rfl d_Ref_reckons_193 ?_
                    refine Go.iadd hx hb d_Ref_reckons_195 ?_
                    obtain ⟨_, s110, q110, h⟩ := gb_some h
                    refine Go.callVv S hK hA 0 (Rw_0 ad ca _) rfl (fun sz9 => m_Ref_acc l D ad ca N _ sz9 _ _ _ s110 q110) (cwV 2 hts (gwV k_739 k_741 k_38 k_67 k_742) rfl rfl rfl (by decide +kernel) ⟨Nat.le_of_ble_eq_true rfl, Nat.le_of_ble_eq_true rfl⟩) rfl rfl (Nat.le_of_ble_eq_true rfl) ⟨Nat.zero_le _, Nat.zero_le _⟩ d_Ref_reckons_196 ?_
                    refine Go.goto (tgt := 268) hx hb d_Ref_reckons_199 rfl ?_
                    exact Go.vret hx hb hr hK hlk h d_Ref_reckons_268
                  replace h := (if_neg c136_1).symm.trans h
                  by_cases c136_2 : a0 = 21
                  · replace h := (if_pos c136_2).symm.trans h
                    refine Go.tin (tgt := 202) (off := 66) hx hb 21 c136_2 d_Ref_reckons_136 (by decide) (by decide) rfl rfl ?_
                    refine Go.aload_n hx hb 3 rfl d_Ref_reckons_202 ?_
                    refine Go.iconst (v := 3) hx hb (by decide) d_Ref_reckons_203 ?_
                    refine Go.iload_n hx hb 1 rfl d_Ref_reckons_204 ?_
                    refine Go.iload hx hb 0 rfl d_Ref_reckons_205 ?_
                    refine Go.isub hx hb d_Ref_reckons_207 ?_
                    obtain ⟨_, s111, q111, h⟩ := gb_some h
                    refine Go.callVv S hK hA 0 (Rw_0 ad ca _) rfl (fun sz9 => m_Ref_acc l D ad ca N _ sz9 _ _ _ s111 q111) (cwV 2 hts (gwV k_739 k_741 k_38 k_67 k_742) rfl rfl rfl (by decide +kernel) ⟨Nat.le_of_ble_eq_true rfl, Nat.le_of_ble_eq_true rfl⟩) rfl rfl (Nat.le_of_ble_eq_true rfl) ⟨Nat.zero_le _, Nat.zero_le _⟩ d_Ref_reckons_208 ?_
                    refine Go.goto (tgt := 268) hx hb d_Ref_reckons_211 rfl ?_
                    exact Go.vret hx hb hr hK hlk h d_Ref_reckons_268
                  replace h := (if_neg c136_2).symm.trans h
                  by_cases c136_3 : a0 = 22
                  · replace h := (if_pos c136_3).symm.trans h
                    refine Go.tin (tgt := 214) (off := 78) hx hb 22 c136_3 d_Ref_reckons_136 (by decide) (by decide) rfl rfl ?_
                    refine Go.aload_n hx hb 3 rfl d_Ref_reckons_214 ?_
                    refine Go.iconst (v := 3) hx hb (by decide) d_Ref_reckons_215 ?_
                    refine Go.iload_n hx hb 1 rfl d_Ref_reckons_216 ?_
                    refine Go.iload hx hb 0 rfl d_Ref_reckons_217 ?_
                    refine Go.imul hx hb d_Ref_reckons_219 ?_
                    obtain ⟨_, s112, q112, h⟩ := gb_some h
                    refine Go.callVv S hK hA 0 (Rw_0 ad ca _) rfl (fun sz9 => m_Ref_acc l D ad ca N _ sz9 _ _ _ s112 q112) (cwV 2 hts (gwV k_739 k_741 k_38 k_67 k_742) rfl rfl rfl (by decide +kernel) ⟨Nat.le_of_ble_eq_true rfl, Nat.le_of_ble_eq_true rfl⟩) rfl rfl (Nat.le_of_ble_eq_true rfl) ⟨Nat.zero_le _, Nat.zero_le _⟩ d_Ref_reckons_220 ?_
                    refine Go.goto (tgt := 268) hx hb d_Ref_reckons_223 rfl ?_
                    exact Go.vret hx hb hr hK hlk h d_Ref_reckons_268
                  replace h := (if_neg c136_3).symm.trans h
                  by_cases c136_4 : a0 = 23
                  · replace h := (if_pos c136_4).symm.trans h
                    refine Go.tin (tgt := 226) (off := 90) hx hb 23 c136_4 d_Ref_reckons_136 (by decide) (by decide) rfl rfl ?_
                    refine Go.aload_n hx hb 3 rfl d_Ref_reckons_226 ?_
                    refine Go.iconst (v := 3) hx hb (by decide) d_Ref_reckons_227 ?_
                    refine Go.iload hx hb 0 rfl d_Ref_reckons_228 ?_
                    refine Go.iconst (v := (-1)) hx hb (by decide) d_Ref_reckons_230 ?_
                    refine Go.icmp_ne (tgt := 239) hx hb d_Ref_reckons_231 rfl (fun c231 => ?_) (fun c231 => ?_)
                    · replace h := (if_neg c231).symm.trans h
                      refine Go.iload_n hx hb 1 rfl d_Ref_reckons_239 ?_
                      refine Go.iload hx hb 0 rfl d_Ref_reckons_240 ?_
                      obtain ⟨c242, h⟩ := gg_some h
                      refine Go.idiv hx hb c242 d_Ref_reckons_242 ?_
                      obtain ⟨_, s113, q113, h⟩ := gb_some h
                      refine Go.callVv S hK hA 0 (Rw_0 ad ca _) rfl (fun sz9 => m_Ref_acc l D ad ca N _ sz9 _ _ _ s113 q113) (cwV 2 hts (gwV k_739 k_741 k_38 k_67 k_742) rfl rfl rfl (by decide +kernel) ⟨Nat.le_of_ble_eq_true rfl, Nat.le_of_ble_eq_true rfl⟩) rfl rfl (Nat.le_of_ble_eq_true rfl) ⟨Nat.zero_le _, Nat.zero_le _⟩ d_Ref_reckons_243 ?_
                      refine Go.goto (tgt := 268) hx hb d_Ref_reckons_246 rfl ?_
                      exact Go.vret hx hb hr hK hlk h d_Ref_reckons_268
                    · replace h := (if_pos c231).symm.trans h
                      refine Go.iload_n hx hb 1 rfl d_Ref_reckons_234 ?_
                      refine Go.ineg hx hb d_Ref_reckons_235 ?_
                      refine Go.goto (tgt := 243) hx hb d_Ref_reckons_236 rfl ?_
                      obtain ⟨_, s114, q114, h⟩ := gb_some h
                      refine Go.callVv S hK hA 0 (Rw_0 ad ca _) rfl (fun sz9 => m_Ref_acc l D ad ca N _ sz9 _ _ _ s114 q114) (cwV 2 hts (gwV k_739 k_741 k_38 k_67 k_742) rfl rfl rfl (by decide +kernel) ⟨Nat.le_of_ble_eq_true rfl, Nat.le_of_ble_eq_true rfl⟩) rfl rfl (Nat.le_of_ble_eq_true rfl) ⟨Nat.zero_le _, Nat.zero_le _⟩ d_Ref_reckons_243 ?_
                      refine Go.goto (tgt := 268) hx hb d_Ref_reckons_246 rfl ?_
                      exact Go.vret hx hb hr hK hlk h d_Ref_reckons_268
                  replace h := (if_neg c136_4).symm.trans h
                  have n136_0 := lv_neT (a := 19) c136_0 (by decide)
                  have n136_1 := lv_neT (a := 20) c136_1 (by decide)
                  have n136_2 := lv_neT (a := 21) c136_2 (by decide)
                  have n136_3 := lv_neT (a := 22) c136_3 (by decide)
                  have n136_4 := lv_neT (a := 23) c136_4 (by decide)
                  refine Go.tout (tgt := 249) hx hb d_Ref_reckons_136 (by omega) rfl ?_
                  refine Go.aload_n hx hb 3 rfl d_Ref_reckons_249 ?_
                  refine Go.iconst (v := 3) hx hb (by decide) d_Ref_reckons_250 ?_
                  refine Go.iload hx hb 0 rfl d_Ref_reckons_251 ?_
                  refine Go.iconst (v := (-1)) hx hb (by decide) d_Ref_reckons_253 ?_
                  refine Go.icmp_ne (tgt := 261) hx hb d_Ref_reckons_254 rfl (fun c254 => ?_) (fun c254 => ?_)
                  · replace h := (if_neg c254).symm.trans h
                    refine Go.iload_n hx hb 1 rfl d_Ref_reckons_261 ?_
                    refine Go.iload hx hb 0 rfl d_Ref_reckons_262 ?_
                    obtain ⟨c264, h⟩ := gg_some h
                    refine Go.irem hx hb c264 d_Ref_reckons_264 ?_
                    obtain ⟨_, s115, q115, h⟩ := gb_some h
                    refine Go.callVv S hK hA 0 (Rw_0 ad ca _) rfl (fun sz9 => m_Ref_acc l D ad ca N _ sz9 _ _ _ s115 q115) (cwV 2 hts (gwV k_739 k_741 k_38 k_67 k_742) rfl rfl rfl (by decide +kernel) ⟨Nat.le_of_ble_eq_true rfl, Nat.le_of_ble_eq_true rfl⟩) rfl rfl (Nat.le_of_ble_eq_true rfl) ⟨Nat.zero_le _, Nat.zero_le _⟩ d_Ref_reckons_265 ?_
                    exact Go.vret hx hb hr hK hlk h d_Ref_reckons_268
                  · replace h := (if_pos c254).symm.trans h
                    refine Go.iconst (v := 0) hx hb (by decide) d_Ref_reckons_257 ?_
                    refine Go.goto (tgt := 265) hx hb d_Ref_reckons_258 rfl ?_
                    obtain ⟨_, s116, q116, h⟩ := gb_some h
                    refine Go.callVv S hK hA 0 (Rw_0 ad ca _) rfl (fun sz9 => m_Ref_acc l D ad ca N _ sz9 _ _ _ s116 q116) (cwV 2 hts (gwV k_739 k_741 k_38 k_67 k_742) rfl rfl rfl (by decide +kernel) ⟨Nat.le_of_ble_eq_true rfl, Nat.le_of_ble_eq_true rfl⟩) rfl rfl (Nat.le_of_ble_eq_true rfl) ⟨Nat.zero_le _, Nat.zero_le _⟩ d_Ref_reckons_265 ?_
                    exact Go.vret hx hb hr hK hlk h d_Ref_reckons_268
                · replace h := (if_pos c121).symm.trans h
                  exact Go.vret hx hb hr hK hlk h d_Ref_reckons_124
              · replace h := (if_neg c109).symm.trans h
                refine Go.iconst (v := 1) hx hb (by decide) d_Ref_reckons_112 ?_
                refine Go.goto (tgt := 117) hx hb d_Ref_reckons_113 rfl ?_
                refine Go.iconst (v := 5) hx hb (by decide) d_Ref_reckons_117 ?_
                obtain ⟨r117, s117, q117, h⟩ := gb_some h
                refine Go.callVi S hK hA 0 (Rw_0 ad ca _) rfl (fun sz9 => m_Ref_needs l D ad ca N _ sz9 _ _ r117 s117 q117) (cwV 2 hts (gwV k_747 k_749 k_40 k_67 k_750) rfl rfl rfl (by decide +kernel) ⟨Nat.le_of_ble_eq_true rfl, Nat.le_of_ble_eq_true rfl⟩) rfl rfl (Nat.le_of_ble_eq_true rfl) ⟨Nat.zero_le _, Nat.zero_le _⟩ d_Ref_reckons_118 ?_
                refine Go.if_ne (tgt := 125) hx hb d_Ref_reckons_121 rfl (fun c121 => ?_) (fun c121 => ?_)
                · replace h := (if_neg c121).symm.trans h
                  refine Go.aload_n hx hb 3 rfl d_Ref_reckons_125 ?_
                  refine Go.dup hx hb rfl d_Ref_reckons_126 ?_
                  refine Go.get (v := .int (gI s117 4)) hx hb hts in_Ref hown hK 0 (Rw_0 ad ca _) rfl 8 (by decide) (hts _ k_623) (fun _ h9 => h9) rfl d_Ref_reckons_127 ?_
                  refine Go.iconst (v := 1) hx hb (by decide) d_Ref_reckons_130 ?_
                  refine Go.isub hx hb d_Ref_reckons_131 ?_
                  refine Go.put (ty := (.int)) hx hb hts in_Ref ty_Ref tyok_Ref nm_Ref hown hK 0 (Rw_0 ad ca _) rfl 8 (by decide) (hts _ k_623) (fun _ h9 => h9) rfl (by decide +kernel) rfl rfl (Nat.le_of_ble_eq_true rfl) (uI s117 4 ((gI s117 4) - 1)) (Rs_I4 ad ca _ _) d_Ref_reckons_132 ?_
                  refine Go.iload_n hx hb 4 rfl d_Ref_reckons_135 ?_
                  by_cases c136_0 : a0 = 19
                  · replace h := (if_pos c136_0).symm.trans h
                    refine Go.tin (tgt := 172) (off := 36) hx hb 19 c136_0 d_Ref_reckons_136 (by decide) (by decide) rfl rfl ?_
                    refine Go.aload_n hx hb 3 rfl d_Ref_reckons_172 ?_
                    refine Go.iload_n hx hb 1 rfl d_Ref_reckons_173 ?_
                    refine Go.iload hx hb 0 rfl d_Ref_reckons_174 ?_
                    refine Go.icmp_ge (tgt := 183) hx hb d_Ref_reckons_176 rfl (fun c176 => ?_) (fun c176 => ?_)
                    · replace h := (if_pos c176).symm.trans h
                      refine Go.iconst (v := 0) hx hb (by decide) d_Ref_reckons_183 ?_
                      obtain ⟨_, s118, q118, h⟩ := gb_some h
                      refine Go.callVv S hK hA 0 (Rw_0 ad ca _) rfl (fun sz9 => m_Ref_truth l D ad ca N _ sz9 _ _ s118 q118) (cwV 1 hts (gwV k_786 k_788 k_49 k_67 k_789) rfl rfl rfl (by decide +kernel) ⟨Nat.le_of_ble_eq_true rfl, Nat.le_of_ble_eq_true rfl⟩) rfl rfl (Nat.le_of_ble_eq_true rfl) ⟨Nat.zero_le _, Nat.zero_le _⟩ d_Ref_reckons_184 ?_
                      refine Go.goto (tgt := 268) hx hb d_Ref_reckons_187 rfl ?_
                      exact Go.vret hx hb hr hK hlk h d_Ref_reckons_268
                    · replace h := (if_neg c176).symm.trans h
                      refine Go.iconst (v := 1) hx hb (by decide) d_Ref_reckons_179 ?_
                      refine Go.goto (tgt := 184) hx hb d_Ref_reckons_180 rfl ?_
                      obtain ⟨_, s119, q119, h⟩ := gb_some h
                      refine Go.callVv S hK hA 0 (Rw_0 ad ca _) rfl (fun sz9 => m_Ref_truth l D ad ca N _ sz9 _ _ s119 q119) (cwV 1 hts (gwV k_786 k_788 k_49 k_67 k_789) rfl rfl rfl (by decide +kernel) ⟨Nat.le_of_ble_eq_true rfl, Nat.le_of_ble_eq_true rfl⟩) rfl rfl (Nat.le_of_ble_eq_true rfl) ⟨Nat.zero_le _, Nat.zero_le _⟩ d_Ref_reckons_184 ?_
                      refine Go.goto (tgt := 268) hx hb d_Ref_reckons_187 rfl ?_
                      exact Go.vret hx hb hr hK hlk h d_Ref_reckons_268
                  replace h := (if_neg c136_0).symm.trans h
                  by_cases c136_1 : a0 = 20
                  · replace h := (if_pos c136_1).symm.trans h
                    refine Go.tin (tgt := 190) (off := 54) hx hb 20 c136_1 d_Ref_reckons_136 (by decide) (by decide) rfl rfl ?_
                    refine Go.aload_n hx hb 3 rfl d_Ref_reckons_190 ?_
                    refine Go.iconst (v := 3) hx hb (by decide) d_Ref_reckons_191 ?_
                    refine Go.iload_n hx hb 1 rfl d_Ref_reckons_192 ?_
                    refine Go.iload hx hb 0 rfl d_Ref_reckons_193 ?_
                    refine Go.iadd hx hb d_Ref_reckons_195 ?_
                    obtain ⟨_, s120, q120, h⟩ := gb_some h
                    refine Go.callVv S hK hA 0 (Rw_0 ad ca _) rfl (fun sz9 => m_Ref_acc l D ad ca N _ sz9 _ _ _ s120 q120) (cwV 2 hts (gwV k_739 k_741 k_38 k_67 k_742) rfl rfl rfl (by decide +kernel) ⟨Nat.le_of_ble_eq_true rfl, Nat.le_of_ble_eq_true rfl⟩) rfl rfl (Nat.le_of_ble_eq_true rfl) ⟨Nat.zero_le _, Nat.zero_le _⟩ d_Ref_reckons_196 ?_
                    refine Go.goto (tgt := 268) hx hb d_Ref_reckons_199 rfl ?_
                    exact Go.vret hx hb hr hK hlk h d_Ref_reckons_268
                  replace h := (if_neg c136_1).symm.trans h
                  by_cases c136_2 : a0 = 21
                  · replace h := (if_pos c136_2).symm.trans h
                    refine Go.tin (tgt := 202) (off := 66) hx hb 21 c136_2 d_Ref_reckons_136 (by decide) (by decide) rfl rfl ?_
                    refine Go.aload_n hx hb 3 rfl d_Ref_reckons_202 ?_
                    refine Go.iconst (v := 3) hx hb (by decide) d_Ref_reckons_203 ?_
                    refine Go.iload_n hx hb 1 rfl d_Ref_reckons_204 ?_
                    refine Go.iload hx hb 0 rfl d_Ref_reckons_205 ?_
                    refine Go.isub hx hb d_Ref_reckons_207 ?_
                    obtain ⟨_, s121, q121, h⟩ := gb_some h
                    refine Go.callVv S hK hA 0 (Rw_0 ad ca _) rfl (fun sz9 => m_Ref_acc l D ad ca N _ sz9 _ _ _ s121 q121) (cwV 2 hts (gwV k_739 k_741 k_38 k_67 k_742) rfl rfl rfl (by decide +kernel) ⟨Nat.le_of_ble_eq_true rfl, Nat.le_of_ble_eq_true rfl⟩) rfl rfl (Nat.le_of_ble_eq_true rfl) ⟨Nat.zero_le _, Nat.zero_le _⟩ d_Ref_reckons_208 ?_
                    refine Go.goto (tgt := 268) hx hb d_Ref_reckons_211 rfl ?_
                    exact Go.vret hx hb hr hK hlk h d_Ref_reckons_268
                  replace h := (if_neg c136_2).symm.trans h
                  by_cases c136_3 : a0 = 22
                  · replace h := (if_pos c136_3).symm.trans h
                    refine Go.tin (tgt := 214) (off := 78) hx hb 22 c136_3 d_Ref_reckons_136 (by decide) (by decide) rfl rfl ?_
                    refine Go.aload_n hx hb 3 rfl d_Ref_reckons_214 ?_
                    refine Go.iconst (v := 3) hx hb (by decide) d_Ref_reckons_215 ?_
                    refine Go.iload_n hx hb 1 rfl d_Ref_reckons_216 ?_
                    refine Go.iload hx hb 0 rfl d_Ref_reckons_217 ?_
                    refine Go.imul hx hb d_Ref_reckons_219 ?_
                    obtain ⟨_, s122, q122, h⟩ := gb_some h
                    refine Go.callVv S hK hA 0 (Rw_0 ad ca _) rfl (fun sz9 => m_Ref_acc l D ad ca N _ sz9 _ _ _ s122 q122) (cwV 2 hts (gwV k_739 k_741 k_38 k_67 k_742) rfl rfl rfl (by decide +kernel) ⟨Nat.le_of_ble_eq_true rfl, Nat.le_of_ble_eq_true rfl⟩) rfl rfl (Nat.le_of_ble_eq_true rfl) ⟨Nat.zero_le _, Nat.zero_le _⟩ d_Ref_reckons_220 ?_
                    refine Go.goto (tgt := 268) hx hb d_Ref_reckons_223 rfl ?_
                    exact Go.vret hx hb hr hK hlk h d_Ref_reckons_268
                  replace h := (if_neg c136_3).symm.trans h
                  by_cases c136_4 : a0 = 23
                  · replace h := (if_pos c136_4).symm.trans h
                    refine Go.tin (tgt := 226) (off := 90) hx hb 23 c136_4 d_Ref_reckons_136 (by decide) (by decide) rfl rfl ?_
                    refine Go.aload_n hx hb 3 rfl d_Ref_reckons_226 ?_
                    refine Go.iconst (v := 3) hx hb (by decide) d_Ref_reckons_227 ?_
                    refine Go.iload hx hb 0 rfl d_Ref_reckons_228 ?_
                    refine Go.iconst (v := (-1)) hx hb (by decide) d_Ref_reckons_230 ?_
                    refine Go.icmp_ne (tgt := 239) hx hb d_Ref_reckons_231 rfl (fun c231 => ?_) (fun c231 => ?_)
                    · replace h := (if_neg c231).symm.trans h
                      refine Go.iload_n hx hb 1 rfl d_Ref_reckons_239 ?_
                      refine Go.iload hx hb 0 rfl d_Ref_reckons_240 ?_
                      obtain ⟨c242, h⟩ := gg_some h
                      refine Go.idiv hx hb c242 d_Ref_reckons_242 ?_
                      obtain ⟨_, s123, q123, h⟩ := gb_some h
                      refine Go.callVv S hK hA 0 (Rw_0 ad ca _) rfl (fun sz9 => m_Ref_acc l D ad ca N _ sz9 _ _ _ s123 q123) (cwV 2 hts (gwV k_739 k_741 k_38 k_67 k_742) rfl rfl rfl (by decide +kernel) ⟨Nat.le_of_ble_eq_true rfl, Nat.le_of_ble_eq_true rfl⟩) rfl rfl (Nat.le_of_ble_eq_true rfl) ⟨Nat.zero_le _, Nat.zero_le _⟩ d_Ref_reckons_243 ?_
                      refine Go.goto (tgt := 268) hx hb d_Ref_reckons_246 rfl ?_
                      exact Go.vret hx hb hr hK hlk h d_Ref_reckons_268
                    · replace h := (if_pos c231).symm.trans h
                      refine Go.iload_n hx hb 1 rfl d_Ref_reckons_234 ?_
                      refine Go.ineg hx hb d_Ref_reckons_235 ?_
                      refine Go.goto (tgt := 243) hx hb d_Ref_reckons_236 rfl ?_
                      obtain ⟨_, s124, q124, h⟩ := gb_some h
                      refine Go.callVv S hK hA 0 (Rw_0 ad ca _) rfl (fun sz9 => m_Ref_acc l D ad ca N _ sz9 _ _ _ s124 q124) (cwV 2 hts (gwV k_739 k_741 k_38 k_67 k_742) rfl rfl rfl (by decide +kernel) ⟨Nat.le_of_ble_eq_true rfl, Nat.le_of_ble_eq_true rfl⟩) rfl rfl (Nat.le_of_ble_eq_true rfl) ⟨Nat.zero_le _, Nat.zero_le _⟩ d_Ref_reckons_243 ?_
                      refine Go.goto (tgt := 268) hx hb d_Ref_reckons_246 rfl ?_
                      exact Go.vret hx hb hr hK hlk h d_Ref_reckons_268
                  replace h := (if_neg c136_4).symm.trans h
                  have n136_0 := lv_neT (a := 19) c136_0 (by decide)
                  have n136_1 := lv_neT (a := 20) c136_1 (by decide)
                  have n136_2 := lv_neT (a := 21) c136_2 (by decide)
                  have n136_3 := lv_neT (a := 22) c136_3 (by decide)
                  have n136_4 := lv_neT (a := 23) c136_4 (by decide)
                  refine Go.tout (tgt := 249) hx hb d_Ref_reckons_136 (by omega) rfl ?_
                  refine Go.aload_n hx hb 3 rfl d_Ref_reckons_249 ?_
                  refine Go.iconst (v := 3) hx hb (by decide) d_Ref_reckons_250 ?_
                  refine Go.iload hx hb 0 rfl d_Ref_reckons_251 ?_
                  refine Go.iconst (v := (-1)) hx hb (by decide) d_Ref_reckons_253 ?_
                  refine Go.icmp_ne (tgt := 261) hx hb d_Ref_reckons_254 rfl (fun c254 => ?_) (fun c254 => ?_)
                  · replace h := (if_neg c254).symm.trans h
                    refine Go.iload_n hx hb 1 rfl d_Ref_reckons_261 ?_
                    refine Go.iload hx hb 0 rfl d_Ref_reckons_262 ?_
                    obtain ⟨c264, h⟩ := gg_some h
                    refine Go.irem hx hb c264 d_Ref_reckons_264 ?_
                    obtain ⟨_, s125, q125, h⟩ := gb_some h
                    refine Go.callVv S hK hA 0 (Rw_0 ad ca _) rfl (fun sz9 => m_Ref_acc l D ad ca N _ sz9 _ _ _ s125 q125) (cwV 2 hts (gwV k_739 k_741 k_38 k_67 k_742) rfl rfl rfl (by decide +kernel) ⟨Nat.le_of_ble_eq_true rfl, Nat.le_of_ble_eq_true rfl⟩) rfl rfl (Nat.le_of_ble_eq_true rfl) ⟨Nat.zero_le _, Nat.zero_le _⟩ d_Ref_reckons_265 ?_
                    exact Go.vret hx hb hr hK hlk h d_Ref_reckons_268
                  · replace h := (if_pos c254).symm.trans h
                    refine Go.iconst (v := 0) hx hb (by decide) d_Ref_reckons_257 ?_
                    refine Go.goto (tgt := 265) hx hb d_Ref_reckons_258 rfl ?_
                    obtain ⟨_, s126, q126, h⟩ := gb_some h
                    refine Go.callVv S hK hA 0 (Rw_0 ad ca _) rfl (fun sz9 => m_Ref_acc l D ad ca N _ sz9 _ _ _ s126 q126) (cwV 2 hts (gwV k_739 k_741 k_38 k_67 k_742) rfl rfl rfl (by decide +kernel) ⟨Nat.le_of_ble_eq_true rfl, Nat.le_of_ble_eq_true rfl⟩) rfl rfl (Nat.le_of_ble_eq_true rfl) ⟨Nat.zero_le _, Nat.zero_le _⟩ d_Ref_reckons_265 ?_
                    exact Go.vret hx hb hr hK hlk h d_Ref_reckons_268
                · replace h := (if_pos c121).symm.trans h
                  exact Go.vret hx hb hr hK hlk h d_Ref_reckons_124
    · replace h := (if_pos c40).symm.trans h
      refine Go.aload_n hx hb 3 rfl d_Ref_reckons_43 ?_
      refine Go.iload_n hx hb 2 rfl d_Ref_reckons_44 ?_
      refine Go.iload_n hx hb 1 rfl d_Ref_reckons_45 ?_
      refine Go.aload_n hx hb 3 rfl d_Ref_reckons_46 ?_
      refine Go.get (v := .int (gI s3 2)) hx hb hts in_Ref hown hK 0 (Rw_0 ad ca _) rfl 4 (by decide) (hts _ k_619) (fun _ h9 => h9) rfl d_Ref_reckons_47 ?_
      refine Go.iload hx hb 0 rfl d_Ref_reckons_50 ?_
      obtain ⟨r127, s127, q127, h⟩ := gb_some h
      refine Go.callSi S hK hA (fun sz9 => m_Ref_same l D ad ca N _ sz9 _ _ _ _ r127 s127 q127) (va_cwS 4 hts (gwS k_783 k_784 k_67 k_785) rfl rfl rfl (by decide +kernel) ⟨Nat.le_of_ble_eq_true rfl, Nat.le_of_ble_eq_true rfl⟩) rfl rfl (Nat.le_of_ble_eq_true rfl) ⟨Nat.zero_le _, Nat.zero_le _⟩ d_Ref_reckons_52 ?_
      obtain ⟨_, s128, q128, h⟩ := gb_some h
      refine Go.callVv S hK hA 0 (Rw_0 ad ca _) rfl (fun sz9 => m_Ref_truth l D ad ca N _ sz9 _ _ s128 q128) (cwV 1 hts (gwV k_786 k_788 k_49 k_67 k_789) rfl rfl rfl (by decide +kernel) ⟨Nat.le_of_ble_eq_true rfl, Nat.le_of_ble_eq_true rfl⟩) rfl rfl (Nat.le_of_ble_eq_true rfl) ⟨Nat.zero_le _, Nat.zero_le _⟩ d_Ref_reckons_55 ?_
      refine Go.aload_n hx hb 3 rfl d_Ref_reckons_58 ?_
      refine Go.dup hx hb rfl d_Ref_reckons_59 ?_
      refine Go.get (v := .int (gI s128 4)) hx hb hts in_Ref hown hK 0 (Rw_0 ad ca _) rfl 8 (by decide) (hts _ k_623) (fun _ h9 => h9) rfl d_Ref_reckons_60 ?_
      refine Go.iconst (v := 1) hx hb (by decide) d_Ref_reckons_63 ?_
      refine Go.isub hx hb d_Ref_reckons_64 ?_
      refine Go.put (ty := (.int)) hx hb hts in_Ref ty_Ref tyok_Ref nm_Ref hown hK 0 (Rw_0 ad ca _) rfl 8 (by decide) (hts _ k_623) (fun _ h9 => h9) rfl (by decide +kernel) rfl rfl (Nat.le_of_ble_eq_true rfl) (uI s128 4 ((gI s128 4) - 1)) (Rs_I4 ad ca _ _) d_Ref_reckons_65 ?_
      exact Go.vret hx hb hr hK hlk h d_Ref_reckons_68
  · replace h := (if_pos c5).symm.trans h
    exact Go.vret hx hb hr hK hlk h d_Ref_reckons_8
