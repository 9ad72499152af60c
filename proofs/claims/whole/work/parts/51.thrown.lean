/-! methods that throw IllegalArgumentException: what they need of the start, their rows -/
def ThP (A : Nat → Prop) (U : State) : Prop := vx_Zq Bundle.tN "UNASSIGNED_STACK" Bundle.steD A U U.heap ∧ vx_Zq Bundle.tN "SUPPRESSED_SENTINEL" Bundle.listD A U U.heap ∧ va_Nw (.castable "java/lang/IllegalArgumentException" "java/lang/IllegalArgumentException") U ∧ va_Nw (.declares ⟨"java/lang/RuntimeException", "<init>", "(Ljava/lang/String;)V"⟩) U ∧ va_Nw (.declares ⟨"java/lang/Exception", "<init>", "(Ljava/lang/String;)V"⟩) U ∧ va_Nw (.declares ⟨"java/lang/Throwable", "<init>", "(Ljava/lang/String;)V"⟩) U ∧ (∃ sa, vk_R "ValueMachine" 71 "there is no such instruction" sa U) ∧ (∃ sa, vk_R "ValueMachine" 86 "0 to 20000 instructions can be done" sa U)
theorem ThP_calling {A : Nat → Prop} {U : State} {g : JFrame} {mk : MethodId} {a : Array Value} (h : ThP A U) : ThP A (U.calling g mk a) := by
  obtain ⟨h1, h2, h3, h4, h5, h6, ⟨a7, h7⟩, ⟨a8, h8⟩⟩ := h
  exact ⟨vx_Zq.moved (u := U) (U := U.calling g mk a) (Vm.Alike.refl U.vm) h1, vx_Zq.moved (u := U) (U := U.calling g mk a) (Vm.Alike.refl U.vm) h2, va_Nw.same (u := U) rfl rfl h3, va_Nw.same (u := U) rfl rfl h4, va_Nw.same (u := U) rfl rfl h5, va_Nw.same (u := U) rfl rfl h6, ⟨a7, vk_R.same (u := U) rfl h7⟩, ⟨a8, vk_R.same (u := U) rfl h8⟩⟩
theorem ThP_at {A : Nat → Prop} {s U : State} {H : Heap} {locs : List Loc} (h : ThP A s) (hS : va_S A s.heap H locs) (hU : U.heap = H) (hW : s.WarmedH U.vm) : ThP A U := by
  obtain ⟨h1, h2, h3, h4, h5, h6, ⟨a7, h7⟩, ⟨a8, h8⟩⟩ := h
  have hk : ∀ a : Nat, a < s.heap.size → ¬ A a → U.heap[a]? = s.heap[a]? := fun a ha hn => by rw [hU]; exact hS.2.1 a ha hn
  exact ⟨vx_Zq.moved hW.alike (vx_Zq.kept h1 hk), vx_Zq.moved hW.alike (vx_Zq.kept h2 hk), va_Nw.warmC hW h3, va_Nw.warmD hW h4, va_Nw.warmD hW h5, va_Nw.warmD hW h6, ⟨a7, vk_R.warm hW h7⟩, ⟨a8, vk_R.warm hW h8⟩⟩
theorem ThP_narrow {A B : Nat → Prop} {U : State} (h : ThP A U) (hAB : ∀ q, B q → A q) : ThP B U := by
  obtain ⟨h1, h2, h3⟩ := h
  exact ⟨vx_Zq.narrow h1 hAB, vx_Zq.narrow h2 hAB, h3⟩
abbrev thL : List Cond := vx_atS "ValueMachine" 73 "java/lang/IllegalArgumentException" ["java/lang/RuntimeException", "java/lang/Exception"]
theorem thL_good : ∀ w ∈ thL.filter goodWord, w ∈ tbl := fun w hw => List.mem_filter.mpr ⟨(by decide +kernel : ∀ w ∈ thL.filter goodWord, w ∈ lw_tbl) w hw, (List.mem_filter.mp hw).2⟩
theorem thL_rest : ∀ w ∈ thL.filter (fun w => !goodWord w), w ∈ [.castable "java/lang/IllegalArgumentException" "java/lang/IllegalArgumentException", .declares ⟨"java/lang/RuntimeException", "<init>", "(Ljava/lang/String;)V"⟩, .declares ⟨"java/lang/Exception", "<init>", "(Ljava/lang/String;)V"⟩, Cond.declares ⟨"java/lang/Throwable", "<init>", "(Ljava/lang/String;)V"⟩] := by decide +kernel
theorem thL_ot : ∀ w ∈ Cond.classLink "ValueMachine" 69 "java/lang/IllegalArgumentException" :: Cond.initialized "java/lang/IllegalArgumentException" :: thL, vx_ot w = true := by decide +kernel
section THX
variable {σ : Type} {w : σ → va_W} {D : va_G} {cl : List vw_C} {tys : List (ClassId × FieldType)} {A : Nat → Prop} {nL : Nat} {p : Program} {l : Launch} {e : Env} {R : Room} {s : State} {m : MethodId} {args : Array Value} {below : List Frame} {meth : Method} {c : Code}
variable {cc : ByteArray} {pc : Nat} {lv : List (Nat × Value)} {st : σ}
theorem Go.iretX (hx : p.tables.exec = Jvm.exec) (hb : c.code = cc) (hr : meth.sig.returnType = some .int) (hK : va_K D cl tys s) (hlocks : meth.locks = false) {XC : String → State → State → Prop} {ro : Option Int32} {u : σ} {v : Int32} (h : some (some v, st) = some (ro, u)) (hd : decode cc pc = .ok (.ireturn, 1)) : Go w D cl A s.heap nL p l e R s m args below meth c 0 0 (vx_MQ below (va_Qi (fun r' u' => ro = some r' ∧ u' = u) (goPost w D cl tys A) A) XC args s 1 6 A) pc lv [.int v] st := by
  intro H locs ls hl hP hD hS
  cases h
  refine W.widen (k := 1) (n := 6) (by decide) (by decide) (vx_ret ?_)
  exact W.iret hx hb hr (fun t ht hW => ⟨⟨_, _, rfl, ⟨rfl, rfl⟩, by rw [ht]; exact hP, va_K.moved hW.alike hK, hD⟩, hS.F ht⟩) hS.2.2 hd hlocks
theorem Go.throwX (hx : p.tables.exec = Jvm.exec) (hb : c.code = cc) (hl0 : l.stackTraces = false) (hml : c.maxLocals = nL) (hown : s.vm.findClass "ValueMachine" = some m.cls) (hts : ∀ w ∈ tbl, w.before args s = true) (hK : va_K D cl tys s) (hlocks : meth.locks = false) (hTh : ThP A s) (hex : ∀ x ∈ c.exceptionTable.toList, False) {is sa : Nat} {text : String} (hstr : vk_R "ValueMachine" is text sa s) (hk : Cond.classLink "ValueMachine" 69 "java/lang/IllegalArgumentException" ∈ tbl) (hini : Cond.initialized "java/lang/IllegalArgumentException" ∈ tbl) (hRf : 5 < R.frames) (hRl : 82 ≤ R.locals) (hRc : 1 ≤ R.cells) (hRs : 6 ≤ R.slots) {Qc : Array Value → State → Outcome → State → Prop} {ro : Option Int32} {u : σ} (h : some (none, st) = some (ro, u)) (d0 : decode cc pc = .ok (.new 69, 3)) (d3 : decode cc (pc + 3) = .ok (.dup, 1)) (d4 : decode cc (pc + 4) = .ok (.ldc is, 2)) (d6 : decode cc (pc + 6) = .ok (.invokespecial 73, 3)) (d9 : decode cc (pc + 9) = .ok (.athrow, 1)) : Go w D cl A s.heap nL p l e R s m args below meth c 0 0 (vx_MQ below Qc (vx_X (fun u' => ro = none ∧ u' = u) (fun E u' t => E = "java/lang/IllegalArgumentException" ∧ goPost w D cl tys A u' t) A) args s 1 6 A) pc lv [] st := by
  intro H locs ls hl hP hD hS
  cases h
  obtain ⟨hU, hN, n1, n2, n3, n4, _, _⟩ := hTh
  refine vx_throwS (own := "ValueMachine") (cls := "java/lang/IllegalArgumentException") (names := ["java/lang/RuntimeException", "java/lang/Exception"]) (A := A) hx hb hl0 hown (by decide) (by decide) (hts _ hk) (hts _ hini) hstr (vx_hat (fun w9 h9 => hts w9 (thL_good w9 h9)) thL_rest (vx_c (va_Nw.use rfl n1) (vx_c (va_Nw.use rfl n2) (vx_c (va_Nw.use rfl n3) (vx_c (va_Nw.use rfl n4) vx_n))))) thL_ot hU hN hS (hl.1.trans hml.symm) d0 d3 d4 d6 d9 (fun x h9 => (hex x h9).elim) hRf (by simpa using hRl) (by simpa using hRc) (by simpa using hRs) hlocks (fun t ht h1 h2 => ?_) hS.2.2 (by decide) (by decide)
  refine ⟨st, ⟨rfl, rfl⟩, ⟨rfl, hP.kept (fun k q hk9 => h2 q.1 (hP k q hk9).lt), va_K.moved ht hK, hD⟩, Nat.le_trans hS.1 h1, fun q hq hn => ?_⟩
  rw [h2 q (Nat.lt_of_lt_of_le hq hS.1)]
  exact hS.2.1 q hq hn
theorem go_metX {y : MethodName} {ws ws' : List Cond} {rm : Room} {Qc : (Nat → Prop) → Array Value → State → Outcome → State → Prop} {XC : (Nat → Prop) → String → State → State → Prop} {maxL sz : Nat} {ret : Option FieldType} {av : List Value} (lv0 : List (Nat × Value)) (hy : plainName y.cls = true) (hw : ws = Cond.code y cc maxL ret :: ws') (hlen : (lg_sl av).length ≤ maxL) (hlv : lv_args 0 av = lv0)
    (body : ∀ p e s m below meth c A, CallFix p m c cc maxL s av.toArray ws' y.cls → meth.sig.returnType = ret → meth.locks = false → va_K D cl tys s → (∀ q, s.heap.size ≤ q → A q) → s.heap.size = sz → ThP A s → (∀ x ∈ c.exceptionTable.toList, False) → Go w D cl A s.heap maxL p l e rm s m av.toArray below meth c 0 0 (vx_MQ below (Qc A) (XC A) av.toArray s 1 6 A) 0 lv0 [] st) :
    vx_Met l y ws rm (va_Pc av (fun U => goPre w D cl tys sz st U ∧ ThP (va_A (w st) sz) U)) (Qc (va_A (w st) sz)) (XC (va_A (w st) sz)) 1 6 (va_A (w st) sz) := by
  refine vx_ofW (cc := cc) (maxL := maxL) (ret := ret) hy hw ?_
  intro p e s m args below meth c s₁ B hml hex hv
  obtain ⟨rfl, ⟨hsz, hP, hK, hD0⟩, hTh⟩ := hv
  have hts := atoms_spec (ws := ws) B.pre
  have hown : s.vm.findClass y.cls = some m.cls := findClass_of_methodNamed B.named
  have hD : va_D (va_A (w st) sz) (w st) := hD0.self
  have hl := lv_entry av (n := maxL) hlen
  rw [lg_entry_eq]
  rw [hlv] at hl
  exact body p e s m below meth c _ ⟨B.exec, B.bytes, hml, hown, fun w h => hts w (by rw [hw]; exact List.mem_cons_of_mem _ h)⟩ B.returns B.notSynchronized hK (fun q h => Or.inr (hsz ▸ h)) hsz hTh hex s.heap [] _ hl hP hD va_S.rf
end THX
theorem k_71 : (Jvm.Cond.initialized "java/lang/IllegalArgumentException") ∈ tbl := tb 71 (by decide +kernel) (by decide +kernel)
theorem k_293 : (Jvm.Cond.classLink "ValueMachine" (69 : Nat) "java/lang/IllegalArgumentException") ∈ tbl := tb 293 (by decide +kernel) (by decide +kernel)
set_option maxHeartbeats 4000000 in
set_option maxRecDepth 100000 in
theorem m_VM_code (l : Launch) (hl0 : l.stackTraces = false) (D : va_G) (ad : Nat → Nat) (ca : Nat → ClassId) (N : Nat) (st : SG) (sz : Nat) (a0 : Int32) (a1 : Int32) (ro : Option Int32) (u : SG) (h : fX_ValueMachine_code N st a0 a1 = some (ro, u)) : vx_Met l y_VM_code (Cond.code y_VM_code c_VM_code 3 (some .int) :: tbl) ({ frames := 6, cells := 1, slots := 6, locals := 91 } : Room) (va_Pc [.ref (ad 0), .int a0, .int a1] (fun U => goPre (Xw ad ca) D vwCl (Xtys ca) sz st U ∧ ThP (va_A (Xw ad ca st) sz) U)) (va_Qi (fun r' u' => ro = some r' ∧ u' = u) (goPost (Xw ad ca) D vwCl (Xtys ca) (va_A (Xw ad ca st) sz)) (va_A (Xw ad ca st) sz)) (vx_X (fun u' => ro = none ∧ u' = u) (fun E u' t => E = "java/lang/IllegalArgumentException" ∧ goPost (Xw ad ca) D vwCl (Xtys ca) (va_A (Xw ad ca st) sz) u' t) (va_A (Xw ad ca st) sz)) 1 6 (va_A (Xw ad ca st) sz) := by
  refine go_metX (Qc := fun A9 => va_Qi (fun r' u' => ro = some r' ∧ u' = u) (goPost (Xw ad ca) D vwCl (Xtys ca) A9) A9) (XC := fun A9 => (vx_X (fun u' => ro = none ∧ u' = u) (fun E u' t => E = "java/lang/IllegalArgumentException" ∧ goPost (Xw ad ca) D vwCl (Xtys ca) A9 u' t) A9)) (cc := c_VM_code) (maxL := 3) (ret := (some .int)) [(0, .ref (ad 0)), (1, .int a0), (2, .int a1)] (by decide) rfl (Nat.le_of_ble_eq_true rfl) rfl ?_
  intro p e s m below meth c A S hr hlk hK hA hsz hTh hex
  obtain ⟨hx, hb, hml, hown, hts⟩ := id S
  unfold fX_ValueMachine_code at h
  refine Go.iload_n hx hb 1 rfl d_VM_code_0 ?_
  refine Go.if_lt (tgt := 10) hx hb d_VM_code_1 rfl (fun c1 => ?_) (fun c1 => ?_)
  · replace h := (if_pos c1).symm.trans h
    obtain ⟨sa9, hstr⟩ := hTh.2.2.2.2.2.2.1
    exact Go.throwX hx hb hl0 hml hown hts hK hlk hTh hex hstr k_293 k_71 (Nat.le_of_ble_eq_true rfl) (Nat.le_of_ble_eq_true rfl) (Nat.le_of_ble_eq_true rfl) (Nat.le_of_ble_eq_true rfl) h d_VM_code_10 d_VM_code_13 d_VM_code_14 d_VM_code_16 d_VM_code_19
  · replace h := (if_neg c1).symm.trans h
    refine Go.iload_n hx hb 1 rfl d_VM_code_4 ?_
    refine Go.bipush (v := 34) hx hb (by decide) d_VM_code_5 ?_
    refine Go.icmp_le (tgt := 20) hx hb d_VM_code_7 rfl (fun c7 => ?_) (fun c7 => ?_)
    · replace h := (if_pos c7).symm.trans h
      refine Go.aload_n hx hb 0 rfl d_VM_code_20 ?_
      refine Go.get (v := .ref (ad 1)) hx hb hts in_VM hown hK 0 (Xw_0 ad ca _) rfl 0 (by decide) (hts _ k_170) (fun _ h9 => h9) rfl d_VM_code_21 ?_
      refine Go.iload_n hx hb 1 rfl d_VM_code_24 ?_
      refine Go.iload_n hx hb 2 rfl d_VM_code_25 ?_
      obtain ⟨r1, s1, q1, h⟩ := gb_some h
      refine Go.callVi S hK hA 1 (Xw_1 ad ca _) rfl (fun sz9 => m_Code_append l D ad ca N _ sz9 _ _ r1 s1 q1) (cwV 2 hts (gwV k_359 k_360 k_361 k_63 k_362) rfl rfl rfl (by decide +kernel) ⟨Nat.le_of_ble_eq_true rfl, Nat.le_of_ble_eq_true rfl⟩) rfl rfl (Nat.le_of_ble_eq_true rfl) ⟨Nat.zero_le _, Nat.zero_le _⟩ d_VM_code_26 ?_
      refine Go.if_eq (tgt := 42) hx hb d_VM_code_29 rfl (fun c29 => ?_) (fun c29 => ?_)
      · replace h := (if_pos c29).symm.trans h
        refine Go.iconst (v := (-1)) hx hb (by decide) d_VM_code_42 ?_
        exact Go.iretX hx hb hr hK hlk h d_VM_code_43
      · replace h := (if_neg c29).symm.trans h
        refine Go.aload_n hx hb 0 rfl d_VM_code_32 ?_
        refine Go.get (v := .ref (ad 1)) hx hb hts in_VM hown hK 0 (Xw_0 ad ca _) rfl 0 (by decide) (hts _ k_170) (fun _ h9 => h9) rfl d_VM_code_33 ?_
        refine Go.get (v := .int (gI s1 0)) hx hb hts in_Code hown hK 1 (Xw_1 ad ca _) rfl 2 (by decide) (hts _ k_91) (fun _ h9 => h9) rfl d_VM_code_36 ?_
        refine Go.goto (tgt := 43) hx hb d_VM_code_39 rfl ?_
        exact Go.iretX hx hb hr hK hlk h d_VM_code_43
    · replace h := (if_neg c7).symm.trans h
      obtain ⟨sa9, hstr⟩ := hTh.2.2.2.2.2.2.1
      exact Go.throwX hx hb hl0 hml hown hts hK hlk hTh hex hstr k_293 k_71 (Nat.le_of_ble_eq_true rfl) (Nat.le_of_ble_eq_true rfl) (Nat.le_of_ble_eq_true rfl) (Nat.le_of_ble_eq_true rfl) h d_VM_code_10 d_VM_code_13 d_VM_code_14 d_VM_code_16 d_VM_code_19
set_option maxHeartbeats 4000000 in
set_option maxRecDepth 100000 in
theorem m_VM_run (l : Launch) (hl0 : l.stackTraces = false) (D : va_G) (ad : Nat → Nat) (ca : Nat → ClassId) (N : Nat) (st : SG) (sz : Nat) (a0 : Int32) (ro : Option Int32) (u : SG) (h : fX_ValueMachine_run N st a0 = some (ro, u)) : vx_Met l y_VM_run (Cond.code y_VM_run c_VM_run 5 (some .int) :: tbl) ({ frames := 6, cells := 1, slots := 6, locals := 137 } : Room) (va_Pc [.ref (ad 0), .int a0] (fun U => goPre (Xw ad ca) D vwCl (Xtys ca) sz st U ∧ ThP (va_A (Xw ad ca st) sz) U)) (va_Qi (fun r' u' => ro = some r' ∧ u' = u) (goPost (Xw ad ca) D vwCl (Xtys ca) (va_A (Xw ad ca st) sz)) (va_A (Xw ad ca st) sz)) (vx_X (fun u' => ro = none ∧ u' = u) (fun E u' t => E = "java/lang/IllegalArgumentException" ∧ goPost (Xw ad ca) D vwCl (Xtys ca) (va_A (Xw ad ca st) sz) u' t) (va_A (Xw ad ca st) sz)) 1 6 (va_A (Xw ad ca st) sz) := by
  refine go_metX (Qc := fun A9 => va_Qi (fun r' u' => ro = some r' ∧ u' = u) (goPost (Xw ad ca) D vwCl (Xtys ca) A9) A9) (XC := fun A9 => (vx_X (fun u' => ro = none ∧ u' = u) (fun E u' t => E = "java/lang/IllegalArgumentException" ∧ goPost (Xw ad ca) D vwCl (Xtys ca) A9 u' t) A9)) (cc := c_VM_run) (maxL := 5) (ret := (some .int)) [(0, .ref (ad 0)), (1, .int a0)] (by decide) rfl (Nat.le_of_ble_eq_true rfl) rfl ?_
  intro p e s m below meth c A S hr hlk hK hA hsz hTh hex
  obtain ⟨hx, hb, hml, hown, hts⟩ := id S
  unfold fX_ValueMachine_run at h
  have L28 : ∀ (n : Nat) (v1 : Int32) (v2 : Int32) (st : SG), fX_ValueMachine_run_L28 N n v1 v2 st = some (ro, u) → Go (Xw ad ca) D vwCl A s.heap 5 p l e ({ frames := 6, cells := 1, slots := 6, locals := 137 } : Room) s m ([.ref (ad 0), .int a0] : List Value).toArray below meth c 0 0 (vx_MQ below (va_Qi (fun r' u' => ro = some r' ∧ u' = u) (goPost (Xw ad ca) D vwCl (Xtys ca) A) A) (vx_X (fun u' => ro = none ∧ u' = u) (fun E u' t => E = "java/lang/IllegalArgumentException" ∧ goPost (Xw ad ca) D vwCl (Xtys ca) A u' t) A) ([.ref (ad 0), .int a0] : List Value).toArray s 1 6 A) 28 [(0, .ref (ad 0)), (1, .int v1), (2, .int v2)] [] st := by
    intro n
    induction n with
    | zero => intro v1 v2 st h; cases h
    | succ n ih =>
      intro v1 v2 st h
      unfold fX_ValueMachine_run_L28 at h
      refine Go.iload_n hx hb 2 rfl d_VM_run_28 ?_
      refine Go.iload_n hx hb 1 rfl d_VM_run_29 ?_
      refine Go.icmp_ge (tgt := 109) hx hb d_VM_run_30 rfl (fun c30 => ?_) (fun c30 => ?_)
      · replace h := (if_pos c30).symm.trans h
        refine Go.aload_n hx hb 0 rfl d_VM_run_109 ?_
        refine Go.dup hx hb rfl d_VM_run_110 ?_
        refine Go.get (v := .int (gI st 9)) hx hb hts in_VM hown hK 0 (Xw_0 ad ca _) rfl 10 (by decide) (hts _ k_180) (fun _ h9 => h9) rfl d_VM_run_111 ?_
        refine Go.iload_n hx hb 2 rfl d_VM_run_114 ?_
        refine Go.iadd hx hb d_VM_run_115 ?_
        refine Go.put (ty := (.int)) hx hb hts in_VM ty_VM tyok_VM nm_VM hown hK 0 (Xw_0 ad ca _) rfl 10 (by decide) (hts _ k_180) (fun _ h9 => h9) rfl (by decide +kernel) rfl rfl (Nat.le_of_ble_eq_true rfl) (uI st 9 ((gI st 9) + v2)) (Xs_I9 ad ca _ _) d_VM_run_116 ?_
        refine Go.iload_n hx hb 2 rfl d_VM_run_119 ?_
        exact Go.iretX hx hb hr hK hlk h d_VM_run_120
      · replace h := (if_neg c30).symm.trans h
        refine Go.aload_n hx hb 0 rfl d_VM_run_33 ?_
        obtain ⟨r1, s1, q1, h⟩ := gb_some h
        refine Go.callVi S hK hA 0 (Xw_0 ad ca _) rfl (fun sz9 => m_VM_state l D ad ca N _ sz9 r1 s1 q1) (cwV 0 hts (gwV k_371 k_224 k_225 k_62 k_226) rfl rfl rfl (by decide +kernel) ⟨Nat.le_of_ble_eq_true rfl, Nat.le_of_ble_eq_true rfl⟩) rfl rfl (Nat.le_of_ble_eq_true rfl) ⟨Nat.zero_le _, Nat.zero_le _⟩ d_VM_run_34 ?_
        refine Go.if_ne (tgt := 109) hx hb d_VM_run_37 rfl (fun c37 => ?_) (fun c37 => ?_)
        · replace h := (if_neg c37).symm.trans h
          refine Go.aload_n hx hb 0 rfl d_VM_run_109 ?_
          refine Go.dup hx hb rfl d_VM_run_110 ?_
          refine Go.get (v := .int (gI s1 9)) hx hb hts in_VM hown hK 0 (Xw_0 ad ca _) rfl 10 (by decide) (hts _ k_180) (fun _ h9 => h9) rfl d_VM_run_111 ?_
          refine Go.iload_n hx hb 2 rfl d_VM_run_114 ?_
          refine Go.iadd hx hb d_VM_run_115 ?_
          refine Go.put (ty := (.int)) hx hb hts in_VM ty_VM tyok_VM nm_VM hown hK 0 (Xw_0 ad ca _) rfl 10 (by decide) (hts _ k_180) (fun _ h9 => h9) rfl (by decide +kernel) rfl rfl (Nat.le_of_ble_eq_true rfl) (uI s1 9 ((gI s1 9) + v2)) (Xs_I9 ad ca _ _) d_VM_run_116 ?_
          refine Go.iload_n hx hb 2 rfl d_VM_run_119 ?_
          exact Go.iretX hx hb hr hK hlk h d_VM_run_120
        · replace h := (if_pos c37).symm.trans h
          refine Go.aload_n hx hb 0 rfl d_VM_run_40 ?_
          refine Go.get (v := .int (gI s1 8)) hx hb hts in_VM hown hK 0 (Xw_0 ad ca _) rfl 9 (by decide) (hts _ k_179) (fun _ h9 => h9) rfl d_VM_run_41 ?_
          refine Go.istore_n (i := 3) (lv' := [(3, .int (gI s1 8)), (0, .ref (ad 0)), (1, .int v1), (2, .int v2)]) hx hb rfl (Nat.le_of_ble_eq_true rfl) rfl d_VM_run_44 ?_
          refine Go.aload_n hx hb 1 rfl d_VM_run_45 ?_
          refine Go.iload_n hx hb 0 rfl d_VM_run_46 ?_
          refine Go.iconst (v := 1) hx hb (by decide) d_VM_run_47 ?_
          refine Go.iadd hx hb d_VM_run_48 ?_
          refine Go.put (ty := (.int)) hx hb hts in_VM ty_VM tyok_VM nm_VM hown hK 0 (Xw_0 ad ca _) rfl 9 (by decide) (hts _ k_179) (fun _ h9 => h9) rfl (by decide +kernel) rfl rfl (Nat.le_of_ble_eq_true rfl) (uI s1 8 ((gI s1 8) + 1)) (Xs_I8 ad ca _ _) d_VM_run_49 ?_
          refine Go.aload_n hx hb 1 rfl d_VM_run_52 ?_
          refine Go.aload_n hx hb 1 rfl d_VM_run_53 ?_
          refine Go.get (v := .ref (ad 1)) hx hb hts in_VM hown hK 0 (Xw_0 ad ca _) rfl 0 (by decide) (hts _ k_170) (fun _ h9 => h9) rfl d_VM_run_54 ?_
          refine Go.iload_n hx hb 0 rfl d_VM_run_57 ?_
          obtain ⟨r2, s2, q2, h⟩ := gb_some h
          refine Go.callVi S hK hA 1 (Xw_1 ad ca _) rfl (fun sz9 => m_Code_instructionAt l D ad ca N _ sz9 _ r2 s2 q2) (cwV 1 hts (gwV k_372 k_373 k_374 k_63 k_375) rfl rfl rfl (by decide +kernel) ⟨Nat.le_of_ble_eq_true rfl, Nat.le_of_ble_eq_true rfl⟩) rfl rfl (Nat.le_of_ble_eq_true rfl) ⟨Nat.zero_le _, Nat.zero_le _⟩ d_VM_run_58 ?_
          refine Go.aload_n hx hb 1 rfl d_VM_run_61 ?_
          refine Go.get (v := .ref (ad 1)) hx hb hts in_VM hown hK 0 (Xw_0 ad ca _) rfl 0 (by decide) (hts _ k_170) (fun _ h9 => h9) rfl d_VM_run_62 ?_
          refine Go.iload_n hx hb 0 rfl d_VM_run_65 ?_
          obtain ⟨r3, s3, q3, h⟩ := gb_some h
          refine Go.callVi S hK hA 1 (Xw_1 ad ca _) rfl (fun sz9 => m_Code_numberAt l D ad ca N _ sz9 _ r3 s3 q3) (cwV 1 hts (gwV k_376 k_377 k_378 k_63 k_379) rfl rfl rfl (by decide +kernel) ⟨Nat.le_of_ble_eq_true rfl, Nat.le_of_ble_eq_true rfl⟩) rfl rfl (Nat.le_of_ble_eq_true rfl) ⟨Nat.zero_le _, Nat.zero_le _⟩ d_VM_run_66 ?_
          obtain ⟨r4, s4, q4, h⟩ := gb_some h
          refine Go.callVi S hK hA 0 (Xw_0 ad ca _) rfl (fun sz9 => m_VM_perform l D ad ca N _ sz9 _ _ r4 s4 q4) (cwV 2 hts (gwV k_380 k_382 k_3 k_62 k_383) rfl rfl rfl (by decide +kernel) ⟨Nat.le_of_ble_eq_true rfl, Nat.le_of_ble_eq_true rfl⟩) rfl rfl (Nat.le_of_ble_eq_true rfl) ⟨Nat.zero_le _, Nat.zero_le _⟩ d_VM_run_69 ?_
          refine Go.istore (i := 4) (lv' := [(4, .int r4), (3, .int (gI s1 8)), (0, .ref (ad 0)), (1, .int v1), (2, .int v2)]) hx hb (Nat.le_of_ble_eq_true rfl) rfl d_VM_run_72 ?_
          refine Go.iload hx hb 0 rfl d_VM_run_74 ?_
          refine Go.if_eq (tgt := 103) hx hb d_VM_run_76 rfl (fun c76 => ?_) (fun c76 => ?_)
          · replace h := (if_pos c76).symm.trans h
            refine Go.iinc (v := v2 + 1) (lv' := [(2, .int (v2 + 1)), (4, .int r4), (3, .int (gI s1 8)), (0, .ref (ad 0)), (1, .int v1)]) hx hb 4 rfl rfl (Nat.le_of_ble_eq_true rfl) rfl d_VM_run_103 ?_
            refine Go.goto (tgt := 28) hx hb d_VM_run_106 rfl ?_
            refine Go.sub [3, 4, 0] rfl ?_
            exact ih _ _ _ h
          · replace h := (if_neg c76).symm.trans h
            refine Go.aload_n hx hb 2 rfl d_VM_run_79 ?_
            refine Go.iload_n hx hb 1 rfl d_VM_run_80 ?_
            refine Go.iload hx hb 0 rfl d_VM_run_81 ?_
            refine Go.bipush (v := 9) hx hb (by decide) d_VM_run_83 ?_
            refine Go.icmp_ne (tgt := 95) hx hb d_VM_run_85 rfl (fun c85 => ?_) (fun c85 => ?_)
            · replace h := (if_neg c85).symm.trans h
              refine Go.iload hx hb 0 rfl d_VM_run_95 ?_
              obtain ⟨r5, s5, q5, h⟩ := gb_some h
              refine Go.callSl S hK hA (fun sz9 => m_Value_integer l D ad ca N _ sz9 _ r5 s5 q5) (va_cwS 1 hts (gwS k_390 k_391 k_72 k_392) rfl rfl rfl (by decide +kernel) ⟨Nat.le_of_ble_eq_true rfl, Nat.le_of_ble_eq_true rfl⟩) rfl rfl (Nat.le_of_ble_eq_true rfl) ⟨Nat.zero_le _, Nat.zero_le _⟩ d_VM_run_97 ?_
              obtain ⟨_, s6, q6, h⟩ := gb_some h
              refine Go.callVv S hK hA 0 (Xw_0 ad ca _) rfl (fun sz9 => m_VM_goWrong l D ad ca N _ sz9 _ _ _ s6 q6) (cwV 2 hts (gwV k_594 k_596 k_34 k_62 k_597) rfl rfl rfl (by decide +kernel) ⟨Nat.le_of_ble_eq_true rfl, Nat.le_of_ble_eq_true rfl⟩) rfl rfl (Nat.le_of_ble_eq_true rfl) ⟨Nat.zero_le _, Nat.zero_le _⟩ d_VM_run_100 ?_
              refine Go.iinc (v := v2 + 1) (lv' := [(2, .int (v2 + 1)), (4, .int r4), (3, .int (gI s1 8)), (0, .ref (ad 0)), (1, .int v1)]) hx hb 4 rfl rfl (Nat.le_of_ble_eq_true rfl) rfl d_VM_run_103 ?_
              refine Go.goto (tgt := 28) hx hb d_VM_run_106 rfl ?_
              refine Go.sub [3, 4, 0] rfl ?_
              exact ih _ _ _ h
            · replace h := (if_pos c85).symm.trans h
              refine Go.aload_n hx hb 2 rfl d_VM_run_88 ?_
              refine Go.get (v := .long (gL s4 0)) hx hb hts in_VM hown hK 0 (Xw_0 ad ca _) rfl 5 (by decide) (hts _ k_175) (fun _ h9 => h9) rfl d_VM_run_89 ?_
              refine Go.goto (tgt := 100) hx hb d_VM_run_92 rfl ?_
              obtain ⟨_, s7, q7, h⟩ := gb_some h
              refine Go.callVv S hK hA 0 (Xw_0 ad ca _) rfl (fun sz9 => m_VM_goWrong l D ad ca N _ sz9 _ _ _ s7 q7) (cwV 2 hts (gwV k_594 k_596 k_34 k_62 k_597) rfl rfl rfl (by decide +kernel) ⟨Nat.le_of_ble_eq_true rfl, Nat.le_of_ble_eq_true rfl⟩) rfl rfl (Nat.le_of_ble_eq_true rfl) ⟨Nat.zero_le _, Nat.zero_le _⟩ d_VM_run_100 ?_
              refine Go.iinc (v := v2 + 1) (lv' := [(2, .int (v2 + 1)), (4, .int r4), (3, .int (gI s1 8)), (0, .ref (ad 0)), (1, .int v1)]) hx hb 4 rfl rfl (Nat.le_of_ble_eq_true rfl) rfl d_VM_run_103 ?_
              refine Go.goto (tgt := 28) hx hb d_VM_run_106 rfl ?_
              refine Go.sub [3, 4, 0] rfl ?_
              exact ih _ _ _ h
  refine Go.iload_n hx hb 1 rfl d_VM_run_0 ?_
  refine Go.if_lt (tgt := 11) hx hb d_VM_run_1 rfl (fun c1 => ?_) (fun c1 => ?_)
  · replace h := (if_pos c1).symm.trans h
    obtain ⟨sa9, hstr⟩ := hTh.2.2.2.2.2.2.2
    exact Go.throwX hx hb hl0 hml hown hts hK hlk hTh hex hstr k_293 k_71 (Nat.le_of_ble_eq_true rfl) (Nat.le_of_ble_eq_true rfl) (Nat.le_of_ble_eq_true rfl) (Nat.le_of_ble_eq_true rfl) h d_VM_run_11 d_VM_run_14 d_VM_run_15 d_VM_run_17 d_VM_run_20
  · replace h := (if_neg c1).symm.trans h
    refine Go.iload_n hx hb 1 rfl d_VM_run_4 ?_
    refine Go.sipush (v := 20000) hx hb (by decide) d_VM_run_5 ?_
    refine Go.icmp_le (tgt := 21) hx hb d_VM_run_8 rfl (fun c8 => ?_) (fun c8 => ?_)
    · replace h := (if_pos c8).symm.trans h
      refine Go.aload_n hx hb 0 rfl d_VM_run_21 ?_
      refine Go.lconst (v := 0) hx hb (by decide) d_VM_run_22 ?_
      refine Go.put (ty := (.long)) hx hb hts in_VM ty_VM tyok_VM nm_VM hown hK 0 (Xw_0 ad ca _) rfl 6 (by decide) (hts _ k_176) (fun _ h9 => h9) rfl (by decide +kernel) rfl rfl (Nat.le_of_ble_eq_true rfl) (uL st 1 0) (Xs_L1 ad ca _ _) d_VM_run_23 ?_
      refine Go.iconst (v := 0) hx hb (by decide) d_VM_run_26 ?_
      refine Go.istore_n (i := 2) (lv' := [(2, .int 0), (0, .ref (ad 0)), (1, .int a0)]) hx hb rfl (Nat.le_of_ble_eq_true rfl) rfl d_VM_run_27 ?_
      refine Go.sub [1, 2, 0] rfl ?_
      exact L28 N _ _ _ h
    · replace h := (if_neg c8).symm.trans h
      obtain ⟨sa9, hstr⟩ := hTh.2.2.2.2.2.2.2
      exact Go.throwX hx hb hl0 hml hown hts hK hlk hTh hex hstr k_293 k_71 (Nat.le_of_ble_eq_true rfl) (Nat.le_of_ble_eq_true rfl) (Nat.le_of_ble_eq_true rfl) (Nat.le_of_ble_eq_true rfl) h d_VM_run_11 d_VM_run_14 d_VM_run_15 d_VM_run_17 d_VM_run_20
