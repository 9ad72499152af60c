/-! the law: calls on a part of the world -/
section SUBW
variable {σ : Type} {w : σ → va_W} {D : va_G} {cl : List vw_C} {A : Nat → Prop} {H0 : Heap} {nL : Nat} {p : Program} {l : Launch} {e : Env} {R : Room} {s : State} {m : MethodId} {args : Array Value} {below : List Frame} {meth : Method} {c : Code} {cells slots : Nat} {Q : State → Prop}
variable {cc : ByteArray} {pc : Nat} {lv : List (Nat × Value)} {rest : List Value} {st : σ}
theorem Go.sld (hx : p.tables.exec = Jvm.exec) (hb : c.code = cc) {b L : Nat} {xs : Nat → Int32} (hX : va_X b L xs s H0) (hbl : b < H0.size) (hbA : ¬ A b) {i : Int32} (hin : vp_in i L) (hd : decode cc pc = .ok (.iaload, 1)) (k : Go w D cl A H0 nL p l e R s m args below meth c cells slots Q (pc + 1) lv (.int (xs i.toNatClampNeg) :: rest) st) : Go w D cl A H0 nL p l e R s m args below meth c cells slots Q pc lv (.int i :: .ref b :: rest) st := fun H locs ls hl hP hD hS => va_sld hx hb hX hbl hbA hS hin hd (k H locs ls hl hP hD hS)
theorem Go.slen (hx : p.tables.exec = Jvm.exec) (hb : c.code = cc) {b L : Nat} {xs : Nat → Int32} (hX : va_X b L xs s H0) (hbl : b < H0.size) (hbA : ¬ A b) (hd : decode cc pc = .ok (.arraylength, 1)) (k : Go w D cl A H0 nL p l e R s m args below meth c cells slots Q (pc + 1) lv (.int (nI L) :: rest) st) : Go w D cl A H0 nL p l e R s m args below meth c cells slots Q pc lv (.ref b :: rest) st := fun H locs ls hl hP hD hS => va_slen hx hb hX hbl hbA hS hd (k H locs ls hl hP hD hS)
theorem Go.subi {σ' : Type} {w' : σ' → va_W} {tys' : List (ClassId × FieldType)} {st' u' : σ'} {u : σ} {wr : va_W} (isC isR isB : List Nat) {y : MethodName} {bytes : ByteArray} {maxL n index : Nat} {ret : Option FieldType} {ws : List Cond} {rm : Room} {Ts : List Cond} {own : String} {As stk : List Value} {r : Int32} (S : CallFix p m c cc nL s args Ts own) (hKc : va_K D cl tys' s) (hA : ∀ q, H0.size ≤ q → A q) {b ci : Nat} {C : String} {T : u_T} {NN : Nat} (q0 : Nat) {fs : List Value} (hq : (w' st')[q0]? = some (b, .inr (ci, fs))) (hc : cl[ci]? = some (C, T, NN)) (hM : ∀ sz, Met l y ws rm (va_Pc (.ref b :: As) (goPre w' D cl tys' sz st')) (va_Qi (fun r' u9 => r' = r ∧ u9 = u') (goPost w' D cl tys' (va_A (w' st') sz)) (va_A (w' st') sz)) 0 0 (va_A (w' st') sz)) (cw : CallW R s args own C index y bytes maxL ret ws rm 0 0 n) (hC1 : isC.filterMap (fun i => (w st)[i]?) = w' st') (hC : isC.map (fun i => (w st)[i]?) = (w' st').map some) (hCn : va_nd isC = true) (hR : isR.map (fun i => (w st)[i]?) = wr.map some) (hRn : va_nd isR = true) (hdis : ∀ i ∈ isR, i ∉ isC) (hB1 : isB.filterMap (fun i => (wr ++ w' u')[i]?) = w u) (hB2 : isB.map (fun i => (wr ++ w' u')[i]?) = (w u).map some) (hBn : va_nd isB = true) (hn : As.length = n) (hst : stk = As.reverse ++ .ref b :: rest) (h8 : (rest.map fun v => v.category).sum ≤ 8) (hcs : cells ≤ R.cells ∧ slots ≤ R.slots) (hd : decode cc pc = .ok (.invokevirtual index, 3)) (kk : Go w D cl A H0 nL p l e R s m args below meth c cells slots Q (pc + 3) lv (.int r :: rest) u) : Go w D cl A H0 nL p l e R s m args below meth c cells slots Q pc lv stk st := by
  intro H locs ls hl hP hD hS
  have hPc := hP.sub (ws' := w' st') isC hC1
  have hDc := hD.sub (ws' := w' st') isC hCn hC
  have hFc := va_free (wc := w' st') hD hS hA isC hC
  refine va_calli (va_runV S (hM H.size) cw ⟨goBlind, va_recv hKc hPc hc hq, goAt hKc hPc hDc⟩ rfl hn hl.1 hst (lv_room h8) hd hcs) hS (fun q _ h => hFc q h) hFc (fun r' u9 t H1 locs1 ht hvm hp hB hz hk hS1 => ?_)
  obtain ⟨rfl, rfl⟩ := hp
  obtain ⟨hP1, hK1, hD1⟩ := hB
  rw [ht] at hP1
  obtain ⟨hPj, hDj⟩ := va_join (wr := wr) (w1 := w' u9) hP hD isC isR hC hR hRn hdis hk hFc hP1 hD1
  exact kk H1 locs1 ls hl (hPj.sub isB hB1) (hDj.sub isB hBn hB2) hS1
theorem Go.subv {σ' : Type} {w' : σ' → va_W} {tys' : List (ClassId × FieldType)} {st' u' : σ'} {u : σ} {wr : va_W} (isC isR isB : List Nat) {y : MethodName} {bytes : ByteArray} {maxL n index : Nat} {ret : Option FieldType} {ws : List Cond} {rm : Room} {Ts : List Cond} {own : String} {As stk : List Value} (S : CallFix p m c cc nL s args Ts own) (hKc : va_K D cl tys' s) (hA : ∀ q, H0.size ≤ q → A q) {b ci : Nat} {C : String} {T : u_T} {NN : Nat} (q0 : Nat) {fs : List Value} (hq : (w' st')[q0]? = some (b, .inr (ci, fs))) (hc : cl[ci]? = some (C, T, NN)) (hM : ∀ sz, Met l y ws rm (va_Pc (.ref b :: As) (goPre w' D cl tys' sz st')) (va_Qv (fun u9 => u9 = u') (goPost w' D cl tys' (va_A (w' st') sz)) (va_A (w' st') sz)) 0 0 (va_A (w' st') sz)) (cw : CallW R s args own C index y bytes maxL ret ws rm 0 0 n) (hC1 : isC.filterMap (fun i => (w st)[i]?) = w' st') (hC : isC.map (fun i => (w st)[i]?) = (w' st').map some) (hCn : va_nd isC = true) (hR : isR.map (fun i => (w st)[i]?) = wr.map some) (hRn : va_nd isR = true) (hdis : ∀ i ∈ isR, i ∉ isC) (hB1 : isB.filterMap (fun i => (wr ++ w' u')[i]?) = w u) (hB2 : isB.map (fun i => (wr ++ w' u')[i]?) = (w u).map some) (hBn : va_nd isB = true) (hn : As.length = n) (hst : stk = As.reverse ++ .ref b :: rest) (h8 : (rest.map fun v => v.category).sum ≤ 8) (hcs : cells ≤ R.cells ∧ slots ≤ R.slots) (hd : decode cc pc = .ok (.invokevirtual index, 3)) (kk : Go w D cl A H0 nL p l e R s m args below meth c cells slots Q (pc + 3) lv rest u) : Go w D cl A H0 nL p l e R s m args below meth c cells slots Q pc lv stk st := by
  intro H locs ls hl hP hD hS
  have hPc := hP.sub (ws' := w' st') isC hC1
  have hDc := hD.sub (ws' := w' st') isC hCn hC
  have hFc := va_free (wc := w' st') hD hS hA isC hC
  refine va_callv (va_runV S (hM H.size) cw ⟨goBlind, va_recv hKc hPc hc hq, goAt hKc hPc hDc⟩ rfl hn hl.1 hst (lv_room h8) hd hcs) hS (fun q _ h => hFc q h) hFc (fun u9 t H1 locs1 ht hvm hp hB hz hk hS1 => ?_)
  subst hp
  obtain ⟨hP1, hK1, hD1⟩ := hB
  rw [ht] at hP1
  obtain ⟨hPj, hDj⟩ := va_join (wr := wr) (w1 := w' u9) hP hD isC isR hC hR hRn hdis hk hFc hP1 hD1
  exact kk H1 locs1 ls hl (hPj.sub isB hB1) (hDj.sub isB hBn hB2) hS1
theorem Go.lawS {σ' : Type} {w' : σ' → va_W} {tys' : List (ClassId × FieldType)} {st' u' : σ'} {u : σ} {wr : va_W} (isC isR isB : List Nat) {y : MethodName} {bytes : ByteArray} {maxL n index : Nat} {ret : Option FieldType} {hh : List (Nat × Nat × Nat × Nat)} {ws : List Cond} {rm : Room} {Ts : List Cond} {own : String} {As stk : List Value} {r : Int32} (S : CallFix p m c cc nL s args Ts own) (hTh : ThP A s) (hKc : va_K D cl tys' s) (hA : ∀ q, s.heap.size ≤ q → A q) (hM : ∀ sz, Met l y ws rm (va_Pc As (fun U => goPre w' D cl tys' sz st' U ∧ ThP (va_A (w' st') sz) U)) (va_Qi (fun r' u9 => r' = r ∧ u9 = u') (goPost w' D cl tys' (va_A (w' st') sz)) (va_A (w' st') sz)) 1 6 (va_A (w' st') sz)) (cw : vx_CSW R s args own index y bytes maxL ret hh ws rm 1 6 n) (hC1 : isC.filterMap (fun i => (w st)[i]?) = w' st') (hC : isC.map (fun i => (w st)[i]?) = (w' st').map some) (hCn : va_nd isC = true) (hR : isR.map (fun i => (w st)[i]?) = wr.map some) (hRn : va_nd isR = true) (hdis : ∀ i ∈ isR, i ∉ isC) (hB1 : isB.filterMap (fun i => (wr ++ w' u')[i]?) = w u) (hB2 : isB.map (fun i => (wr ++ w' u')[i]?) = (w u).map some) (hBn : va_nd isB = true) (hn : As.length = n) (hst : stk = As.reverse ++ rest) (h8 : (rest.map fun v => v.category).sum ≤ 8) (hcs : cells + 1 ≤ R.cells ∧ slots + 6 ≤ R.slots) (hd : decode cc pc = .ok (.invokestatic index, 3)) (kk : Go w D cl A s.heap nL p l e R s m args below meth c (cells + 1) (slots + 6) Q (pc + 3) lv (.int r :: rest) u) : Go w D cl A s.heap nL p l e R s m args below meth c cells slots Q pc lv stk st := by
  intro H locs ls hl hP hD hS
  have hPc := hP.sub (ws' := w' st') isC hC1
  have hDc := hD.sub (ws' := w' st') isC hCn hC
  have hFc := va_free (wc := w' st') hD hS hA isC hC
  refine va_calli (vx_runSW S (hM H.size) cw ⟨fun a U g mk q => by obtain ⟨q0, ⟨q1, qP, qK, qD⟩, qT⟩ := q; exact ⟨q0, ⟨q1, qP, va_K.moved (u := U) (U := U.calling g mk a) (Vm.Alike.refl U.vm) qK, qD⟩, ThP_calling qT⟩, fun U hU hW => ⟨rfl, ⟨by rw [hU], by rw [hU]; exact hPc, va_K.moved hW.alike hKc, hDc.weaken (fun _ _ _ _ => trivial)⟩, ThP_narrow (ThP_at hTh hS hU hW) (fun q h9 => hFc q h9)⟩⟩ rfl hn hl.1 hst (lv_room h8) hd hcs) hS (fun q _ h => hFc q h) hFc (fun r' u9 t H1 locs1 ht hvm hp hB hz hk hS1 => ?_)
  obtain ⟨rfl, rfl⟩ := hp
  obtain ⟨hP1, hK1, hD1⟩ := hB
  rw [ht] at hP1
  obtain ⟨hPj, hDj⟩ := va_join (wr := wr) (w1 := w' u9) hP hD isC isR hC hR hRn hdis hk hFc hP1 hD1
  exact kk H1 locs1 ls hl (hPj.sub isB hB1) (hDj.sub isB hBn hB2) hS1
end SUBW
def wL (ad : Nat → Nat) (ca : Nat → ClassId) (ad' : Nat → Nat) (ca' : Nat → ClassId) (qo : Nat) (co : ClassId) (t : SG × SG × (Nat → Int64)) : va_W := Xw ad ca t.1 ++ (Rw ad' ca' t.2.1 ++ [(qo, .inl (co, 1, .inr (.inl t.2.2)))])
abbrev tL (ca ca' : Nat → ClassId) (co : ClassId) : List (ClassId × FieldType) := Xtys ca ++ (Rtys ca' ++ [(co, .long)])
/-! THE CLAIM OUT OF ONE WALK OF THE LAW'S BODY. Your part is whole_start (and what it stands on); all else here is the same for every law, but numbers. -/
def R_law : String := "ValueMachineLaw"
def lw_P (b : Addr) (xs : List Int32) (args : Array Value) (s : State) : Prop := args = #[.ref b] ∧ s.IntsAt b xs ∧ xs.length ≤ 1536 ∧ (Jvm.Cond.and given_1 narrow_1).before args s = true
def lw_Q (_ : Array Value) (s : State) (o : Outcome) (t : State) : Prop := o = .returned (some (.int 1)) ∧ Framed s o t [] 1057 11418
def lw_Z (below : List Frame) (a : Array Value) (s : State) : State → Prop := fun t => ∃ o, t.status = .running ∧ Ended t below o ∧ lw_Q a s o t
/-- the law's own end, with 1 on the stack, nothing written that was there before, its room as the claim has it -/
theorem lw_ret {p : Program} {l : Launch} {e : Env} {s : State} {m : MethodId} {below : List Frame} {meth : Method} {c : Code} {b : Nat} (hx : p.tables.exec = Jvm.exec) (hb : c.code = code) (hr : meth.sig.returnType = ret) (hlocks : meth.locks = false) {pc : Nat} {H : Heap} {ls : Array Slot} (hdg : decode code pc = .ok (.ireturn, 1)) : W p l e room_1 s m #[Value.ref b] below meth c H [] 1057 11418 (lw_Z below #[Value.ref b] s) (F0 m pc ls [.int 1]) := by
  intro T hT X
  obtain ⟨fs, hret, hrun, hended, hW, hframe⟩ := X.leave (v := some (.int 1)) (hlocks := hlocks) (fun h => by rw [hr] at h; cases h)
  have hmeth' : T.vm.method? m = some meth := X.method'
  refine ⟨T.setFrames fs, ?_, .returned (some (.int 1)), hrun, hended, rfl, ⟨_, rfl⟩, hW, hframe⟩
  jvm_step X.here [X.here.top, hx, hb, hdg, hmeth', hr, ret, narrow_b1]
  (try refine ⟨rfl, ?_⟩); (try refine ⟨rfl, ?_⟩)
  first | (intro acts; rw [hret _ acts rfl rfl rfl]) | rw [hret _ _ rfl rfl rfl]
  exact Steps.refl _
/-- what holds at the law's entry: the machine, the code, the tables' words (any of lw_tbl by 'hts w (by decide +kernel)'), the script of L ints xs at the cell b, what the Statement gives of the start (any of its parts by flat_of_before) -/
def lw_At (p : Program) (s : State) (m : MethodId) (meth : Method) (c : Code) (b L : Nat) (xs : Nat → Int32) : Prop :=
  p.tables.exec = Jvm.exec ∧ c.code = code ∧ meth.sig.returnType = ret ∧ c.maxLocals = 7 ∧ s.vm.findClass R_law = some m.cls ∧ (∀ w ∈ lw_tbl, w.before #[Value.ref b] s = true) ∧ va_X b L xs s s.heap ∧ b < s.heap.size ∧ meth.locks = false ∧ (Jvm.Cond.and given_1 narrow_1).before #[Value.ref b] s = true
