/-! one step of both machines -/
theorem gb_id (o : Option (Unit × SG)) : gb o (fun _ s => some ((), s)) = o := by
  cases o with
  | none => rfl
  | some q => rfl
theorem gb_eta {α : Type} (o : Option (α × SG)) : gb o (fun r s => some (r, s)) = o := by
  cases o with
  | none => rfl
  | some q => rfl
theorem gb_gb {α β γ : Type} (o : Option (α × SG)) (f : α → SG → Option (β × SG)) (g : β → SG → Option γ) : gb (gb o f) g = gb o (fun r s => gb (f r s) g) := by
  cases o with
  | none => rfl
  | some q => rfl
def xst (N : Nat) (x : SG) (c a : Int32) : Option (Unit × SG) := gb (fX_ValueMachine_perform N (uI x 8 (gI x 8 + 1)) c a) fun f s => if f = 0 then some ((), s) else if f = 9 then gb (fX_ValueMachine_goWrong N s (gI x 8) (gL s 0)) (fun _ s' => some ((), s')) else gb (fX_Value_integer N s f) fun v s5 => gb (fX_ValueMachine_goWrong N s5 (gI x 8) v) (fun _ s6 => some ((), s6))
def StepOK (N : Nat) (x m : SG) (c a : Int32) : Prop := Wp (xst N x c a) fun _ x3 => Wp (fR_ValueMachineModel_step N m) fun _ m3 => Post x m x3 m3
def Pre (N : Nat) (x m : SG) : Prop := 41 ≤ N ∧ RB x m ∧ gI x 7 = 0 ∧ gI m 7 = 0 ∧ gI x 8 = gI m 6 ∧ 0 ≤ (gI m 6).toInt ∧ (gI m 6).toInt < (gI m 1).toInt ∧ ¬ (gI m 6 < 0 ∨ 150 ≤ (gI m 6).toNatClampNeg) ∧ (gI m 6 + 1).toInt = (gI m 6).toInt + 1
theorem fault_ok2 {N : Nat} {x m X2 M2 : SG} {s n : Int32} (hp : Pre N x m) (h : RB X2 M2) (hF : FF x m X2 M2) (h1 : (gI m 1) = (gI M2 1)) (hv : VOk (gI M2 1) (gA M2 8) s n) :
    Wp (fX_ValueMachine_goWrong N X2 (gI m 6) (pk s n)) fun _ x3 => Wp (fR_ValueMachineModel_falls N M2 s n) fun _ m3 => Post x m x3 m3 := by
  obtain ⟨hN, _, _, _, _, p0, p1, _, _⟩ := hp
  have h := fault_ok (a := gI m 6) hN h hF rfl p0 (by rw [← h1]; omega) hv
  rw [gb_id] at h
  exact h
/-- the accumulator gets a value, the next instruction comes -/
theorem acc_ok {N : Nat} {x m : SG} (hp : Pre N x m) {s n : Int32} (hv : VOk (gI m 1) (gA m 8) s n) {d : Int32} (hd : d = gI m 14 + 1) : Post x m (uL (uI x 8 (gI m 6 + 1)) 0 (pk s n)) (uI (uI (uI (uI (uI m 16 0) 14 d) 2 s) 3 n) 6 (gI m 6 + 1)) := by
  obtain ⟨_, ⟨hC, hA, hS, hG, hNo, hT, hK, e5, e6, e10⟩, q1, q2, q3, q4, q5, q6, q7⟩ := hp
  subst hd
  exact ⟨⟨hC, ⟨rfl, hv⟩, hS, hG, hNo, hT, hK, e5, e6, e10⟩, ⟨rfl, by show 0 ≤ (gI m 6 + 1).toInt; omega, by show (gI m 6 + 1).toInt ≤ (gI m 1).toInt; omega⟩, ⟨q1.trans q2.symm, Or.inl q2⟩, rfl, rfl, rfl, rfl, rfl, rfl⟩
/-- a place counted from the top -/
theorem deep_ok {sz : Int32} {ts : Nat → Int32} {xh : Int32} {xv : Nat → Int64} {h : Int32} {ss sn : Nat → Int32} (hS : SP sz ts xh xv h ss sn) {a : Int32} (b1 : ¬ a < 0) (b2 : ¬ h ≤ a) : ¬ (h - 1 - a < 0 ∨ 120 ≤ (h - 1 - a).toNatClampNeg) ∧ xv (h - 1 - a).toNatClampNeg = pk (ss (h - 1 - a).toNatClampNeg) (sn (h - 1 - a).toNatClampNeg) ∧ VOk sz ts (ss (h - 1 - a).toNatClampNeg) (sn (h - 1 - a).toNatClampNeg) ∧ (((h - 1 - a).toNatClampNeg : Nat) : Int) < h.toInt := by
  obtain ⟨s1, s2, s3, s4⟩ := hS
  rw [ti_lt, show (0 : Int32).toInt = 0 from rfl] at b1
  rw [ti_le] at b2
  have h1 : (1 : Int32).toInt = 1 := rfl
  have e1 : (h - 1).toInt = h.toInt - 1 := by rw [ti_sub (by omega) (by omega), h1]
  have e2 : (h - 1 - a).toInt = h.toInt - 1 - a.toInt := by rw [ti_sub (by omega) (by omega), e1]
  have e3 : (((h - 1 - a).toNatClampNeg : Nat) : Int) < h.toInt := by rw [ti_cl, e2]; omega
  exact ⟨ti_in (by omega) (by omega), (s4 _ e3).1, (s4 _ e3).2, e3⟩
theorem glob_ok {sz : Int32} {ts : Nat → Int32} {xg : Nat → Int64} {gs gn : Nat → Int32} (hG : GP sz ts xg gs gn) {a : Int32} (b1 : ¬ a < 0) (b2 : ¬ 8 ≤ a) : ¬ 8 ≤ a.toNatClampNeg ∧ xg a.toNatClampNeg = pk (gs a.toNatClampNeg) (gn a.toNatClampNeg) ∧ VOk sz ts (gs a.toNatClampNeg) (gn a.toNatClampNeg) := by
  rw [ti_lt, show (0 : Int32).toInt = 0 from rfl] at b1
  rw [ti_le, show (8 : Int32).toInt = 8 from rfl] at b2
  have e : a.toNatClampNeg < 8 := by rw [ti_cl]; omega
  exact ⟨by omega, (hG _ e).1, (hG _ e).2⟩

theorem adv {N : Nat} {x m : SG} (hp : Pre N x m) : gI m 6 + 1 = gI m 6 + 1 ∧ 0 ≤ (gI m 6 + 1).toInt ∧ (gI m 6 + 1).toInt ≤ (gI m 1).toInt := by
  obtain ⟨_, _, q1, q2, q3, q4, q5, q6, q7⟩ := hp
  exact ⟨rfl, by omega, by omega⟩
/-- what is known of a thing -/
theorem thing_ok {sz : Int32} {xz xt : Nat → Int32} {xn : Int32} {ts tz : Nat → Int32} (hT : TP xz xt xn ts tz) {s n : Int32} (hv : VOk sz ts s n) (hs : s = 4 ∨ s = 5) : ¬ n < 0 ∧ ¬ 30 ≤ n.toNatClampNeg ∧ ¬ ts n.toNatClampNeg = 0 ∧ xz n.toNatClampNeg = tz n.toNatClampNeg ∧ 0 ≤ (tz n.toNatClampNeg).toInt ∧ (tz n.toNatClampNeg).toInt ≤ 20 ∧ (s = 4 → tz n.toNatClampNeg = 16) ∧ 0 ≤ n.toInt ∧ n.toInt < 30 := by
  obtain ⟨h0, h1, h2⟩ := VOk_thing hv hs
  have hc : n.toNatClampNeg < 30 := by rw [ti_cl]; omega
  have hne : ¬ ts n.toNatClampNeg = 0 := by
    rw [h2]
    rcases hs with hs | hs <;> rw [hs] <;> decide
  obtain ⟨_, ht⟩ := hT.2 _ hc
  rcases ht with ht | ⟨ht, hz⟩
  · exact absurd ht hne
  · refine ⟨by rw [ti_lt]; exact Int.not_lt.mpr h0, by omega, hne, hz, ?_, ?_, ?_, h0, h1⟩
    · rcases ht with ⟨_, ht⟩ | ⟨_, ht, _⟩
      · rw [ht]; decide
      · exact ht
    · rcases ht with ⟨_, ht⟩ | ⟨_, _, ht⟩
      · rw [ht]; decide
      · exact ht
    · intro h4
      rcases ht with ⟨_, ht⟩ | ⟨h5, _⟩
      · exact ht
      · rw [h2, h4] at h5; exact absurd h5 (by decide)
/-- .. and of a part of it -/
theorem part_ok {sz : Int32} {ts tz : Nat → Int32} {xp : Nat → Int64} {cs cn : Nat → Int32} (hK : KP sz ts tz xp cs cn) {n a : Int32} (h0 : 0 ≤ n.toInt) (h1 : n.toInt < 30) (hts : ¬ ts n.toNatClampNeg = 0) (hz : (tz n.toNatClampNeg).toInt ≤ 20) (b1 : ¬ a < 0) (b2 : ¬ tz n.toNatClampNeg ≤ a) : ¬ n * 20 + a < 0 ∧ ¬ 20 * n + a < 0 ∧ ¬ 600 ≤ 20 * n.toNatClampNeg + a.toNatClampNeg ∧ (n * 20 + a).toNatClampNeg = 20 * n.toNatClampNeg + a.toNatClampNeg ∧ (20 * n + a).toNatClampNeg = 20 * n.toNatClampNeg + a.toNatClampNeg ∧ xp (20 * n.toNatClampNeg + a.toNatClampNeg) = pk (cs (20 * n.toNatClampNeg + a.toNatClampNeg)) (cn (20 * n.toNatClampNeg + a.toNatClampNeg)) ∧ VOk sz ts (cs (20 * n.toNatClampNeg + a.toNatClampNeg)) (cn (20 * n.toNatClampNeg + a.toNatClampNeg)) ∧ a.toNatClampNeg < 20 := by
  rw [ti_lt, show (0 : Int32).toInt = 0 from rfl] at b1
  rw [ti_le] at b2
  obtain ⟨u1, u2, u3⟩ := pl_m (t := n) (k := a) h0 h1 (by omega) (by omega) (Or.inl rfl)
  obtain ⟨w1, w2, w3⟩ := pl_m (t := n) (k := a) h0 h1 (by omega) (by omega) (Or.inr rfl)
  have hv := hK n.toNatClampNeg (by rw [ti_cl]; omega) hts a.toNatClampNeg (by rw [ti_cl]; omega)
  exact ⟨fun z => w3 (Or.inl z), fun z => u3 (Or.inl z), fun z => u3 (Or.inr (by rw [u2]; exact z)), w2, u2, hv.1, hv.2, by rw [ti_cl]; omega⟩
/-- the stack: a value in its place, one more, some fewer -/
theorem sset_ok {sz : Int32} {ts : Nat → Int32} {xh : Int32} {xv : Nat → Int64} {h : Int32} {ss sn : Nat → Int32} (hS : SP sz ts xh xv h ss sn) (i : Nat) {s n : Int32} (hv : VOk sz ts s n) : SP sz ts xh (vp_updL xv i (pk s n)) h (upd ss i s) (upd sn i n) := by
  obtain ⟨s1, s2, s3, s4⟩ := hS
  refine ⟨s1, s2, s3, fun k hk => ?_⟩
  by_cases e : k = i
  · rw [e, pk_uLs, pk_us, pk_us]; exact ⟨rfl, hv⟩
  · rw [pk_uLn e, pk_un e, pk_un e]; exact s4 k hk
theorem spush_ok {sz : Int32} {ts : Nat → Int32} {xh : Int32} {xv : Nat → Int64} {h : Int32} {ss sn : Nat → Int32} (hS : SP sz ts xh xv h ss sn) {s n : Int32} (hv : VOk sz ts s n) (hb : h < 120) : SP sz ts (h + 1) (vp_updL xv h.toNatClampNeg (pk s n)) (h + 1) (upd ss h.toNatClampNeg s) (upd sn h.toNatClampNeg n) := by
  obtain ⟨s1, s2, s3, s4⟩ := hS
  rw [ti_lt, show (120 : Int32).toInt = 120 from rfl] at hb
  have h1 : (1 : Int32).toInt = 1 := rfl
  have e1 : (h + 1).toInt = h.toInt + 1 := by rw [ti_add (by omega) (by omega), h1]
  refine ⟨rfl, by omega, by omega, fun k hk => ?_⟩
  by_cases e : k = h.toNatClampNeg
  · rw [e, pk_uLs, pk_us, pk_us]; exact ⟨rfl, hv⟩
  · rw [pk_uLn e, pk_un e, pk_un e]; exact s4 k (by rw [ti_cl] at e; omega)
theorem spop_ok {sz : Int32} {ts : Nat → Int32} {xh : Int32} {xv : Nat → Int64} {h : Int32} {ss sn : Nat → Int32} (hS : SP sz ts xh xv h ss sn) {a : Int32} (b1 : ¬ a < 0) (b2 : ¬ h < a) : SP sz ts (h - a) xv (h - a) ss sn := by
  obtain ⟨s1, s2, s3, s4⟩ := hS
  rw [ti_lt, show (0 : Int32).toInt = 0 from rfl] at b1
  rw [ti_lt] at b2
  have e1 : (h - a).toInt = h.toInt - a.toInt := ti_sub (by omega) (by omega)
  exact ⟨rfl, by omega, by omega, fun k hk => s4 k (by omega)⟩
theorem gset_ok {sz : Int32} {ts : Nat → Int32} {xg : Nat → Int64} {gs gn : Nat → Int32} (hG : GP sz ts xg gs gn) (i : Nat) {s n : Int32} (hv : VOk sz ts s n) : GP sz ts (vp_updL xg i (pk s n)) (upd gs i s) (upd gn i n) := by
  intro k hk
  by_cases e : k = i
  · rw [e, pk_uLs, pk_us, pk_us]; exact ⟨rfl, hv⟩
  · rw [pk_uLn e, pk_un e, pk_un e]; exact hG k hk
theorem kset_ok {sz : Int32} {ts tz : Nat → Int32} {xp : Nat → Int64} {cs cn : Nat → Int32} (hK : KP sz ts tz xp cs cn) (i : Nat) {s n : Int32} (hv : VOk sz ts s n) : KP sz ts tz (vp_updL xp i (pk s n)) (upd cs i s) (upd cn i n) := by
  intro t ht hz k hk
  by_cases e : 20 * t + k = i
  · rw [e, pk_uLs, pk_us, pk_us]; exact ⟨rfl, hv⟩
  · rw [pk_uLn e, pk_un e, pk_un e]; exact hK t ht hz k hk
/-- the notes: one more, one fewer -/
theorem nadd_ok {sz xs : Int32} {xp xh : Nat → Int32} {n : Int32} {np nh : Nat → Int32} (h : NP sz xs xp xh n np nh) (hb : n < 40) {a b : Int32} (ha : 0 ≤ a.toInt) (ha' : a.toInt ≤ sz.toInt) (hb' : b = -1 ∨ 0 ≤ b.toInt) : NP sz (n + 1) (upd xp n.toNatClampNeg a) (upd xh n.toNatClampNeg b) (n + 1) (upd np n.toNatClampNeg a) (upd nh n.toNatClampNeg b) := by
  obtain ⟨n1, n2, n3, n4⟩ := h
  rw [ti_lt, show (40 : Int32).toInt = 40 from rfl] at hb
  have h1 : (1 : Int32).toInt = 1 := rfl
  have e1 : (n + 1).toInt = n.toInt + 1 := by rw [ti_add (by omega) (by omega), h1]
  refine ⟨rfl, by omega, by omega, fun k hk => ?_⟩
  by_cases e : k = n.toNatClampNeg
  · rw [e, pk_us, pk_us, pk_us, pk_us]; exact ⟨rfl, rfl, ha, ha', hb'⟩
  · rw [pk_un e, pk_un e, pk_un e, pk_un e]; exact n4 k (by rw [ti_cl] at e; omega)
theorem nlast_ok {sz xs : Int32} {xp xh : Nat → Int32} {n : Int32} {np nh : Nat → Int32} (h : NP sz xs xp xh n np nh) (hb : ¬ n ≤ 0) : ¬ (n - 1 < 0 ∨ 40 ≤ (n - 1).toNatClampNeg) ∧ xp (n - 1).toNatClampNeg = np (n - 1).toNatClampNeg ∧ xh (n - 1).toNatClampNeg = nh (n - 1).toNatClampNeg ∧ 0 ≤ (np (n - 1).toNatClampNeg).toInt ∧ (np (n - 1).toNatClampNeg).toInt ≤ sz.toInt ∧ NP sz (n - 1) xp xh (n - 1) np nh := by
  obtain ⟨n1, n2, n3, n4⟩ := h
  rw [ti_le, show (0 : Int32).toInt = 0 from rfl] at hb
  have h1 : (1 : Int32).toInt = 1 := rfl
  have e1 : (n - 1).toInt = n.toInt - 1 := by rw [ti_sub (by omega) (by omega), h1]
  obtain ⟨w1, w2, w3, w4, _⟩ := n4 (n - 1).toNatClampNeg (by rw [ti_cl]; omega)
  exact ⟨ti_in (by omega) (by omega), w1, w2, w3, w4, rfl, by omega, by omega, fun k hk => n4 k (by omega)⟩
theorem div8 {a : Int32} (h : 0 ≤ a.toInt) : (a / 8).toInt = a.toInt / 8 := by
  have h8 : (8 : Int32).toInt = 8 := rfl
  rw [Int32.toInt_div_of_ne_right a 8 (by decide), h8, Int.tdiv_eq_ediv_of_nonneg h]
theorem rem_m2 (a : Int32) : a - -a * -1 = 0 := by
  rw [← div_m1 a, rem_m1]
