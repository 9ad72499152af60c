/-! the other calls -/
theorem code_ok {N : Nat} {x m : SG} (h : Rel x m) (a b : Int32) : ∃ (ro : Option Int32) (r : Int32) (x' m' : SG), fX_ValueMachine_code N x a b = some (ro, x') ∧ fR_ValueMachineModel_code N m a b = some (r, m') ∧ Rel x' m' ∧ ((ro = none ∧ gI m' 0 = 1) ∨ (ro = some r ∧ gI m' 0 = 0)) := by
  obtain ⟨⟨⟨c1, c2, c3, c4⟩, ⟨a1, a2⟩, ⟨s1, s2, s3, s4⟩, hG, ⟨n1, n2, n3, n4⟩, hT, hK, e5, e6, e10⟩, ⟨l1, l2⟩, ⟨o1, o2⟩, ⟨p1, p2, p3⟩, hd⟩ := h
  by_cases b1 : a < 0
  · refine ⟨none, 0, x, uI m 0 1, ?_, ?_, ⟨⟨⟨c1, c2, c3, c4⟩, ⟨a1, a2⟩, ⟨s1, s2, s3, s4⟩, hG, ⟨n1, n2, n3, n4⟩, hT, hK, e5, e6, e10⟩, ⟨l1, l2⟩, ⟨o1, o2⟩, ⟨p1, p2, p3⟩, hd⟩, Or.inl ⟨rfl, rfl⟩⟩
    · unfold fX_ValueMachine_code; rw [if_pos b1]
    · unfold fR_ValueMachineModel_code; rw [if_pos b1]
  · by_cases b2 : a ≤ 34
    · by_cases b3 : gI m 1 < 150
      · have b3' : ¬ gI m 1 = 150 := fun e => by rw [e] at b3; exact absurd b3 (by decide)
        rw [ti_lt, show (150 : Int32).toInt = 150 from rfl] at b3
        have i1 := ti_in (i := gI m 1) (n := 150) c2 (by omega)
        have h1 : (1 : Int32).toInt = 1 := rfl
        have es : (gI m 1 + 1).toInt = (gI m 1).toInt + 1 := by rw [ti_add (by omega) (by omega), h1]
        have hle : (gI m 1).toInt ≤ (gI m 1 + 1).toInt := by omega
        have b1' := b1
        have b2' := b2
        rw [ti_lt, show (0 : Int32).toInt = 0 from rfl] at b1'
        rw [ti_le, show (34 : Int32).toInt = 34 from rfl] at b2'
        refine ⟨some (gI m 1 + 1), gI m 1 + 1, uI (uA (uA x 0 (upd (gA x 0) (gI m 1).toNatClampNeg a)) 1 (upd (gA x 1) (gI m 1).toNatClampNeg b)) 0 (gI m 1 + 1), uI (uA (uA (uI m 0 0) 0 (upd (gA m 0) (gI m 1).toNatClampNeg a)) 1 (upd (gA m 1) (gI m 1).toNatClampNeg b)) 1 (gI m 1 + 1), ?_, ?_, ⟨⟨⟨rfl, by show 0 ≤ (gI m 1 + 1).toInt; omega, by show (gI m 1 + 1).toInt ≤ 150; omega, fun k hk => ?_⟩, ⟨a1, VOk_sz a2 hle⟩, ⟨s1, s2, s3, fun k hk => ⟨(s4 k hk).1, VOk_sz (s4 k hk).2 hle⟩⟩, fun k hk => ⟨(hG k hk).1, VOk_sz (hG k hk).2 hle⟩, ⟨n1, n2, n3, fun k hk => ?_⟩, hT, fun t ht hz k hk => ⟨(hK t ht hz k hk).1, VOk_sz (hK t ht hz k hk).2 hle⟩, e5, e6, e10⟩, ⟨l1, VOk_sz l2 hle⟩, ⟨o1, o2.imp id (fun w => ⟨w.1, w.2.1, VOk_sz w.2.2 hle⟩)⟩, ⟨p1, p2, by show (gI m 6).toInt ≤ (gI m 1 + 1).toInt; omega⟩, hd⟩, Or.inr ⟨rfl, rfl⟩⟩
        · unfold fX_ValueMachine_code fX_Code_append
          rw [if_neg b1, if_pos b2, c1, if_pos (by rw [ti_lt]; exact b3), if_neg i1, if_neg i1, gb_ok, if_neg (by decide : ¬ (1 : Int32) = 0)]
          rfl
        · unfold fR_ValueMachineModel_code
          rw [if_neg b1, if_pos b2, if_neg b3', if_neg i1, if_neg i1]
        · have hk : (k : Int) < (gI m 1 + 1).toInt := hk
          show upd (gA x 0) (gI m 1).toNatClampNeg a k = upd (gA m 0) (gI m 1).toNatClampNeg a k ∧ upd (gA x 1) (gI m 1).toNatClampNeg b k = upd (gA m 1) (gI m 1).toNatClampNeg b k ∧ 0 ≤ (upd (gA m 0) (gI m 1).toNatClampNeg a k).toInt ∧ (upd (gA m 0) (gI m 1).toNatClampNeg a k).toInt ≤ 34
          by_cases e : k = (gI m 1).toNatClampNeg
          · rw [e, pk_us, pk_us, pk_us, pk_us]
            exact ⟨rfl, rfl, by omega, b2'⟩
          · rw [pk_un e, pk_un e, pk_un e, pk_un e]
            rw [ti_cl] at e
            exact c4 k (by omega)
        · obtain ⟨w1, w2, w3, w4, w5⟩ := n4 k hk
          exact ⟨w1, w2, w3, by show (gA m 6 k).toInt ≤ (gI m 1 + 1).toInt; omega, w5⟩
      · have b4 : gI m 1 = 150 := by
          rw [ti_lt, show (150 : Int32).toInt = 150 from rfl] at b3
          rw [ti_eq, show (150 : Int32).toInt = 150 from rfl]; omega
        refine ⟨some (-1), -1, x, uI m 0 0, ?_, ?_, ⟨⟨⟨c1, c2, c3, c4⟩, ⟨a1, a2⟩, ⟨s1, s2, s3, s4⟩, hG, ⟨n1, n2, n3, n4⟩, hT, hK, e5, e6, e10⟩, ⟨l1, l2⟩, ⟨o1, o2⟩, ⟨p1, p2, p3⟩, hd⟩, Or.inr ⟨rfl, rfl⟩⟩
        · unfold fX_ValueMachine_code fX_Code_append
          rw [if_neg b1, if_pos b2, c1, if_neg b3, gb_ok, if_pos rfl]
        · unfold fR_ValueMachineModel_code
          rw [if_neg b1, if_pos b2, if_pos b4]
    · refine ⟨none, 0, x, uI m 0 1, ?_, ?_, ⟨⟨⟨c1, c2, c3, c4⟩, ⟨a1, a2⟩, ⟨s1, s2, s3, s4⟩, hG, ⟨n1, n2, n3, n4⟩, hT, hK, e5, e6, e10⟩, ⟨l1, l2⟩, ⟨o1, o2⟩, ⟨p1, p2, p3⟩, hd⟩, Or.inl ⟨rfl, rfl⟩⟩
      · unfold fX_ValueMachine_code; rw [if_neg b1, if_neg b2]
      · unfold fR_ValueMachineModel_code; rw [if_neg b1, if_neg b2]
/-! clear and reset -/
theorem xe_L {N : Nat} {st : SG} : ∀ (d k fuel : Nat) (f : Nat → Int32), k + d = 30 → d < fuel → (∀ j, j < k → f j = 0) → ∃ f' : Nat → Int32, (∀ j, j < 30 → f' j = 0) ∧ fX_Store_empty_L2 N fuel (nI k) (uA st 5 f) = some ((), uI (uI (uI (uA st 5 f') 4 0) 5 0) 6 0) := by
  intro d
  induction d with
  | zero =>
    intro k fuel f hk hf hz
    obtain ⟨n, rfl⟩ : ∃ n, fuel = n + 1 := ⟨fuel - 1, by omega⟩
    have e : k = 30 := by omega
    subst e
    refine ⟨f, hz, ?_⟩
    unfold fX_Store_empty_L2
    rw [if_pos (show (30 : Int32) ≤ nI 30 from by decide)]
  | succ d ih =>
    intro k fuel f hk hf hz
    obtain ⟨n, rfl⟩ : ∃ n, fuel = n + 1 := ⟨fuel - 1, by omega⟩
    obtain ⟨f', h1, h2⟩ := ih (k + 1) n (upd f k 0) (by omega) (by omega) (fun j hj => by
      by_cases e : j = k
      · rw [e, pk_us]
      · rw [pk_un e]; exact hz j (by omega))
    refine ⟨f', h1, ?_⟩
    unfold fX_Store_empty_L2
    rw [if_neg (lit_ge (L := 30) (k := k) (n := 30) rfl (by omega) (by decide)), if_neg (nI_in (by omega) (by omega)), nI_clamp (by omega), nI_1, vn_0, uA_uA]
    exact h2
theorem xb_L {N : Nat} {st : SG} : ∀ (d k fuel : Nat) (p : Nat → Int64), k + d = 8 → d < fuel → (∀ j, j < k → p j = 0) → ∃ p' : Nat → Int64, (∀ j, j < 8 → p' j = 0) ∧ fX_ValueMachine_begin_L25 N fuel (nI k) (uB st 2 p) = some ((), uI (uI (uI (uI (uL (uL (uL (uB st 2 p') 0 0) 1 0) 2 0) 7 0) 8 0) 9 0) 10 0) := by
  intro d
  induction d with
  | zero =>
    intro k fuel f hk hf hz
    obtain ⟨n, rfl⟩ : ∃ n, fuel = n + 1 := ⟨fuel - 1, by omega⟩
    have e : k = 8 := by omega
    subst e
    refine ⟨f, hz, ?_⟩
    unfold fX_ValueMachine_begin_L25
    rw [if_pos (show (8 : Int32) ≤ nI 8 from by decide)]
  | succ d ih =>
    intro k fuel f hk hf hz
    obtain ⟨n, rfl⟩ : ∃ n, fuel = n + 1 := ⟨fuel - 1, by omega⟩
    obtain ⟨f', h1, h2⟩ := ih (k + 1) n (vp_updL f k 0) (by omega) (by omega) (fun j hj => by
      by_cases e : j = k
      · rw [e, pk_uLs]
      · rw [pk_uLn e]; exact hz j (by omega))
    refine ⟨f', h1, ?_⟩
    unfold fX_ValueMachine_begin_L25
    rw [if_neg (lit_ge (L := 8) (k := k) (n := 8) rfl (by omega) (by decide)), if_neg (nI_in (by omega) (by omega)), nI_clamp (by omega), nI_1, uB_uB]
    exact h2
theorem m55 {N : Nat} {st : SG} : ∀ (d k fuel : Nat) (f : Nat → Int32), k + d = 30 → d < fuel → (∀ j, j < k → f j = 0) → ∃ f' : Nat → Int32, (∀ j, j < 30 → f' j = 0) ∧ fR_ValueMachineModel_reset_L55 N fuel (nI k) (uA st 8 f) = some ((), uI (uI (uI (uI (uI (uI (uI (uI (uA st 8 f') 6 0) 7 0) 10 0) 11 0) 12 0) 13 0) 14 0) 15 0) := by
  intro d
  induction d with
  | zero =>
    intro k fuel f hk hf hz
    obtain ⟨n, rfl⟩ : ∃ n, fuel = n + 1 := ⟨fuel - 1, by omega⟩
    have e : k = 30 := by omega
    subst e
    refine ⟨f, hz, ?_⟩
    unfold fR_ValueMachineModel_reset_L55
    rw [if_pos (show (30 : Int32) ≤ nI 30 from by decide)]
  | succ d ih =>
    intro k fuel f hk hf hz
    obtain ⟨n, rfl⟩ : ∃ n, fuel = n + 1 := ⟨fuel - 1, by omega⟩
    obtain ⟨f', h1, h2⟩ := ih (k + 1) n (upd f k 0) (by omega) (by omega) (fun j hj => by
      by_cases e : j = k
      · rw [e, pk_us]
      · rw [pk_un e]; exact hz j (by omega))
    refine ⟨f', h1, ?_⟩
    unfold fR_ValueMachineModel_reset_L55
    rw [if_neg (lit_ge (L := 30) (k := k) (n := 30) rfl (by omega) (by decide)), if_neg (nI_in (by omega) (by omega)), nI_clamp (by omega), nI_1, uA_uA]
    exact h2
theorem uA2 (st : SG) (p q p' q' : Nat → Int32) : uA (uA (uA (uA st 4 p) 5 q) 4 p') 5 q' = uA (uA st 4 p') 5 q' := by
  have h : va_up (va_up (va_up (va_up st.2.2.1 4 p) 5 q) 4 p') 5 q' = va_up (va_up st.2.2.1 4 p') 5 q' := by
    funext j
    unfold va_up
    by_cases e : j = 5
    · rw [if_pos e, if_pos e]
    · rw [if_neg e, if_neg e, if_neg e]
      by_cases e6 : j = 4
      · rw [if_pos e6, if_pos e6]
      · rw [if_neg e6, if_neg e6, if_neg e6]
  show (st.1, st.2.1, va_up (va_up (va_up (va_up st.2.2.1 4 p) 5 q) 4 p') 5 q', st.2.2.2) = (st.1, st.2.1, va_up (va_up st.2.2.1 4 p') 5 q', st.2.2.2)
  rw [h]
theorem m27 {N : Nat} {st : SG} : ∀ (d k fuel : Nat) (p q : Nat → Int32), k + d = 8 → d < fuel → (∀ j, j < k → p j = 0 ∧ q j = 0) → ∃ p' q' : Nat → Int32, (∀ j, j < 8 → p' j = 0 ∧ q' j = 0) ∧ fR_ValueMachineModel_reset_L27 N fuel (nI k) (uA (uA st 4 p) 5 q) = fR_ValueMachineModel_reset_L55 N N 0 (uA (uA st 4 p') 5 q') := by
  intro d
  induction d with
  | zero =>
    intro k fuel p q hk hf hz
    obtain ⟨n, rfl⟩ : ∃ n, fuel = n + 1 := ⟨fuel - 1, by omega⟩
    have e : k = 8 := by omega
    subst e
    refine ⟨p, q, hz, ?_⟩
    unfold fR_ValueMachineModel_reset_L27
    rw [if_pos (show (8 : Int32) ≤ nI 8 from by decide)]
  | succ d ih =>
    intro k fuel p q hk hf hz
    obtain ⟨n, rfl⟩ : ∃ n, fuel = n + 1 := ⟨fuel - 1, by omega⟩
    obtain ⟨p', q', h1, h2⟩ := ih (k + 1) n (upd p k 0) (upd q k 0) (by omega) (by omega) (fun j hj => by
      by_cases e : j = k
      · rw [e, pk_us, pk_us]; exact ⟨rfl, rfl⟩
      · rw [pk_un e, pk_un e]; exact hz j (by omega))
    refine ⟨p', q', h1, ?_⟩
    unfold fR_ValueMachineModel_reset_L27
    rw [if_neg (lit_ge (L := 8) (k := k) (n := 8) rfl (by omega) (by decide)), if_neg (nI_in (by omega) (by omega)), if_neg (nI_in (by omega) (by omega)), nI_clamp (by omega), nI_1, show gA (uA (uA st 4 p) 5 q) 4 = p from rfl, show gA (uA (uA st 4 p) 5 q) 5 = q from rfl, uA2]
    exact h2
def BX (x : SG) (f : Nat → Int32) (p : Nat → Int64) : SG := uI (uI (uI (uI (uL (uL (uL (uB (uI (uI (uI (uA (uI (uI x 1 0) 2 0) 5 f) 4 0) 5 0) 6 0) 2 p) 0 0) 1 0) 2 0) 7 0) 8 0) 9 0) 10 0
def BM (m : SG) (p q f : Nat → Int32) : SG := uI (uI (uI (uI (uI (uI (uI (uI (uA (uA (uA (uI (uI (uI (uI (uI m 0 0) 2 0) 3 0) 4 0) 5 0) 4 p) 5 q) 8 f) 6 0) 7 0) 10 0) 11 0) 12 0) 13 0) 14 0) 15 0
theorem uB_self (s : SG) (k : Nat) : uB s k (gB s k) = s := by
  have h : va_up s.2.2.2 k (s.2.2.2 k) = s.2.2.2 := by
    funext j
    unfold va_up
    by_cases e : j = k
    · rw [if_pos e, e]
    · rw [if_neg e]
  show (s.1, s.2.1, s.2.2.1, va_up s.2.2.2 k (s.2.2.2 k)) = s
  rw [h]
theorem begin_eq {N : Nat} (hN : 200 ≤ N) (x : SG) : ∃ (f : Nat → Int32) (p : Nat → Int64), (∀ j, j < 30 → f j = 0) ∧ (∀ j, j < 8 → p j = 0) ∧ fX_ValueMachine_begin N x = some ((), BX x f p) := by
  obtain ⟨f, h1, h2⟩ := xe_L (N := N) (st := uI (uI x 1 0) 2 0) 30 0 N (gA x 5) (by omega) (by omega) (fun j hj => by omega)
  have hU : uA (uI (uI x 1 0) 2 0) 5 (gA x 5) = uI (uI x 1 0) 2 0 := uA_self (uI (uI x 1 0) 2 0) 5
  rw [hU, nI_0] at h2
  obtain ⟨p, g1, g2⟩ := xb_L (N := N) (st := uI (uI (uI (uA (uI (uI x 1 0) 2 0) 5 f) 4 0) 5 0) 6 0) 8 0 N (gB x 2) (by omega) (by omega) (fun j hj => by omega)
  have hV : uB (uI (uI (uI (uA (uI (uI x 1 0) 2 0) 5 f) 4 0) 5 0) 6 0) 2 (gB x 2) = uI (uI (uI (uA (uI (uI x 1 0) 2 0) 5 f) 4 0) 5 0) 6 0 := uB_self (uI (uI (uI (uA (uI (uI x 1 0) 2 0) 5 f) 4 0) 5 0) 6 0) 2
  rw [hV, nI_0] at g2
  refine ⟨f, p, h1, g1, ?_⟩
  unfold fX_ValueMachine_begin fX_Store_empty
  rw [h2, gb_ok, g2]
  rfl
theorem mreset_eq {N : Nat} (hN : 200 ≤ N) (m : SG) : ∃ p q f : Nat → Int32, (∀ j, j < 8 → p j = 0 ∧ q j = 0) ∧ (∀ j, j < 30 → f j = 0) ∧ fR_ValueMachineModel_reset N m = some ((), BM m p q f) := by
  obtain ⟨p, q, h1, h2⟩ := m27 (N := N) (st := uI (uI (uI (uI (uI m 0 0) 2 0) 3 0) 4 0) 5 0) 8 0 N (gA m 4) (gA m 5) (by omega) (by omega) (fun j hj => by omega)
  have hU : uA (uA (uI (uI (uI (uI (uI m 0 0) 2 0) 3 0) 4 0) 5 0) 4 (gA m 4)) 5 (gA m 5) = uI (uI (uI (uI (uI m 0 0) 2 0) 3 0) 4 0) 5 0 := by
    have w1 : uA (uI (uI (uI (uI (uI m 0 0) 2 0) 3 0) 4 0) 5 0) 4 (gA m 4) = uI (uI (uI (uI (uI m 0 0) 2 0) 3 0) 4 0) 5 0 := uA_self (uI (uI (uI (uI (uI m 0 0) 2 0) 3 0) 4 0) 5 0) 4
    rw [w1]
    exact uA_self (uI (uI (uI (uI (uI m 0 0) 2 0) 3 0) 4 0) 5 0) 5
  rw [hU, nI_0] at h2
  obtain ⟨f, g1, g2⟩ := m55 (N := N) (st := uA (uA (uI (uI (uI (uI (uI m 0 0) 2 0) 3 0) 4 0) 5 0) 4 p) 5 q) 30 0 N (gA m 8) (by omega) (by omega) (fun j hj => by omega)
  have hV : uA (uA (uA (uI (uI (uI (uI (uI m 0 0) 2 0) 3 0) 4 0) 5 0) 4 p) 5 q) 8 (gA m 8) = uA (uA (uI (uI (uI (uI (uI m 0 0) 2 0) 3 0) 4 0) 5 0) 4 p) 5 q := uA_self (uA (uA (uI (uI (uI (uI (uI m 0 0) 2 0) 3 0) 4 0) 5 0) 4 p) 5 q) 8
  rw [hV, nI_0] at g2
  refine ⟨p, q, f, h1, g1, ?_⟩
  unfold fR_ValueMachineModel_reset
  rw [h2, g2]
  rfl
theorem fresh_ok {sz : Int32} (h0 : 0 ≤ sz.toInt) {ci cx ci' cx' : Nat → Int32} {xz : Int32} (hC : CP xz ci cx sz ci' cx') {x m : SG} (hx0 : gI x 0 = xz) (hxa : gA x 0 = ci) (hxb : gA x 1 = cx) (hm1 : gI m 1 = sz) (hma : gA m 0 = ci') (hmb : gA m 1 = cx') (v1 : gL x 0 = 0) (v2 : gI m 2 = 0) (v3 : gI m 3 = 0) (v4 : gI x 1 = 0) (v5 : gI m 4 = 0) (v6 : ∀ j, j < 8 → gB x 2 j = 0) (v7 : ∀ j, j < 8 → gA m 4 j = 0 ∧ gA m 5 j = 0) (v8 : gI x 2 = 0) (v9 : gI m 5 = 0) (v10 : ∀ j, j < 30 → gA x 5 j = 0) (v11 : ∀ j, j < 30 → gA m 8 j = 0) (v12 : gI x 4 = 0) (v13 : gI x 5 = gI m 12) (v14 : gI x 6 = gI m 13) (v15 : gI x 10 = gI m 15) (v16 : gL x 1 = 0) (v17 : gI m 10 = 0) (v18 : gI m 11 = 0) (v19 : gI x 7 = 0) (v20 : gI m 7 = 0) (v21 : gI x 8 = 0) (v22 : gI m 6 = 0) (v23 : gI x 9 = gI m 14) : Rel x m := by
  have z0 : (0 : Int32).toInt = 0 := rfl
  subst hx0 hxa hxb hm1 hma hmb
  refine ⟨⟨hC, ⟨by rw [v1, v2, v3, pk_0], by rw [v2, v3]; exact VOk_0⟩, ⟨by rw [v4, v5], by rw [v5, z0]; omega, by rw [v5, z0]; omega, fun k hk => by rw [v5, z0] at hk; omega⟩, fun k hk => ⟨by rw [v6 k hk, (v7 k hk).1, (v7 k hk).2, pk_0], by rw [(v7 k hk).1, (v7 k hk).2]; exact VOk_0⟩, ⟨by rw [v8, v9], by rw [v9, z0]; omega, by rw [v9, z0]; omega, fun k hk => by rw [v9, z0] at hk; omega⟩, ⟨by rw [v12, cnt_zero v11]; rfl, fun t ht => ⟨by rw [v10 t ht, if_pos (v11 t ht)], Or.inl (v11 t ht)⟩⟩, fun t ht hz => absurd (v11 t ht) hz, v13, v14, v15⟩, ⟨by rw [v16, v17, v18, pk_0], by rw [v17, v18]; exact VOk_0⟩, ⟨by rw [v19, v20], Or.inl v20⟩, ⟨by rw [v21, v22], by rw [v22, z0]; omega, by rw [v22, z0]; exact h0⟩, v23⟩
theorem reset_ok {N : Nat} (hN : 200 ≤ N) {x m : SG} (h : Rel x m) : ∃ x' m' : SG, fX_ValueMachine_reset N x = some ((), x') ∧ fR_ValueMachineModel_reset N m = some ((), m') ∧ Rel x' m' := by
  obtain ⟨f, p, f1, f2, f3⟩ := begin_eq hN x
  obtain ⟨p', q', g', g1, g2, g3⟩ := mreset_eq hN m
  refine ⟨BX x f p, BM m p' q' g', ?_, g3, ?_⟩
  · unfold fX_ValueMachine_reset
    rw [f3, gb_ok]
  · exact fresh_ok h.1.1.2.1 h.1.1 rfl rfl rfl rfl rfl rfl rfl rfl rfl rfl rfl f2 g1 rfl rfl f1 g2 rfl rfl rfl rfl rfl rfl rfl rfl rfl rfl rfl rfl
theorem clear_ok {N : Nat} (hN : 200 ≤ N) {x m : SG} : ∃ x' m' : SG, fX_ValueMachine_clear N x = some ((), x') ∧ fR_ValueMachineModel_clear N m = some ((), m') ∧ Rel x' m' := by
  obtain ⟨f, p, f1, f2, f3⟩ := begin_eq hN (uI x 0 0)
  obtain ⟨p', q', g', g1, g2, g3⟩ := mreset_eq hN m
  refine ⟨BX (uI x 0 0) f p, uI (BM m p' q' g') 1 0, ?_, ?_, ?_⟩
  · unfold fX_ValueMachine_clear
    rw [f3, gb_ok]
  · unfold fR_ValueMachineModel_clear
    rw [g3, gb_ok]
  · exact fresh_ok (sz := 0) (ci := gA x 0) (cx := gA x 1) (ci' := gA m 0) (cx' := gA m 1) (xz := 0) (by decide) ⟨rfl, by decide, by decide, fun k hk => by rw [show (0 : Int32).toInt = 0 from rfl] at hk; omega⟩ rfl rfl rfl rfl rfl rfl rfl rfl rfl rfl rfl f2 g1 rfl rfl f1 g2 rfl rfl rfl rfl rfl rfl rfl rfl rfl rfl rfl rfl
