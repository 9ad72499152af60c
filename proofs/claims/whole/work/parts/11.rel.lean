/-! the relation between the class's state and the reference's -/
def VOk (sz : Int32) (ts : Nat → Int32) (s n : Int32) : Prop :=
  ((s = 0 ∨ s = 1 ∨ s = 2) ∧ n = 0) ∨ s = 3 ∨ ((s = 4 ∨ s = 5) ∧ 0 ≤ n.toInt ∧ n.toInt < 30 ∧ ts n.toNatClampNeg = s) ∨ (s = 6 ∧ 0 ≤ n.toInt ∧ n.toInt / 8 ≤ sz.toInt)
def VP (sz : Int32) (ts : Nat → Int32) (v : Int64) (s n : Int32) : Prop := v = pk s n ∧ VOk sz ts s n
def CP (xz : Int32) (xi xn : Nat → Int32) (z : Int32) (ci cx : Nat → Int32) : Prop := xz = z ∧ 0 ≤ z.toInt ∧ z.toInt ≤ 150 ∧ ∀ k : Nat, (k : Int) < z.toInt → xi k = ci k ∧ xn k = cx k ∧ 0 ≤ (ci k).toInt ∧ (ci k).toInt ≤ 34
def SP (sz : Int32) (ts : Nat → Int32) (xh : Int32) (xv : Nat → Int64) (h : Int32) (ss sn : Nat → Int32) : Prop := xh = h ∧ 0 ≤ h.toInt ∧ h.toInt ≤ 120 ∧ ∀ k : Nat, (k : Int) < h.toInt → VP sz ts (xv k) (ss k) (sn k)
def GP (sz : Int32) (ts : Nat → Int32) (xg : Nat → Int64) (gs gn : Nat → Int32) : Prop := ∀ k : Nat, k < 8 → VP sz ts (xg k) (gs k) (gn k)
def NP (sz xs : Int32) (xp xh : Nat → Int32) (n : Int32) (np nh : Nat → Int32) : Prop := xs = n ∧ 0 ≤ n.toInt ∧ n.toInt ≤ 40 ∧ ∀ k : Nat, (k : Int) < n.toInt → xp k = np k ∧ xh k = nh k ∧ 0 ≤ (np k).toInt ∧ (np k).toInt ≤ sz.toInt ∧ (nh k = -1 ∨ 0 ≤ (nh k).toInt)
def TZ (ts tz xz : Int32) : Prop := ((ts = 4 ∧ tz = 16) ∨ (ts = 5 ∧ 0 ≤ tz.toInt ∧ tz.toInt ≤ 20)) ∧ xz = tz
def TP (xz xt : Nat → Int32) (xn : Int32) (ts tz : Nat → Int32) : Prop := xn = nI (cnt ts 30) ∧ ∀ t : Nat, t < 30 → (xt t = if ts t = 0 then 0 else 1) ∧ (ts t = 0 ∨ TZ (ts t) (tz t) (xz t))
def KP (sz : Int32) (ts tz : Nat → Int32) (xp : Nat → Int64) (cs cn : Nat → Int32) : Prop := ∀ t : Nat, t < 30 → ¬ ts t = 0 → ∀ k : Nat, (k : Int) < (tz t).toInt → VP sz ts (xp (20 * t + k)) (cs (20 * t + k)) (cn (20 * t + k))
def RB (x m : SG) : Prop :=
  CP (gI x 0) (gA x 0) (gA x 1) (gI m 1) (gA m 0) (gA m 1) ∧
  VP (gI m 1) (gA m 8) (gL x 0) (gI m 2) (gI m 3) ∧
  SP (gI m 1) (gA m 8) (gI x 1) (gB x 0) (gI m 4) (gA m 2) (gA m 3) ∧
  GP (gI m 1) (gA m 8) (gB x 2) (gA m 4) (gA m 5) ∧
  NP (gI m 1) (gI x 2) (gA x 2) (gA x 3) (gI m 5) (gA m 6) (gA m 7) ∧
  TP (gA x 4) (gA x 5) (gI x 4) (gA m 8) (gA m 9) ∧
  KP (gI m 1) (gA m 8) (gA m 9) (gB x 1) (gA m 10) (gA m 11) ∧
  gI x 5 = gI m 12 ∧ gI x 6 = gI m 13 ∧ gI x 10 = gI m 15
/-- what is looked at, what it was stopped by, where it is -/
def RL (x m : SG) : Prop := VP (gI m 1) (gA m 8) (gL x 1) (gI m 10) (gI m 11)
def RS (x m : SG) : Prop := gI x 7 = gI m 7 ∧ (gI m 7 = 0 ∨ (gI m 7 = 1 ∧ VP (gI m 1) (gA m 8) (gL x 2) (gI m 8) (gI m 9)))
def RN (x m : SG) : Prop := gI x 8 = gI m 6 ∧ 0 ≤ (gI m 6).toInt ∧ (gI m 6).toInt ≤ (gI m 1).toInt
def Rel (x m : SG) : Prop := RB x m ∧ RL x m ∧ RS x m ∧ RN x m ∧ gI x 9 = gI m 14
/-- while it runs -/
def Run (x m : SG) : Prop := RB x m ∧ gL x 1 = 0 ∧ gI m 10 = 0 ∧ gI m 11 = 0 ∧ RS x m ∧ RN x m
theorem VOk_ts {sz : Int32} {ts ts' : Nat → Int32} {s n : Int32} (h : VOk sz ts s n) (e : ∀ t, t < 30 → ¬ ts t = 0 → ts' t = ts t) : VOk sz ts' s n := by
  rcases h with h | h | ⟨h, h0, h1, h2⟩ | h
  · exact Or.inl h
  · exact Or.inr (Or.inl h)
  · refine Or.inr (Or.inr (Or.inl ⟨h, h0, h1, ?_⟩))
    rw [e _ (by rw [ti_cl]; omega) (by rw [h2]; rcases h with h | h <;> rw [h] <;> decide), h2]
  · exact Or.inr (Or.inr (Or.inr h))
theorem VOk_sz {sz sz' : Int32} {ts : Nat → Int32} {s n : Int32} (h : VOk sz ts s n) (e : sz.toInt ≤ sz'.toInt) : VOk sz' ts s n := by
  rcases h with h | h | h | ⟨h, h0, h1⟩
  · exact Or.inl h
  · exact Or.inr (Or.inl h)
  · exact Or.inr (Or.inr (Or.inl h))
  · exact Or.inr (Or.inr (Or.inr ⟨h, h0, by omega⟩))
theorem VOk_0 {sz : Int32} {ts : Nat → Int32} : VOk sz ts 0 0 := Or.inl ⟨Or.inl rfl, rfl⟩
theorem VOk_1 {sz : Int32} {ts : Nat → Int32} : VOk sz ts 1 0 := Or.inl ⟨Or.inr (Or.inl rfl), rfl⟩
theorem VOk_2 {sz : Int32} {ts : Nat → Int32} : VOk sz ts 2 0 := Or.inl ⟨Or.inr (Or.inr rfl), rfl⟩
theorem VOk_3 {sz : Int32} {ts : Nat → Int32} (n : Int32) : VOk sz ts 3 n := Or.inr (Or.inl rfl)
/-- a thing's value: its row -/
theorem VOk_thing {sz : Int32} {ts : Nat → Int32} {s n : Int32} (h : VOk sz ts s n) (hs : s = 4 ∨ s = 5) : 0 ≤ n.toInt ∧ n.toInt < 30 ∧ ts n.toNatClampNeg = s := by
  rcases h with ⟨h, _⟩ | h | ⟨_, h⟩ | ⟨h, _⟩
  · rcases hs with rfl | rfl <;> rcases h with h | h | h <;> exact absurd h (by decide)
  · rcases hs with rfl | rfl <;> exact absurd h (by decide)
  · exact h
  · rcases hs with rfl | rfl <;> exact absurd h (by decide)
theorem VOk_fun {sz : Int32} {ts : Nat → Int32} {n : Int32} (h : VOk sz ts 6 n) : 0 ≤ n.toInt ∧ n.toInt / 8 ≤ sz.toInt := by
  rcases h with ⟨h, _⟩ | h | ⟨h, _⟩ | ⟨_, h⟩
  · rcases h with h | h | h <;> exact absurd h (by decide)
  · exact absurd h (by decide)
  · rcases h with h | h <;> exact absurd h (by decide)
  · exact h
theorem VOk_small {sz : Int32} {ts : Nat → Int32} {s n : Int32} (h : VOk sz ts s n) (hs : s < 3) : n = 0 := by
  rcases h with ⟨_, h⟩ | h | ⟨h, _⟩ | ⟨h, _⟩
  · exact h
  · rw [h] at hs; exact absurd hs (by decide)
  · rcases h with h | h <;> rw [h] at hs <;> exact absurd hs (by decide)
  · rw [h] at hs; exact absurd hs (by decide)
/-- two values are the same where their longs are -/
theorem VOk_same {sz : Int32} {ts : Nat → Int32} {s n s' n' : Int32} (h : VOk sz ts s n) (h' : VOk sz ts s' n') : pk s n = pk s' n' ↔ (s = s' ∧ (s < 3 ∨ n = n')) := by
  refine ⟨fun e => ⟨(pk_inj e).1, Or.inr (pk_inj e).2⟩, fun e => ?_⟩
  obtain ⟨rfl, e⟩ := e
  rcases e with e | rfl
  · rw [VOk_small h e, VOk_small h' e]
  · rfl
theorem VOk_true {sz : Int32} {ts : Nat → Int32} {s n : Int32} (h : VOk sz ts s n) : pk s n = 8589934592 ↔ s = 2 := by
  rw [← pk_2]
  refine ⟨fun e => (pk_inj e).1, fun e => ?_⟩
  subst e
  rw [VOk_small h (by decide)]
/-- places of parts -/
theorem pl_m {t k : Int32} {i : Int32} (ht : 0 ≤ t.toInt) (ht' : t.toInt < 30) (hk : 0 ≤ k.toInt) (hk' : k.toInt < 20) (e : i = 20 * t + k ∨ i = t * 20 + k) : i.toInt = 20 * t.toInt + k.toInt ∧ i.toNatClampNeg = 20 * t.toNatClampNeg + k.toNatClampNeg ∧ ¬ (i < 0 ∨ 600 ≤ i.toNatClampNeg) := by
  have h20 : (20 : Int32).toInt = 20 := rfl
  have e1 : (20 * t).toInt = 20 * t.toInt := by
    rw [ti_mul (by rw [h20]; omega) (by rw [h20]; omega), h20]
  have e2 : (t * 20).toInt = 20 * t.toInt := by
    rw [ti_mul (by rw [h20]; omega) (by rw [h20]; omega), h20]; omega
  have e3 : i.toInt = 20 * t.toInt + k.toInt := by
    rcases e with rfl | rfl
    · rw [ti_add (by rw [e1]; omega) (by rw [e1]; omega), e1]
    · rw [ti_add (by rw [e2]; omega) (by rw [e2]; omega), e2]
  refine ⟨e3, ?_, ti_in (by omega) (by omega)⟩
  rw [ti_cl, ti_cl, ti_cl, e3]
  omega
/-- the latest place below n whose number isn't -1 -/
def lt_ (f : Nat → Int32) : Nat → Option Nat
  | 0 => none
  | n + 1 => if f n = -1 then lt_ f n else some n
theorem lt_some {f : Nat → Int32} : ∀ {n k : Nat}, lt_ f n = some k → k < n ∧ ¬ f k = -1 ∧ ∀ j, k < j → j < n → f j = -1 := by
  intro n
  induction n with
  | zero => intro k h; cases h
  | succ n ih =>
    intro k h
    unfold lt_ at h
    by_cases c : f n = -1
    · rw [if_pos c] at h
      obtain ⟨a, b, d⟩ := ih h
      refine ⟨by omega, b, fun j h1 h2 => ?_⟩
      by_cases e : j = n
      · rw [e]; exact c
      · exact d j h1 (by omega)
    · rw [if_neg c] at h
      cases h
      exact ⟨by omega, c, fun j h1 h2 => by omega⟩
theorem lt_none {f : Nat → Int32} : ∀ {n : Nat}, lt_ f n = none → ∀ j, j < n → f j = -1 := by
  intro n
  induction n with
  | zero => intro _ j hj; omega
  | succ n ih =>
    intro h j hj
    unfold lt_ at h
    by_cases c : f n = -1
    · rw [if_pos c] at h
      by_cases e : j = n
      · rw [e]; exact c
      · exact ih h j (by omega)
    · rw [if_neg c] at h; cases h
