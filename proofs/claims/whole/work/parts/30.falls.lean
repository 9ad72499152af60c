/-! running a pure function: it answers, and what follows -/
def Wp {α : Type} (o : Option (α × SG)) (P : α → SG → Prop) : Prop := match o with
  | none => False
  | some q => P q.1 q.2
theorem Wp_some {α : Type} (r : α) (u : SG) (P : α → SG → Prop) : Wp (some (r, u)) P = P r u := rfl
theorem Wp_ex {α : Type} {o : Option (α × SG)} {P : α → SG → Prop} (h : Wp o P) : ∃ (r : α) (u : SG), o = some (r, u) ∧ P r u := by
  cases o with
  | none => exact h.elim
  | some q => exact ⟨q.1, q.2, rfl, h⟩
theorem z_0 : ((0 : Int32) &&& 1) = 0 := by decide
theorem z_1 : ((1 : Int32) &&& 1) = 1 := by decide
theorem z_00 : ((0 : Int32) ||| 0) = 0 := by decide
theorem z_01 : ((0 : Int32) ||| 1) = 1 := by decide
theorem z_10 : ((1 : Int32) ||| 0) = 1 := by decide
theorem z_11 : ((1 : Int32) ||| 1) = 1 := by decide
theorem vn_0 : vp_nar .boolean 0 = 0 := rfl
theorem vn_1 : vp_nar .boolean 1 = 1 := rfl
theorem x_of (N : Nat) (st : SG) (s n : Int32) : fX_Value_of N st s n = some (pk s n, st) := rfl
theorem x_integer (N : Nat) (st : SG) (n : Int32) : fX_Value_integer N st n = some (pk 3 n, st) := rfl
theorem x_truth0 (N : Nat) (st : SG) : fX_Value_truth N st 0 = some (pk 1 0, st) := rfl
theorem x_truth1 (N : Nat) (st : SG) : fX_Value_truth N st 1 = some (pk 2 0, st) := rfl
/-! the latest trap -/
def tbi : Option Nat → Int32
  | none => 0
  | some _ => 1
theorem tb0 : tbi none = 0 := rfl
theorem tb1 (j : Nat) : tbi (some j) = 1 := rfl
theorem tb_ne (j : Nat) : ¬ tbi (some j) = 0 := by rw [tb1]; decide
def lr : Option Nat → Int32
  | none => -1
  | some j => nI j
theorem trap_L (N : Nat) (st : SG) (n : Nat) (hn : gI st 5 = nI n) (h40 : n ≤ 40) : ∀ (d k fuel : Nat) (v : Int32), k + d = n → d < fuel → v = tbi (lt_ (gA st 7) k) → fR_ValueMachineModel_hasTrap_L4 N fuel v (nI k) st = some (tbi (lt_ (gA st 7) n), st) := by
  intro d
  induction d with
  | zero =>
    intro k fuel v hk hf hv
    obtain ⟨f, rfl⟩ : ∃ f, fuel = f + 1 := ⟨fuel - 1, by omega⟩
    have e : k = n := by omega
    subst e
    unfold fR_ValueMachineModel_hasTrap_L4
    rw [hn, if_pos (nI_le (Nat.le_refl _) (by omega)), hv]
    cases lt_ (gA st 7) k with
    | none => rw [tb0, z_0, if_neg (fun z => z rfl)]
    | some j => rw [tb1, z_1, if_neg (fun z => z rfl)]
  | succ d ih =>
    intro k fuel v hk hf hv
    obtain ⟨f, rfl⟩ : ∃ f, fuel = f + 1 := ⟨fuel - 1, by omega⟩
    unfold fR_ValueMachineModel_hasTrap_L4
    rw [hn, if_neg (nI_ge (by omega) (by omega))]
    have hu : lt_ (gA st 7) (k + 1) = if gA st 7 k = -1 then lt_ (gA st 7) k else some k := rfl
    by_cases hl : lt_ (gA st 7) k = none
    · rw [hl] at hv
      rw [hv, if_pos tb0, if_neg (nI_in (by omega) (by omega)), nI_clamp (by omega), nI_1]
      by_cases hc : gA st 7 k = -1
      · rw [if_pos hc]
        exact ih (k + 1) f 0 (by omega) (by omega) (by rw [hu, if_pos hc, hl]; rfl)
      · rw [if_neg hc]
        exact ih (k + 1) f 1 (by omega) (by omega) (by rw [hu, if_neg hc]; rfl)
    · obtain ⟨j, hj⟩ := Option.ne_none_iff_exists'.mp hl
      rw [hj] at hv
      rw [hv, if_neg (tb_ne j), nI_1]
      refine ih (k + 1) f 1 (by omega) (by omega) ?_
      rw [hu, hj]
      by_cases hc : gA st 7 k = -1
      · rw [if_pos hc]; rfl
      · rw [if_neg hc]; rfl
theorem trap_eq {N : Nat} {st : SG} {n : Nat} (hn : gI st 5 = nI n) (h40 : n ≤ 40) (hN : 41 ≤ N) : fR_ValueMachineModel_hasTrap N st = some (tbi (lt_ (gA st 7) n), st) := by
  unfold fR_ValueMachineModel_hasTrap
  exact trap_L N st n hn h40 n 0 N 0 (by omega) (by omega) rfl
theorem late_L (N : Nat) (st : SG) : ∀ (k fuel : Nat), k ≤ 40 → k < fuel → fX_Notes_latestTrap_L7 N fuel (nI k - 1) st = some (lr (lt_ (gA st 3) k), st) := by
  intro k
  induction k with
  | zero =>
    intro fuel hk hf
    obtain ⟨f, rfl⟩ : ∃ f, fuel = f + 1 := ⟨fuel - 1, by omega⟩
    unfold fX_Notes_latestTrap_L7
    rw [if_pos (show nI 0 - 1 < 0 from by decide)]
    rfl
  | succ k ih =>
    intro fuel hk hf
    obtain ⟨f, rfl⟩ : ∃ f, fuel = f + 1 := ⟨fuel - 1, by omega⟩
    unfold fX_Notes_latestTrap_L7
    rw [nI_pred, if_neg (nI_pos (by omega)), if_neg (nI_in (by omega) (by omega)), nI_clamp (by omega)]
    have hu : lt_ (gA st 3) (k + 1) = if gA st 3 k = -1 then lt_ (gA st 3) k else some k := rfl
    by_cases hc : gA st 3 k = -1
    · rw [if_pos hc, hu, if_pos hc, ← Int32.sub_eq_add_neg]
      exact ih f (by omega) (by omega)
    · rw [if_neg hc, hu, if_neg hc]
      rfl
theorem late_eq {N : Nat} {st : SG} {n : Nat} (hn : gI st 2 = nI n) (h40 : n ≤ 40) (hN : 41 ≤ N) : fX_Notes_latestTrap N st = some (lr (lt_ (gA st 3) n), st) := by
  unfold fX_Notes_latestTrap
  rw [hn]
  exact late_L N st n N h40 (by omega)
theorem lt_congr {f g : Nat → Int32} : ∀ {n : Nat}, (∀ k, k < n → f k = g k) → lt_ f n = lt_ g n := by
  intro n
  induction n with
  | zero => intro _; rfl
  | succ n ih =>
    intro h
    unfold lt_
    rw [h n (by omega), ih (fun k hk => h k (by omega))]
/-! the reference goes wrong -/
theorem falls_none {N fuel : Nat} {v1 v2 : Int32} {st : SG} {n : Nat} (hn : gI st 5 = nI n) (h40 : n ≤ 40) (hf : 0 < fuel) (hN : 41 ≤ N) (hl : lt_ (gA st 7) n = none) : fR_ValueMachineModel_falls_L10 N fuel v1 v2 st = some ((), uI (uI (uI st 7 1) 8 v1) 9 v2) := by
  obtain ⟨f, rfl⟩ : ∃ f, fuel = f + 1 := ⟨fuel - 1, by omega⟩
  have ht := trap_eq hn h40 hN
  rw [hl] at ht
  unfold fR_ValueMachineModel_falls_L10
  cases n with
  | zero =>
    rw [if_pos (show gI st 5 ≤ 0 from by rw [hn]; decide), ht, gb_ok, if_pos tb0]
  | succ n =>
    rw [if_neg (show ¬ gI st 5 ≤ 0 from by rw [hn]; exact nI_nle (by omega) (by omega))]
    have e : gI st 5 - 1 = nI n := by rw [hn, nI_pred]
    rw [e, if_neg (nI_in (by omega) (by omega)), nI_clamp (by omega), if_pos (lt_none hl n (by omega)), ht, gb_ok, if_pos tb0, ht, gb_ok, if_pos tb0]
theorem falls_some {N : Nat} {v1 v2 : Int32} (hN : 41 ≤ N) : ∀ (d : Nat) (st : SG) (n k fuel : Nat), n = k + 1 + d → gI st 5 = nI n → n ≤ 40 → d < fuel → lt_ (gA st 7) n = some k → fR_ValueMachineModel_falls_L10 N fuel v1 v2 st = some ((), uI (uI (uI (uI (uI st 5 (nI k)) 4 (if gA st 7 k ≤ gI st 4 then gA st 7 k else gI st 4)) 2 v1) 3 v2) 6 (gA st 6 k)) := by
  intro d
  induction d with
  | zero =>
    intro st n k fuel hk hn h40 hf hl
    obtain ⟨f, rfl⟩ : ∃ f, fuel = f + 1 := ⟨fuel - 1, by omega⟩
    have ht := trap_eq hn h40 hN
    rw [hl] at ht
    have hk : n = k + 1 := by omega
    subst hk
    have e : gI st 5 - 1 = nI k := by rw [hn, nI_pred]
    obtain ⟨_, hc, _⟩ := lt_some hl
    unfold fR_ValueMachineModel_falls_L10
    rw [if_neg (show ¬ gI st 5 ≤ 0 from by rw [hn]; exact nI_nle (by omega) (by omega)), e, if_neg (nI_in (by omega) (by omega)), nI_clamp (by omega), if_neg hc, ht, gb_ok, if_neg (tb_ne k), e, if_neg (nI_in (by omega) (by omega)), nI_clamp (by omega)]
    have hi := nI_in (c := k) (N := 40) (by omega) (by omega)
    rw [nI_clamp (by omega)] at hi
    by_cases hh : gA st 7 k ≤ gI st 4
    · simp only [if_pos hh, if_neg hi, fR_ValueMachineModel_acc, gb_ok, gI_uI, gI_uL, gI_uA, gI_uB, gL_uI, gL_uL, gL_uA, gL_uB, gA_uI, gA_uL, gA_uA, gA_uB, gB_uI, gB_uL, gB_uA, gB_uB, Nat.reduceEqDiff, ↓reduceIte, nI_clamp (show k < 2 ^ 31 by omega)]
    · simp only [if_neg hh, if_neg hi, fR_ValueMachineModel_acc, gb_ok, gI_uI, gI_uL, gI_uA, gI_uB, gL_uI, gL_uL, gL_uA, gL_uB, gA_uI, gA_uL, gA_uA, gA_uB, gB_uI, gB_uL, gB_uA, gB_uB, Nat.reduceEqDiff, ↓reduceIte, nI_clamp (show k < 2 ^ 31 by omega)]
  | succ d ih =>
    intro st n k fuel hk hn h40 hf hl
    obtain ⟨f, rfl⟩ : ∃ f, fuel = f + 1 := ⟨fuel - 1, by omega⟩
    have ht := trap_eq hn h40 hN
    rw [hl] at ht
    have hk : n = (k + 1 + d) + 1 := by omega
    subst hk
    have e : gI st 5 - 1 = nI (k + 1 + d) := by rw [hn, nI_pred]
    obtain ⟨_, _, hc⟩ := lt_some hl
    have hc := hc (k + 1 + d) (by omega) (by omega)
    have hu : lt_ (gA st 7) (k + 1 + d + 1) = if gA st 7 (k + 1 + d) = -1 then lt_ (gA st 7) (k + 1 + d) else some (k + 1 + d) := rfl
    rw [hu, if_pos hc] at hl
    unfold fR_ValueMachineModel_falls_L10
    rw [if_neg (show ¬ gI st 5 ≤ 0 from by rw [hn]; exact nI_nle (by omega) (by omega)), e, if_neg (nI_in (by omega) (by omega)), nI_clamp (by omega), if_pos hc, ht, gb_ok, if_neg (tb_ne k), e]
    have h2 := ih (uI st 5 (nI (k + 1 + d))) (k + 1 + d) k f rfl rfl (by omega) (by omega) hl
    rw [h2, uI_uI]
    rfl
