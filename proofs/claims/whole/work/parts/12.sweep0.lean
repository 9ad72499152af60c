/-! what is reached: closed sets, the reference's turns, the class's list of rows -/
def Thg (s : Int32) : Prop := s = 4 ∨ s = 5
def Edge (tz cs cn : Nat → Int32) (t u : Nat) : Prop := ∃ k : Nat, (k : Int) < (tz t).toInt ∧ Thg (cs (20 * t + k)) ∧ (cn (20 * t + k)).toNatClampNeg = u
def Clo (tz cs cn : Nat → Int32) (S : Nat → Prop) : Prop := ∀ t u : Nat, t < 30 → S t → Edge tz cs cn t u → S u
def Sub (f g : Nat → Int32) : Prop := ∀ t : Nat, t < 30 → ¬ f t = 0 → ¬ g t = 0
def In30 (f : Nat → Int32) (S : Nat → Prop) : Prop := ∀ t : Nat, t < 30 → ¬ f t = 0 → S t
def Turn (tz cs cn f g : Nat → Int32) : Prop := Sub f g ∧ (∀ t u : Nat, t < 30 → ¬ f t = 0 → Edge tz cs cn t u → ¬ g u = 0) ∧ (∀ S : Nat → Prop, Clo tz cs cn S → In30 f S → In30 g S)
def Turns (tz cs cn f0 f : Nat → Int32) (j : Nat) : Prop := Sub f0 f ∧ (∀ S : Nat → Prop, Clo tz cs cn S → In30 f0 S → In30 f S) ∧ (Clo tz cs cn (fun t => ¬ f t = 0) ∨ cnt f0 30 + j ≤ cnt f 30)
theorem cnt_0 {f : Nat → Int32} : ∀ {n : Nat}, cnt f n = 0 → ∀ k, k < n → f k = 0 := by
  intro n
  induction n with
  | zero => intro _ k hk; omega
  | succ n ih =>
    intro h k hk
    unfold cnt at h
    by_cases hf : f n = 0
    · rw [if_pos hf] at h
      by_cases e : k = n
      · rw [e]; exact hf
      · exact ih (by omega) k (by omega)
    · rw [if_neg hf] at h; omega
theorem Turns_0 {tz cs cn f : Nat → Int32} : Turns tz cs cn f f 0 := ⟨fun _ _ h => h, fun _ _ h => h, Or.inr (Nat.le_refl _)⟩
theorem Turns_s {tz cs cn f0 f g : Nat → Int32} {j : Nat} (hE : ∀ t u : Nat, t < 30 → Edge tz cs cn t u → u < 30) (h : Turns tz cs cn f0 f j) (ht : Turn tz cs cn f g) : Turns tz cs cn f0 g (j + 1) := by
  obtain ⟨h1, h2, h3⟩ := h
  obtain ⟨t1, t2, t3⟩ := ht
  refine ⟨fun t a b => t1 t a (h1 t a b), fun S a b => t3 S a (h2 S a b), ?_⟩
  rcases h3 with h3 | h3
  · refine Or.inl (fun t u ht hg he => ?_)
    exact t2 t u ht (t3 (fun t => ¬ f t = 0) h3 (fun _ _ z => z) t ht hg) he
  · by_cases e : ∃ t, t < 30 ∧ f t = 0 ∧ ¬ g t = 0
    · obtain ⟨t, e1, e2, e3⟩ := e
      have := cnt_more (n := 30) e1 t1 e2 e3
      exact Or.inr (by omega)
    · refine Or.inl (fun t u ht hg he => ?_)
      refine t2 t u ht (fun z => e ⟨t, ht, z, hg⟩) he
theorem Turns_30 {tz cs cn f0 f : Nat → Int32} (h : Turns tz cs cn f0 f 30) : Clo tz cs cn (fun t => ¬ f t = 0) := by
  obtain ⟨_, h2, h3⟩ := h
  rcases h3 with h3 | h3
  · exact h3
  · have hl := cnt_le f 30
    have h0 := cnt_0 (f := f0) (n := 30) (by omega)
    have hf := h2 (fun _ => False) (fun _ _ _ z _ => z) (fun t ht hz => hz (h0 t ht))
    exact fun t u ht hz _ => (hf t ht hz).elim
/-- the class's rows: those that are reached, in the order in which they were -/
def WI (f rows : Nat → Int32) (c : Nat) : Prop := c = cnt f 30 ∧ (∀ t : Nat, t < 30 → f t = 0 ∨ f t = 1) ∧ (∀ i : Nat, i < c → 0 ≤ (rows i).toInt ∧ (rows i).toInt < 30 ∧ ¬ f (rows i).toNatClampNeg = 0) ∧ (∀ t : Nat, t < 30 → ¬ f t = 0 → ∃ i : Nat, i < c ∧ (rows i).toNatClampNeg = t)
theorem WI_add {f rows : Nat → Int32} {c : Nat} (h : WI f rows c) {n : Int32} (h0 : 0 ≤ n.toInt) (h1 : n.toInt < 30) (hf : f n.toNatClampNeg = 0) : c < 30 ∧ WI (upd f n.toNatClampNeg 1) (upd rows c n) (c + 1) := by
  obtain ⟨w1, w2, w3, w4⟩ := h
  have hn : n.toNatClampNeg < 30 := by rw [ti_cl]; omega
  have hc := cnt_lt hn hf
  refine ⟨by omega, ?_, ?_, ?_, ?_⟩
  · rw [cnt_set hf (by decide) hn, w1]
  · intro t ht
    by_cases e : t = n.toNatClampNeg
    · rw [e, pk_us]; exact Or.inr rfl
    · rw [pk_un e]; exact w2 t ht
  · intro i hi
    by_cases e : i = c
    · rw [e, pk_us, pk_us]; exact ⟨h0, h1, by decide⟩
    · rw [pk_un e]
      obtain ⟨a, b, d⟩ := w3 i (by omega)
      refine ⟨a, b, ?_⟩
      by_cases e2 : (rows i).toNatClampNeg = n.toNatClampNeg
      · rw [e2, pk_us]; decide
      · rw [pk_un e2]; exact d
  · intro t ht hz
    by_cases e : t = n.toNatClampNeg
    · exact ⟨c, by omega, by rw [pk_us, e]⟩
    · rw [pk_un e] at hz
      obtain ⟨i, a, b⟩ := w4 t ht hz
      exact ⟨i, by omega, by rw [pk_un (by omega)]; exact b⟩
/-- two closed sets that hold the roots and nothing more are one -/
theorem Clo_eq {tz cs cn f g r : Nat → Int32} (hf : Clo tz cs cn (fun t => ¬ f t = 0)) (hg : Clo tz cs cn (fun t => ¬ g t = 0)) (rf : Sub r f) (rg : Sub r g) (mf : ∀ S : Nat → Prop, Clo tz cs cn S → In30 r S → In30 f S) (mg : ∀ S : Nat → Prop, Clo tz cs cn S → In30 r S → In30 g S) : ∀ t : Nat, t < 30 → (f t = 0 ↔ g t = 0) := by
  intro t ht
  refine ⟨fun h => ?_, fun h => ?_⟩
  · by_cases e : g t = 0
    · exact e
    · exact absurd h (mg _ hf rf t ht e)
  · by_cases e : f t = 0
    · exact e
    · exact absurd h (mf _ hg rg t ht e)
