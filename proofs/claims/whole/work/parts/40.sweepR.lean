/-! the reference's sweep -/
theorem lit_ge {k n : Nat} {L : Int32} (hL : L = nI n) (h : k < n) (hn : n < 2 ^ 31) : ¬ L ≤ nI k := by
  rw [hL]; exact nI_ge h hn
theorem uA_self (s : SG) (k : Nat) : uA s k (gA s k) = s := by
  have h : va_up s.2.2.1 k (s.2.2.1 k) = s.2.2.1 := by
    funext j
    unfold va_up
    by_cases e : j = k
    · rw [if_pos e, e]
    · rw [if_neg e]
  show (s.1, s.2.1, va_up s.2.2.1 k (s.2.2.1 k), s.2.2.2) = s
  rw [h]
def mt (f : Nat → Int32) (s n : Int32) : Nat → Int32 := if s = 4 ∨ s = 5 then upd f n.toNatClampNeg 1 else f
theorem mt_iff (f : Nat → Int32) (s n : Int32) (t : Nat) : ¬ mt f s n t = 0 ↔ ¬ f t = 0 ∨ (Thg s ∧ n.toNatClampNeg = t) := by
  unfold mt Thg
  by_cases h : s = 4 ∨ s = 5
  · rw [if_pos h]
    by_cases e : t = n.toNatClampNeg
    · rw [e, pk_us]
      exact ⟨fun _ => Or.inr ⟨h, rfl⟩, fun _ => by decide⟩
    · rw [pk_un e]
      exact ⟨fun z => Or.inl z, fun z => z.elim id (fun z => absurd z.2.symm e)⟩
  · rw [if_neg h]
    exact ⟨fun z => Or.inl z, fun z => z.elim id (fun z => absurd z.1 h)⟩
theorem meets_eq {N : Nat} {st : SG} {f : Nat → Int32} {s n sz : Int32} {ts : Nat → Int32} (hv : VOk sz ts s n) : fR_ValueMachineModel_meets N (uA st 12 f) s n = some ((), uA st 12 (mt f s n)) := by
  unfold fR_ValueMachineModel_meets mt
  by_cases h4 : s = 4
  · obtain ⟨h0, h1, _⟩ := VOk_thing hv (Or.inl h4)
    rw [if_pos h4, if_neg (ti_in h0 (by omega)), if_pos (Or.inl h4), vn_1, uA_uA]
    rfl
  · rw [if_neg h4]
    by_cases h5 : s = 5
    · obtain ⟨h0, h1, _⟩ := VOk_thing hv (Or.inr h5)
      rw [if_pos h5, if_neg (ti_in h0 (by omega)), if_pos (Or.inr h5), vn_1, uA_uA]
      rfl
    · rw [if_neg h5, if_neg (fun z => z.elim h4 h5)]
theorem r12 {N : Nat} {st : SG} : ∀ (d k fuel : Nat) (f : Nat → Int32), k + d = 30 → d < fuel → (∀ j, j < k → f j = 0) → ∃ f' : Nat → Int32, (∀ j, j < 30 → f' j = 0) ∧ fR_ValueMachineModel_sweeps_L12 N fuel (nI k) (uA st 12 f) = gb (fR_ValueMachineModel_meets N (uA st 12 f') (gI st 2) (gI st 3)) (fun _ s1 => fR_ValueMachineModel_sweeps_L45 N N 0 s1) := by
  intro d
  induction d with
  | zero =>
    intro k fuel f hk hf hz
    obtain ⟨n, rfl⟩ : ∃ n, fuel = n + 1 := ⟨fuel - 1, by omega⟩
    have e : k = 30 := by omega
    subst e
    refine ⟨f, hz, ?_⟩
    unfold fR_ValueMachineModel_sweeps_L12
    rw [if_pos (show (30 : Int32) ≤ nI 30 from by decide)]
    rfl
  | succ d ih =>
    intro k fuel f hk hf hz
    obtain ⟨n, rfl⟩ : ∃ n, fuel = n + 1 := ⟨fuel - 1, by omega⟩
    obtain ⟨f', h1, h2⟩ := ih (k + 1) n (upd f k 0) (by omega) (by omega) (fun j hj => by
      by_cases e : j = k
      · rw [e, pk_us]
      · rw [pk_un e]; exact hz j (by omega))
    refine ⟨f', h1, ?_⟩
    unfold fR_ValueMachineModel_sweeps_L12
    rw [if_neg (lit_ge (L := 30) (k := k) (n := 30) rfl (by omega) (by decide)), if_neg (nI_in (by omega) (by omega)), nI_clamp (by omega), nI_1, vn_0, uA_uA]
    exact h2
theorem r45 {N : Nat} {st : SG} {h : Nat} (hh : gI st 4 = nI h) (h120 : h ≤ 120) {sz : Int32} {ts : Nat → Int32} (hv : ∀ j, j < h → VOk sz ts (gA st 2 j) (gA st 3 j)) : ∀ (d k fuel : Nat) (f : Nat → Int32), k + d = h → d < fuel → ∃ f' : Nat → Int32, (∀ t, ¬ f' t = 0 ↔ ¬ f t = 0 ∨ ∃ j, k ≤ j ∧ j < h ∧ Thg (gA st 2 j) ∧ (gA st 3 j).toNatClampNeg = t) ∧ fR_ValueMachineModel_sweeps_L45 N fuel (nI k) (uA st 12 f) = fR_ValueMachineModel_sweeps_L77 N N 0 (uA st 12 f') := by
  intro d
  induction d with
  | zero =>
    intro k fuel f hk hf
    obtain ⟨n, rfl⟩ : ∃ n, fuel = n + 1 := ⟨fuel - 1, by omega⟩
    have e : k = h := by omega
    subst e
    refine ⟨f, fun t => ⟨fun z => Or.inl z, fun z => z.elim id (fun ⟨j, a, b, _⟩ => by omega)⟩, ?_⟩
    unfold fR_ValueMachineModel_sweeps_L45
    rw [show gI (uA st 12 f) 4 = nI k from hh, if_pos (nI_le (Nat.le_refl _) (by omega))]
  | succ d ih =>
    intro k fuel f hk hf
    obtain ⟨n, rfl⟩ : ∃ n, fuel = n + 1 := ⟨fuel - 1, by omega⟩
    obtain ⟨f', h1, h2⟩ := ih (k + 1) n (mt f (gA st 2 k) (gA st 3 k)) (by omega) (by omega)
    refine ⟨f', fun t => ?_, ?_⟩
    · rw [h1 t, mt_iff]
      constructor
      · rintro ((z | ⟨z1, z2⟩) | ⟨j, a, b, c⟩)
        · exact Or.inl z
        · exact Or.inr ⟨k, by omega, by omega, z1, z2⟩
        · exact Or.inr ⟨j, by omega, b, c⟩
      · rintro (z | ⟨j, a, b, c⟩)
        · exact Or.inl (Or.inl z)
        · by_cases e : j = k
          · subst e; exact Or.inl (Or.inr c)
          · exact Or.inr ⟨j, by omega, b, c⟩
    · unfold fR_ValueMachineModel_sweeps_L45
      rw [show gI (uA st 12 f) 4 = nI h from hh, if_neg (nI_ge (by omega) (by omega)), if_neg (nI_in (by omega) (by omega)), if_neg (nI_in (by omega) (by omega)), nI_clamp (by omega), show gA (uA st 12 f) 2 = gA st 2 from rfl, show gA (uA st 12 f) 3 = gA st 3 from rfl, meets_eq (hv k (by omega)), gb_ok, nI_1]
      exact h2
theorem r77 {N : Nat} {st : SG} {sz : Int32} {ts : Nat → Int32} (hv : ∀ j, j < 8 → VOk sz ts (gA st 4 j) (gA st 5 j)) : ∀ (d k fuel : Nat) (f : Nat → Int32), k + d = 8 → d < fuel → ∃ f' : Nat → Int32, (∀ t, ¬ f' t = 0 ↔ ¬ f t = 0 ∨ ∃ j, k ≤ j ∧ j < 8 ∧ Thg (gA st 4 j) ∧ (gA st 5 j).toNatClampNeg = t) ∧ fR_ValueMachineModel_sweeps_L77 N fuel (nI k) (uA st 12 f) = fR_ValueMachineModel_sweeps_L107 N N 0 (uA st 12 f') := by
  intro d
  induction d with
  | zero =>
    intro k fuel f hk hf
    obtain ⟨n, rfl⟩ : ∃ n, fuel = n + 1 := ⟨fuel - 1, by omega⟩
    have e : k = 8 := by omega
    subst e
    refine ⟨f, fun t => ⟨fun z => Or.inl z, fun z => z.elim id (fun ⟨j, a, b, _⟩ => by omega)⟩, ?_⟩
    unfold fR_ValueMachineModel_sweeps_L77
    rw [if_pos (show (8 : Int32) ≤ nI 8 from by decide)]
  | succ d ih =>
    intro k fuel f hk hf
    obtain ⟨n, rfl⟩ : ∃ n, fuel = n + 1 := ⟨fuel - 1, by omega⟩
    obtain ⟨f', h1, h2⟩ := ih (k + 1) n (mt f (gA st 4 k) (gA st 5 k)) (by omega) (by omega)
    refine ⟨f', fun t => ?_, ?_⟩
    · rw [h1 t, mt_iff]
      constructor
      · rintro ((z | ⟨z1, z2⟩) | ⟨j, a, b, c⟩)
        · exact Or.inl z
        · exact Or.inr ⟨k, by omega, by omega, z1, z2⟩
        · exact Or.inr ⟨j, by omega, b, c⟩
      · rintro (z | ⟨j, a, b, c⟩)
        · exact Or.inl (Or.inl z)
        · by_cases e : j = k
          · subst e; exact Or.inl (Or.inr c)
          · exact Or.inr ⟨j, by omega, b, c⟩
    · unfold fR_ValueMachineModel_sweeps_L77
      rw [if_neg (lit_ge (L := 8) (k := k) (n := 8) rfl (by omega) (by decide)), if_neg (nI_in (by omega) (by omega)), if_neg (nI_in (by omega) (by omega)), nI_clamp (by omega), show gA (uA st 12 f) 4 = gA st 4 from rfl, show gA (uA st 12 f) 5 = gA st 5 from rfl, meets_eq (hv k (by omega)), gb_ok, nI_1]
      exact h2
theorem n20 (t k : Nat) : (20 : Int32) * nI t + nI k = nI (20 * t + k) := by
  rw [show (20 : Int32) = nI 20 from rfl, pk_mul, nI_add]
theorem r123 {N : Nat} {st : SG} {K : Int32 → Int32 → SG → Option (Unit × SG)} {v1 : Int32} {t z : Nat} (ht : t < 30) (hz : gA st 9 t = nI z) (hz20 : z ≤ 20) {sz : Int32} {ts : Nat → Int32} (hv : ∀ k, k < z → VOk sz ts (gA st 10 (20 * t + k)) (gA st 11 (20 * t + k))) : ∀ (d k fuel : Nat) (f : Nat → Int32), k + d = z → d < fuel → ∃ f' : Nat → Int32, (∀ u, ¬ f' u = 0 ↔ ¬ f u = 0 ∨ (¬ f t = 0 ∧ ∃ j, k ≤ j ∧ j < z ∧ Thg (gA st 10 (20 * t + j)) ∧ (gA st 11 (20 * t + j)).toNatClampNeg = u)) ∧ fR_ValueMachineModel_sweeps_L123 N K fuel v1 (nI t) (nI k) (uA st 12 f) = K v1 (nI (t + 1)) (uA st 12 f') := by
  intro d
  induction d with
  | zero =>
    intro k fuel f hk hf
    obtain ⟨n, rfl⟩ : ∃ n, fuel = n + 1 := ⟨fuel - 1, by omega⟩
    have e : k = z := by omega
    subst e
    refine ⟨f, fun u => ⟨fun z => Or.inl z, fun z => z.elim id (fun ⟨_, j, a, b, _⟩ => by omega)⟩, ?_⟩
    unfold fR_ValueMachineModel_sweeps_L123
    rw [if_neg (nI_in (by omega) (by omega)), nI_clamp (by omega), show gA (uA st 12 f) 9 t = nI k from hz, if_pos (nI_le (Nat.le_refl _) (by omega)), nI_1]
  | succ d ih =>
    intro k fuel f hk hf
    obtain ⟨n, rfl⟩ : ∃ n, fuel = n + 1 := ⟨fuel - 1, by omega⟩
    by_cases hft : f t = 0
    · refine ⟨f, fun u => ⟨fun z => Or.inl z, fun z => z.elim id (fun z => absurd hft z.1)⟩, ?_⟩
      unfold fR_ValueMachineModel_sweeps_L123
      rw [if_neg (nI_in (by omega) (by omega)), nI_clamp (by omega), show gA (uA st 12 f) 9 t = nI z from hz, if_neg (nI_ge (by omega) (by omega)), if_neg (show ¬ (nI t < 0 ∨ 30 ≤ t) from fun q => q.elim (nI_pos (by omega)) (by omega)), if_pos (show gA (uA st 12 f) 12 t = 0 from hft), nI_1]
    · obtain ⟨f', h1, h2⟩ := ih (k + 1) n (mt f (gA st 10 (20 * t + k)) (gA st 11 (20 * t + k))) (by omega) (by omega)
      refine ⟨f', fun u => ?_, ?_⟩
      · rw [h1 u, mt_iff, mt_iff]
        constructor
        · rintro ((z | ⟨z1, z2⟩) | ⟨_, j, a, b, c⟩)
          · exact Or.inl z
          · exact Or.inr ⟨hft, k, by omega, by omega, z1, z2⟩
          · exact Or.inr ⟨hft, j, by omega, b, c⟩
        · rintro (z | ⟨_, j, a, b, c⟩)
          · exact Or.inl (Or.inl z)
          · by_cases e : j = k
            · subst e; exact Or.inl (Or.inr c)
            · exact Or.inr ⟨Or.inl hft, j, by omega, b, c⟩
      · unfold fR_ValueMachineModel_sweeps_L123
        rw [if_neg (nI_in (by omega) (by omega)), nI_clamp (by omega), show gA (uA st 12 f) 9 t = nI z from hz, if_neg (nI_ge (by omega) (by omega)), if_neg (show ¬ (nI t < 0 ∨ 30 ≤ t) from fun q => q.elim (nI_pos (by omega)) (by omega)), if_neg (show ¬ gA (uA st 12 f) 12 t = 0 from hft), n20, if_neg (nI_in (by omega) (by omega)), if_neg (nI_in (by omega) (by omega)), nI_clamp (by omega), show gA (uA st 12 f) 10 = gA st 10 from rfl, show gA (uA st 12 f) 11 = gA st 11 from rfl, meets_eq (hv k (by omega)), gb_ok, nI_1]
        exact h2
theorem r115 {N : Nat} {st : SG} {K : Int32 → SG → Option (Unit × SG)} {v1 : Int32} (hN : 21 ≤ N) (hz : ∀ t, t < 30 → 0 ≤ (gA st 9 t).toInt ∧ (gA st 9 t).toInt ≤ 20) {sz : Int32} {ts : Nat → Int32} (hv : ∀ t, t < 30 → ∀ k : Nat, (k : Int) < (gA st 9 t).toInt → VOk sz ts (gA st 10 (20 * t + k)) (gA st 11 (20 * t + k))) : ∀ (d t fuel : Nat) (f : Nat → Int32), t + d = 30 → d < fuel → ∃ f' : Nat → Int32, Sub f f' ∧ (∀ t' u, t ≤ t' → t' < 30 → ¬ f t' = 0 → Edge (gA st 9) (gA st 10) (gA st 11) t' u → ¬ f' u = 0) ∧ (∀ u, ¬ f u = 0 → ¬ f' u = 0) ∧ (∀ S : Nat → Prop, Clo (gA st 9) (gA st 10) (gA st 11) S → In30 f S → In30 f' S) ∧ fR_ValueMachineModel_sweeps_L115 N K fuel v1 (nI t) (uA st 12 f) = K (v1 + 1) (uA st 12 f') := by
  intro d
  induction d with
  | zero =>
    intro t fuel f hk hf
    obtain ⟨n, rfl⟩ : ∃ n, fuel = n + 1 := ⟨fuel - 1, by omega⟩
    have e : t = 30 := by omega
    subst e
    refine ⟨f, fun _ _ z => z, fun t' u a b => by omega, fun _ z => z, fun _ _ z => z, ?_⟩
    unfold fR_ValueMachineModel_sweeps_L115
    rw [if_pos (show (30 : Int32) ≤ nI 30 from by decide)]
  | succ d ih =>
    intro t fuel f hk hf
    obtain ⟨n, rfl⟩ : ∃ n, fuel = n + 1 := ⟨fuel - 1, by omega⟩
    obtain ⟨z0, z20⟩ := hz t (by omega)
    obtain ⟨z, hzz, hz20⟩ : ∃ z : Nat, gA st 9 t = nI z ∧ z ≤ 20 := ⟨(gA st 9 t).toInt.toNat, ti_of (by omega), by omega⟩
    have hzi : (gA st 9 t).toInt = (z : Int) := by rw [hzz, ti_nI (by omega)]
    obtain ⟨f1, g1, g2⟩ := r123 (N := N) (st := st) (K := fR_ValueMachineModel_sweeps_L115 N K n) (v1 := v1) (t := t) (by omega) hzz hz20 (fun k hk => hv t (by omega) k (by omega)) z 0 N f (by omega) (by omega)
    rw [nI_0] at g2
    obtain ⟨f', h1, h2, h2b, h3, h4⟩ := ih (t + 1) n f1 (by omega) (by omega)
    refine ⟨f', fun u hu hfu => h1 u hu ((g1 u).mpr (Or.inl hfu)), fun t' u a b c e => ?_, fun u hu => h2b u ((g1 u).mpr (Or.inl hu)), fun S hS hfS => h3 S hS (fun u hu hfu => ?_), ?_⟩
    · by_cases et : t' = t
      · subst et
        obtain ⟨j, e1, e2, e3⟩ := e
        exact h2b u ((g1 u).mpr (Or.inr ⟨c, j, by omega, by omega, e2, e3⟩))
      · exact h2 t' u (by omega) b ((g1 t').mpr (Or.inl c)) e
    · rcases (g1 u).mp hfu with q | ⟨q, j, e1, e2, e3, e4⟩
      · exact hfS u hu q
      · exact hS t u (by omega) (hfS t (by omega) q) ⟨j, by omega, e3, e4⟩
    · unfold fR_ValueMachineModel_sweeps_L115
      rw [if_neg (lit_ge (L := 30) (k := t) (n := 30) rfl (by omega) (by decide)), g2]
      exact h4
theorem r107 {N : Nat} {st : SG} (hN : 31 ≤ N) (hz : ∀ t, t < 30 → 0 ≤ (gA st 9 t).toInt ∧ (gA st 9 t).toInt ≤ 20) {sz : Int32} {ts : Nat → Int32} (hv : ∀ t, t < 30 → ∀ k : Nat, (k : Int) < (gA st 9 t).toInt → VOk sz ts (gA st 10 (20 * t + k)) (gA st 11 (20 * t + k))) (hE : ∀ t u : Nat, t < 30 → Edge (gA st 9) (gA st 10) (gA st 11) t u → u < 30) {f0 : Nat → Int32} : ∀ (d j fuel : Nat) (f : Nat → Int32), j + d = 30 → d < fuel → Turns (gA st 9) (gA st 10) (gA st 11) f0 f j → ∃ f' : Nat → Int32, Turns (gA st 9) (gA st 10) (gA st 11) f0 f' 30 ∧ fR_ValueMachineModel_sweeps_L107 N fuel (nI j) (uA st 12 f) = fR_ValueMachineModel_sweeps_L188 N N 0 (uA st 12 f') := by
  intro d
  induction d with
  | zero =>
    intro j fuel f hk hf ht
    obtain ⟨n, rfl⟩ : ∃ n, fuel = n + 1 := ⟨fuel - 1, by omega⟩
    have e : j = 30 := by omega
    subst e
    refine ⟨f, ht, ?_⟩
    unfold fR_ValueMachineModel_sweeps_L107
    rw [if_pos (show (30 : Int32) ≤ nI 30 from by decide)]
  | succ d ih =>
    intro j fuel f hk hf ht
    obtain ⟨n, rfl⟩ : ∃ n, fuel = n + 1 := ⟨fuel - 1, by omega⟩
    obtain ⟨f1, g1, g2, _, g3, g4⟩ := r115 (N := N) (st := st) (K := fR_ValueMachineModel_sweeps_L107 N n) (v1 := nI j) (by omega) hz hv 30 0 N f (by omega) (by omega)
    rw [nI_0] at g4
    obtain ⟨f', h1, h2⟩ := ih (j + 1) n f1 (by omega) (by omega) (Turns_s hE ht ⟨g1, fun t u a b c => g2 t u (by omega) a b c, g3⟩)
    refine ⟨f', h1, ?_⟩
    unfold fR_ValueMachineModel_sweeps_L107
    rw [if_neg (lit_ge (L := 30) (k := j) (n := 30) rfl (by omega) (by decide)), g4, nI_1]
    exact h2
theorem r188 {N : Nat} {st : SG} {f ts : Nat → Int32} (hf12 : gA st 12 = f) : ∀ (d k fuel : Nat) (g : Nat → Int32), k + d = 30 → d < fuel → (∀ j, j < k → g j = if f j = 0 then 0 else ts j) → (∀ j, k ≤ j → g j = ts j) → ∃ g' : Nat → Int32, (∀ j, j < 30 → g' j = if f j = 0 then 0 else ts j) ∧ fR_ValueMachineModel_sweeps_L188 N fuel (nI k) (uA st 8 g) = some ((), uA st 8 g') := by
  intro d
  induction d with
  | zero =>
    intro k fuel g hk hf h1 h2
    obtain ⟨n, rfl⟩ : ∃ n, fuel = n + 1 := ⟨fuel - 1, by omega⟩
    have e : k = 30 := by omega
    subst e
    refine ⟨g, h1, ?_⟩
    unfold fR_ValueMachineModel_sweeps_L188
    rw [if_pos (show (30 : Int32) ≤ nI 30 from by decide)]
  | succ d ih =>
    intro k fuel g hk hf h1 h2
    obtain ⟨n, rfl⟩ : ∃ n, fuel = n + 1 := ⟨fuel - 1, by omega⟩
    have hg : ∀ v : Int32, v = (if f k = 0 then 0 else ts k) → ∃ g' : Nat → Int32, (∀ j, j < 30 → g' j = if f j = 0 then 0 else ts j) ∧ fR_ValueMachineModel_sweeps_L188 N n (nI (k + 1)) (uA st 8 (upd g k v)) = some ((), uA st 8 g') := fun v hvv => ih (k + 1) n (upd g k v) (by omega) (by omega) (fun j hj => by
        by_cases e : j = k
        · rw [e, pk_us, hvv]
        · rw [pk_un e]; exact h1 j (by omega)) (fun j hj => by rw [pk_un (by omega)]; exact h2 j (by omega))
    have hg8 : gA (uA st 8 g) 8 = g := rfl
    have hg12 : gA (uA st 8 g) 12 k = f k := by rw [← hf12]; rfl
    by_cases hz : f k = 0
    · obtain ⟨g', q1, q2⟩ := hg 0 (by rw [if_pos hz])
      refine ⟨g', q1, ?_⟩
      unfold fR_ValueMachineModel_sweeps_L188
      rw [if_neg (lit_ge (L := 30) (k := k) (n := 30) rfl (by omega) (by decide)), if_neg (nI_in (by omega) (by omega)), nI_clamp (by omega), hg12, if_pos hz, if_neg (show ¬ (nI k < 0 ∨ 30 ≤ k) from fun q => q.elim (nI_pos (by omega)) (by omega)), hg8, uA_uA, nI_1]
      exact q2
    · obtain ⟨g', q1, q2⟩ := hg (g k) (by rw [if_neg hz]; exact h2 k (Nat.le_refl _))
      refine ⟨g', q1, ?_⟩
      unfold fR_ValueMachineModel_sweeps_L188
      rw [if_neg (lit_ge (L := 30) (k := k) (n := 30) rfl (by omega) (by decide)), if_neg (nI_in (by omega) (by omega)), nI_clamp (by omega), hg12, if_neg hz, if_neg (show ¬ (nI k < 0 ∨ 30 ≤ k) from fun q => q.elim (nI_pos (by omega)) (by omega)), if_neg (show ¬ (nI k < 0 ∨ 30 ≤ k) from fun q => q.elim (nI_pos (by omega)) (by omega)), hg8, uA_uA, nI_1]
      exact q2
/-- what is reached at once -/
def Ro (as an : Int32) (h : Nat) (ss sn gs gn : Nat → Int32) (t : Nat) : Prop := (Thg as ∧ an.toNatClampNeg = t) ∨ (∃ j, j < h ∧ Thg (ss j) ∧ (sn j).toNatClampNeg = t) ∨ (∃ j, j < 8 ∧ Thg (gs j) ∧ (gn j).toNatClampNeg = t)
def Mark (tz cs cn : Nat → Int32) (R : Nat → Prop) (f : Nat → Int32) : Prop := Clo tz cs cn (fun t => ¬ f t = 0) ∧ (∀ t, t < 30 → R t → ¬ f t = 0) ∧ ∀ S : Nat → Prop, Clo tz cs cn S → (∀ t, t < 30 → R t → S t) → In30 f S
theorem Mark_eq {tz cs cn : Nat → Int32} {R : Nat → Prop} {f g : Nat → Int32} (hf : Mark tz cs cn R f) (hg : Mark tz cs cn R g) : ∀ t : Nat, t < 30 → (f t = 0 ↔ g t = 0) := by
  intro t ht
  refine ⟨fun h => ?_, fun h => ?_⟩
  · by_cases e : g t = 0
    · exact e
    · exact absurd h (hg.2.2 _ hf.1 hf.2.1 t ht e)
  · by_cases e : f t = 0
    · exact e
    · exact absurd h (hf.2.2 _ hg.1 hg.2.1 t ht e)
theorem r_sweep {N : Nat} {m : SG} {h : Nat} (hN : 200 ≤ N) (hh : gI m 4 = nI h) (h120 : h ≤ 120) {sz : Int32} {ts : Nat → Int32} (ha : VOk sz ts (gI m 2) (gI m 3)) (hs : ∀ j, j < h → VOk sz ts (gA m 2 j) (gA m 3 j)) (hg : ∀ j, j < 8 → VOk sz ts (gA m 4 j) (gA m 5 j)) (hz : ∀ t, t < 30 → 0 ≤ (gA m 9 t).toInt ∧ (gA m 9 t).toInt ≤ 20) (hv : ∀ t, t < 30 → ∀ k : Nat, (k : Int) < (gA m 9 t).toInt → VOk sz ts (gA m 10 (20 * t + k)) (gA m 11 (20 * t + k))) (hE : ∀ t u : Nat, t < 30 → Edge (gA m 9) (gA m 10) (gA m 11) t u → u < 30) : ∃ f g : Nat → Int32, Mark (gA m 9) (gA m 10) (gA m 11) (Ro (gI m 2) (gI m 3) h (gA m 2) (gA m 3) (gA m 4) (gA m 5)) f ∧ (∀ j, j < 30 → g j = if f j = 0 then 0 else gA m 8 j) ∧ fR_ValueMachineModel_sweeps N m = some ((), uA (uA (uI m 13 (gI m 13 + 1)) 12 f) 8 g) := by
  obtain ⟨f0, a1, a2⟩ := r12 (N := N) (st := uI m 13 (gI m 13 + 1)) 30 0 N (gA m 12) (by omega) (by omega) (fun j hj => by omega)
  have hU : uA (uI m 13 (gI m 13 + 1)) 12 (gA m 12) = uI m 13 (gI m 13 + 1) := uA_self (uI m 13 (gI m 13 + 1)) 12
  rw [hU, nI_0] at a2
  have a3 := meets_eq (N := N) (st := uI m 13 (gI m 13 + 1)) (f := f0) ha
  rw [show gI (uI m 13 (gI m 13 + 1)) 2 = gI m 2 from rfl, show gI (uI m 13 (gI m 13 + 1)) 3 = gI m 3 from rfl, a3, gb_ok] at a2
  obtain ⟨f1, b1, b2⟩ := r45 (N := N) (st := uI m 13 (gI m 13 + 1)) (h := h) hh h120 (sz := sz) (ts := ts) hs h 0 N (mt f0 (gI m 2) (gI m 3)) (by omega) (by omega)
  rw [nI_0] at b2
  obtain ⟨f2, c1, c2⟩ := r77 (N := N) (st := uI m 13 (gI m 13 + 1)) (sz := sz) (ts := ts) hg 8 0 N f1 (by omega) (by omega)
  rw [nI_0] at c2
  obtain ⟨f3, d1, d2⟩ := r107 (N := N) (st := uI m 13 (gI m 13 + 1)) (by omega) hz hv hE 30 0 N f2 (by omega) (by omega) Turns_0
  rw [nI_0] at d2
  obtain ⟨g, e1, e2⟩ := r188 (N := N) (st := uA (uI m 13 (gI m 13 + 1)) 12 f3) (f := f3) (ts := gA m 8) rfl 30 0 N (gA m 8) (by omega) (by omega) (fun j hj => by omega) (fun j _ => rfl)
  have hU2 : uA (uA (uI m 13 (gI m 13 + 1)) 12 f3) 8 (gA m 8) = uA (uI m 13 (gI m 13 + 1)) 12 f3 := uA_self (uA (uI m 13 (gI m 13 + 1)) 12 f3) 8
  rw [hU2, nI_0] at e2
  have hr : ∀ t, t < 30 → (¬ f2 t = 0 ↔ Ro (gI m 2) (gI m 3) h (gA m 2) (gA m 3) (gA m 4) (gA m 5) t) := by
    intro t ht
    rw [c1 t, b1 t, mt_iff]
    constructor
    · rintro (((z | z) | ⟨j, _, z1, z2⟩) | ⟨j, _, z1, z2⟩)
      · exact absurd (a1 t ht) z
      · exact Or.inl z
      · exact Or.inr (Or.inl ⟨j, z1, z2⟩)
      · exact Or.inr (Or.inr ⟨j, z1, z2⟩)
    · rintro (z | ⟨j, z1, z2⟩ | ⟨j, z1, z2⟩)
      · exact Or.inl (Or.inl (Or.inr z))
      · exact Or.inl (Or.inr ⟨j, by omega, z1, z2⟩)
      · exact Or.inr ⟨j, by omega, z1, z2⟩
  refine ⟨f3, g, ⟨Turns_30 d1, fun t ht z => d1.1 t ht ((hr t ht).mpr z), fun S hS hR => d1.2.1 S hS (fun t ht z => hR t ht ((hr t ht).mp z))⟩, e1, ?_⟩
  unfold fR_ValueMachineModel_sweeps
  rw [a2, b2, c2, d2, e2]
