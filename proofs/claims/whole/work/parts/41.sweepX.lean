/-! the class's sweep -/
def XS (st : SG) (f rows : Nat → Int32) (c : Int32) : SG := uI (uA (uA st 6 f) 7 rows) 3 c
theorem uI_self (s : SG) (k : Nat) : uI s k (gI s k) = s := by
  have h : va_up s.1 k (s.1 k) = s.1 := by
    funext j
    unfold va_up
    by_cases e : j = k
    · rw [if_pos e, e]
    · rw [if_neg e]
  show (va_up s.1 k (s.1 k), s.2) = s
  rw [h]
theorem XS_self (s : SG) : XS s (gA s 6) (gA s 7) (gI s 3) = s := by
  unfold XS
  rw [uA_self, uA_self, uI_self]
theorem XS_upd (st : SG) (f rows f' rows' : Nat → Int32) (c c' : Int32) : uI (uA (uA (XS st f rows c) 6 f') 7 rows') 3 c' = XS st f' rows' c' := by
  have h : va_up (va_up (va_up (va_up st.2.2.1 6 f) 7 rows) 6 f') 7 rows' = va_up (va_up st.2.2.1 6 f') 7 rows' := by
    funext j
    unfold va_up
    by_cases e : j = 7
    · rw [if_pos e, if_pos e]
    · rw [if_neg e, if_neg e, if_neg e]
      by_cases e6 : j = 6
      · rw [if_pos e6, if_pos e6]
      · rw [if_neg e6, if_neg e6, if_neg e6]
  show (va_up (va_up st.1 3 c) 3 c', st.2.1, va_up (va_up (va_up (va_up st.2.2.1 6 f) 7 rows) 6 f') 7 rows', st.2.2.2) = (va_up st.1 3 c', st.2.1, va_up (va_up st.2.2.1 6 f') 7 rows', st.2.2.2)
  rw [h, bx_uu]
theorem isThing_eq (N : Nat) (st : SG) (s n : Int32) : fX_Value_isThing N st (pk s n) = some (if s = 4 ∨ s = 5 then 1 else 0, st) := by
  unfold fX_Value_isThing
  rw [pk_sort]
  by_cases h4 : s = 4
  · rw [if_pos h4, if_pos (Or.inl h4)]
  · rw [if_neg h4]
    by_cases h5 : s = 5
    · rw [if_pos h5, if_pos (Or.inr h5)]
    · rw [if_neg h5, if_neg (fun z => z.elim h4 h5)]
def Re (f rows : Nat → Int32) (c : Nat) (f' rows' : Nat → Int32) (c' : Nat) : Prop := WI f' rows' c' ∧ c ≤ c' ∧ ∀ i, i < c → rows' i = rows i
theorem Re_rf {f rows : Nat → Int32} {c : Nat} (h : WI f rows c) : Re f rows c f rows c := ⟨h, Nat.le_refl _, fun _ _ => rfl⟩
theorem Re_tr {f rows f1 rows1 f2 rows2 : Nat → Int32} {c c1 c2 : Nat} (h : Re f rows c f1 rows1 c1) (h' : Re f1 rows1 c1 f2 rows2 c2) : Re f rows c f2 rows2 c2 := by
  obtain ⟨_, b, d⟩ := h
  obtain ⟨a', b', d'⟩ := h'
  exact ⟨a', by omega, fun i hi => (d' i (by omega)).trans (d i hi)⟩
theorem x_reach {N : Nat} {st : SG} {f rows : Nat → Int32} {c : Nat} {s n sz : Int32} {ts : Nat → Int32} (hW : WI f rows c) (hv : VOk sz ts s n) : ∃ (f' rows' : Nat → Int32) (c' : Nat), Re f rows c f' rows' c' ∧ (∀ t, ¬ f' t = 0 ↔ ¬ f t = 0 ∨ (Thg s ∧ n.toNatClampNeg = t)) ∧ fX_Store_reach N (XS st f rows (nI c)) (pk s n) = some ((), XS st f' rows' (nI c')) := by
  unfold fX_Store_reach
  rw [isThing_eq, gb_ok]
  by_cases hs : s = 4 ∨ s = 5
  · obtain ⟨h0, h1, _⟩ := VOk_thing hv hs
    rw [if_pos hs, if_neg (by decide : ¬ (1 : Int32) = 0)]
    unfold fX_Value_numberOf
    rw [pk_num, gb_ok, if_neg (ti_in h0 (by omega)), show gA (XS st f rows (nI c)) 6 = f from rfl]
    by_cases hf : f n.toNatClampNeg = 0
    · obtain ⟨hc, hW'⟩ := WI_add hW h0 h1 hf
      refine ⟨_, _, _, ⟨hW', by omega, fun i hi => pk_un (by omega)⟩, fun t => ?_, ?_⟩
      · by_cases e : t = n.toNatClampNeg
        · rw [e, pk_us]; exact ⟨fun _ => Or.inr ⟨hs, rfl⟩, fun _ => by decide⟩
        · rw [pk_un e]; exact ⟨fun z => Or.inl z, fun z => z.elim id (fun z => absurd z.2.symm e)⟩
      · rw [if_pos hf, gb_ok, if_neg (ti_in h0 (by omega)), show gI (XS st f rows (nI c)) 3 = nI c from rfl, if_neg (nI_in hc (by decide)), nI_clamp (by omega), vn_1, show gA (XS st f rows (nI c)) 7 = rows from rfl, show gA (XS st f rows (nI c)) 6 = f from rfl, nI_1, XS_upd]
    · rw [if_neg hf]
      refine ⟨f, rows, c, Re_rf hW, fun t => ⟨fun z => Or.inl z, fun z => z.elim id (fun z => by rw [← z.2]; exact hf)⟩, rfl⟩
  · rw [if_neg hs, if_pos rfl]
    exact ⟨f, rows, c, Re_rf hW, fun t => ⟨fun z => Or.inl z, fun z => z.elim id (fun z => absurd z.1 hs)⟩, rfl⟩
theorem x17 {N : Nat} {st : SG} : ∀ (d k fuel : Nat) (f : Nat → Int32), k + d = 30 → d < fuel → (∀ j, j < k → f j = 0) → ∃ f' : Nat → Int32, (∀ j, j < 30 → f' j = 0) ∧ fX_Store_beginSweep_L17 N fuel (nI k) (uA st 6 f) = some ((), uA st 6 f') := by
  intro d
  induction d with
  | zero =>
    intro k fuel f hk hf hz
    obtain ⟨n, rfl⟩ : ∃ n, fuel = n + 1 := ⟨fuel - 1, by omega⟩
    have e : k = 30 := by omega
    subst e
    refine ⟨f, hz, ?_⟩
    unfold fX_Store_beginSweep_L17
    rw [if_pos (show (30 : Int32) ≤ nI 30 from by decide)]
  | succ d ih =>
    intro k fuel f hk hf hz
    obtain ⟨n, rfl⟩ : ∃ n, fuel = n + 1 := ⟨fuel - 1, by omega⟩
    obtain ⟨f', h1, h2⟩ := ih (k + 1) n (upd f k 0) (by omega) (by omega) (fun j hj => by
      by_cases e : j = k
      · rw [e, pk_us]
      · rw [pk_un e]; exact hz j (by omega))
    refine ⟨f', h1, ?_⟩
    unfold fX_Store_beginSweep_L17
    rw [if_neg (lit_ge (L := 30) (k := k) (n := 30) rfl (by omega) (by decide)), if_neg (nI_in (by omega) (by omega)), nI_clamp (by omega), nI_1, vn_0, uA_uA]
    exact h2
theorem x65 {N : Nat} {st : SG} {gs gn : Nat → Int32} {sz : Int32} {ts : Nat → Int32} (hv : ∀ j, j < 8 → gB st 2 j = pk (gs j) (gn j) ∧ VOk sz ts (gs j) (gn j)) : ∀ (d k fuel : Nat) (f rows : Nat → Int32) (c : Nat), k + d = 8 → d < fuel → WI f rows c → ∃ (f' rows' : Nat → Int32) (c' : Nat), WI f' rows' c' ∧ (∀ t, ¬ f' t = 0 ↔ ¬ f t = 0 ∨ ∃ j, k ≤ j ∧ j < 8 ∧ Thg (gs j) ∧ (gn j).toNatClampNeg = t) ∧ fX_ValueMachine_sweepIfFull_L65 N fuel (nI k) (XS st f rows (nI c)) = fX_Store_endSweep N (XS st f' rows' (nI c')) := by
  intro d
  induction d with
  | zero =>
    intro k fuel f rows c hk hf hW
    obtain ⟨n, rfl⟩ : ∃ n, fuel = n + 1 := ⟨fuel - 1, by omega⟩
    have e : k = 8 := by omega
    subst e
    refine ⟨f, rows, c, hW, fun t => ⟨fun z => Or.inl z, fun z => z.elim id (fun ⟨j, a, b, _⟩ => by omega)⟩, ?_⟩
    unfold fX_ValueMachine_sweepIfFull_L65
    rw [if_pos (show (8 : Int32) ≤ nI 8 from by decide), gb_id]
  | succ d ih =>
    intro k fuel f rows c hk hf hW
    obtain ⟨n, rfl⟩ : ∃ n, fuel = n + 1 := ⟨fuel - 1, by omega⟩
    obtain ⟨hv1, hv2⟩ := hv k (by omega)
    obtain ⟨f1, rows1, c1, g1, g2, g3⟩ := x_reach (N := N) (st := st) hW hv2
    obtain ⟨f', rows', c', h0, h1, h2⟩ := ih (k + 1) n f1 rows1 c1 (by omega) (by omega) g1.1
    refine ⟨f', rows', c', h0, fun t => ?_, ?_⟩
    · rw [h1 t, g2]
      constructor
      · rintro ((z | ⟨z1, z2⟩) | ⟨j, a, b, c⟩)
        · exact Or.inl z
        · exact Or.inr ⟨k, by omega, by omega, z1, z2⟩
        · exact Or.inr ⟨j, by omega, b, c⟩
      · rintro (z | ⟨j, a, b, c⟩)
        · exact Or.inl (Or.inl z)
        · by_cases e : j = k
          · subst e; exact Or.inl (Or.inr c)
          · exact Or.inr ⟨j, by omega, b, c⟩
    · unfold fX_ValueMachine_sweepIfFull_L65
      rw [if_neg (lit_ge (L := 8) (k := k) (n := 8) rfl (by omega) (by decide)), if_neg (nI_in (by omega) (by omega)), nI_clamp (by omega), show gB (XS st f rows (nI c)) 2 k = gB st 2 k from rfl, hv1, g3, gb_ok, nI_1]
      exact h2
theorem x31 {N : Nat} {st : SG} {h : Nat} (hh : gI st 1 = nI h) (h120 : h ≤ 120) {ss sn : Nat → Int32} {sz : Int32} {ts : Nat → Int32} (hv : ∀ j, j < h → gB st 0 j = pk (ss j) (sn j) ∧ VOk sz ts (ss j) (sn j)) : ∀ (d k fuel : Nat) (f rows : Nat → Int32) (c : Nat), k + d = h → d < fuel → WI f rows c → ∃ (f' rows' : Nat → Int32) (c' : Nat), WI f' rows' c' ∧ (∀ t, ¬ f' t = 0 ↔ ¬ f t = 0 ∨ ∃ j, j < d ∧ Thg (ss j) ∧ (sn j).toNatClampNeg = t) ∧ fX_ValueMachine_sweepIfFull_L31 N fuel (nI k) (XS st f rows (nI c)) = fX_ValueMachine_sweepIfFull_L65 N N 0 (XS st f' rows' (nI c')) := by
  intro d
  induction d with
  | zero =>
    intro k fuel f rows c hk hf hW
    obtain ⟨n, rfl⟩ : ∃ n, fuel = n + 1 := ⟨fuel - 1, by omega⟩
    have e : k = h := by omega
    subst e
    refine ⟨f, rows, c, hW, fun t => ⟨fun z => Or.inl z, fun z => z.elim id (fun ⟨j, a, _⟩ => by omega)⟩, ?_⟩
    unfold fX_ValueMachine_sweepIfFull_L31
    rw [show gI (XS st f rows (nI c)) 1 = nI k from hh, if_pos (nI_le (Nat.le_refl _) (by omega))]
  | succ d ih =>
    intro k fuel f rows c hk hf hW
    obtain ⟨n, rfl⟩ : ∃ n, fuel = n + 1 := ⟨fuel - 1, by omega⟩
    obtain ⟨hv1, hv2⟩ := hv d (by omega)
    obtain ⟨f1, rows1, c1, g1, g2, g3⟩ := x_reach (N := N) (st := st) hW hv2
    obtain ⟨f', rows', c', h0, h1, h2⟩ := ih (k + 1) n f1 rows1 c1 (by omega) (by omega) g1.1
    refine ⟨f', rows', c', h0, fun t => ?_, ?_⟩
    · rw [h1 t, g2]
      constructor
      · rintro ((z | ⟨z1, z2⟩) | ⟨j, a, b⟩)
        · exact Or.inl z
        · exact Or.inr ⟨d, by omega, z1, z2⟩
        · exact Or.inr ⟨j, by omega, b⟩
      · rintro (z | ⟨j, a, b⟩)
        · exact Or.inl (Or.inl z)
        · by_cases e : j = d
          · subst e; exact Or.inl (Or.inr b)
          · exact Or.inr ⟨j, by omega, b⟩
    · have ei : nI h - 1 - nI k = nI d := by
        have e : h = (k + d) + 1 := by omega
        rw [e, nI_pred, pk_sub (by omega)]
        congr 1
        omega
      unfold fX_ValueMachine_sweepIfFull_L31 fX_ValueStack_at
      rw [show gI (XS st f rows (nI c)) 1 = nI h from hh, if_neg (nI_ge (by omega) (by omega)), ei, if_neg (nI_in (by omega) (by omega)), gb_ok, nI_clamp (by omega), show gB (XS st f rows (nI c)) 0 d = gB st 0 d from rfl, hv1, g3, gb_ok, nI_1]
      exact h2
theorem x43 {N : Nat} {st : SG} {K : Int32 → SG → Option (Unit × SG)} {v1 : Int32} {t z : Nat} (ht : t < 30) (hz20 : z ≤ 20) {cs cn : Nat → Int32} {sz : Int32} {ts : Nat → Int32} (hv : ∀ k, k < z → gB st 1 (20 * t + k) = pk (cs (20 * t + k)) (cn (20 * t + k)) ∧ VOk sz ts (cs (20 * t + k)) (cn (20 * t + k))) : ∀ (d k fuel : Nat) (f rows : Nat → Int32) (c : Nat), k + d = z → d < fuel → WI f rows c → ∃ (f' rows' : Nat → Int32) (c' : Nat), Re f rows c f' rows' c' ∧ (∀ u, ¬ f' u = 0 ↔ ¬ f u = 0 ∨ ∃ j, k ≤ j ∧ j < z ∧ Thg (cs (20 * t + j)) ∧ (cn (20 * t + j)).toNatClampNeg = u) ∧ fX_Store_endSweep_L43 N K fuel v1 (nI (20 * t + z)) (nI (20 * t + k)) (XS st f rows (nI c)) = K (v1 + 1) (XS st f' rows' (nI c')) := by
  intro d
  induction d with
  | zero =>
    intro k fuel f rows c hk hf hW
    obtain ⟨n, rfl⟩ : ∃ n, fuel = n + 1 := ⟨fuel - 1, by omega⟩
    have e : k = z := by omega
    subst e
    refine ⟨f, rows, c, Re_rf hW, fun t => ⟨fun z => Or.inl z, fun z => z.elim id (fun ⟨j, a, b, _⟩ => by omega)⟩, ?_⟩
    unfold fX_Store_endSweep_L43
    rw [if_pos (nI_le (Nat.le_refl _) (by omega))]
  | succ d ih =>
    intro k fuel f rows c hk hf hW
    obtain ⟨n, rfl⟩ : ∃ n, fuel = n + 1 := ⟨fuel - 1, by omega⟩
    obtain ⟨hv1, hv2⟩ := hv k (by omega)
    obtain ⟨f1, rows1, c1, g1, g2, g3⟩ := x_reach (N := N) (st := st) hW hv2
    obtain ⟨f', rows', c', h0, h1, h2⟩ := ih (k + 1) n f1 rows1 c1 (by omega) (by omega) g1.1
    refine ⟨f', rows', c', Re_tr g1 h0, fun u => ?_, ?_⟩
    · rw [h1 u, g2]
      constructor
      · rintro ((z | ⟨z1, z2⟩) | ⟨j, a, b, c⟩)
        · exact Or.inl z
        · exact Or.inr ⟨k, by omega, by omega, z1, z2⟩
        · exact Or.inr ⟨j, by omega, b, c⟩
      · rintro (z | ⟨j, a, b, c⟩)
        · exact Or.inl (Or.inl z)
        · by_cases e : j = k
          · subst e; exact Or.inl (Or.inr c)
          · exact Or.inr ⟨j, by omega, b, c⟩
    · unfold fX_Store_endSweep_L43
      rw [if_neg (nI_ge (by omega) (by omega)), if_neg (nI_in (by omega) (by omega)), nI_clamp (by omega), show gB (XS st f rows (nI c)) 1 (20 * t + k) = gB st 1 (20 * t + k) from rfl, hv1, g3, gb_ok, nI_1]
      exact h2
theorem n20b (t : Nat) : nI t * 20 = nI (20 * t) := by
  rw [show (20 : Int32) = nI 20 from rfl, pk_mul, Nat.mul_comm]
theorem x2L {N : Nat} {st : SG} (hN : 31 ≤ N) {tz cs cn : Nat → Int32} (hz : ∀ t, t < 30 → 0 ≤ (tz t).toInt ∧ (tz t).toInt ≤ 20 ∧ gA st 4 t = tz t) {sz : Int32} {ts : Nat → Int32} (hv : ∀ t, t < 30 → ∀ k : Nat, (k : Int) < (tz t).toInt → gB st 1 (20 * t + k) = pk (cs (20 * t + k)) (cn (20 * t + k)) ∧ VOk sz ts (cs (20 * t + k)) (cn (20 * t + k))) : ∀ (d i fuel : Nat) (f rows : Nat → Int32) (c : Nat), i + d = 30 → d < fuel → WI f rows c → i ≤ c → (∀ i', i' < i → ∀ u, Edge tz cs cn (rows i').toNatClampNeg u → ¬ f u = 0) → ∃ (f' rows' : Nat → Int32) (c' : Nat), WI f' rows' c' ∧ (∀ u, ¬ f u = 0 → ¬ f' u = 0) ∧ Clo tz cs cn (fun t => ¬ f' t = 0) ∧ (∀ S : Nat → Prop, Clo tz cs cn S → In30 f S → In30 f' S) ∧ fX_Store_endSweep_L2 N fuel (nI i) (XS st f rows (nI c)) = fX_Store_endSweep_L74 N N 0 (XS st f' rows' (nI c')) := by
  intro d
  induction d with
  | zero =>
    intro i fuel f rows c hk hf hW hic hd
    obtain ⟨n, rfl⟩ : ∃ n, fuel = n + 1 := ⟨fuel - 1, by omega⟩
    have hc30 : c ≤ 30 := by rw [hW.1]; exact cnt_le f 30
    refine ⟨f, rows, c, hW, fun _ z => z, fun t u ht hft he => ?_, fun _ _ z => z, ?_⟩
    · obtain ⟨i', a, b⟩ := hW.2.2.2 t ht hft
      exact hd i' (by omega) u (by rw [b]; exact he)
    · unfold fX_Store_endSweep_L2
      rw [show gI (XS st f rows (nI c)) 3 = nI c from rfl, if_pos (nI_le (by omega) (by omega))]
  | succ d ih =>
    intro i fuel f rows c hk hf hW hic hd
    obtain ⟨n, rfl⟩ : ∃ n, fuel = n + 1 := ⟨fuel - 1, by omega⟩
    have hc30 : c ≤ 30 := by rw [hW.1]; exact cnt_le f 30
    by_cases hci : c ≤ i
    · refine ⟨f, rows, c, hW, fun _ z => z, fun t u ht hft he => ?_, fun _ _ z => z, ?_⟩
      · obtain ⟨i', a, b⟩ := hW.2.2.2 t ht hft
        exact hd i' (by omega) u (by rw [b]; exact he)
      · unfold fX_Store_endSweep_L2
        rw [show gI (XS st f rows (nI c)) 3 = nI c from rfl, if_pos (nI_le (by omega) (by omega))]
    · obtain ⟨r0, r1, r2⟩ := hW.2.2.1 i (by omega)
      obtain ⟨t, hrt, ht⟩ : ∃ t : Nat, rows i = nI t ∧ t < 30 := ⟨(rows i).toInt.toNat, ti_of (by omega), by omega⟩
      have hrc : (rows i).toNatClampNeg = t := by rw [hrt, nI_clamp (by omega)]
      obtain ⟨z0, z20, z4⟩ := hz t ht
      obtain ⟨z, hzz, hz20⟩ : ∃ z : Nat, tz t = nI z ∧ z ≤ 20 := ⟨(tz t).toInt.toNat, ti_of (by omega), by omega⟩
      have hzi : (tz t).toInt = (z : Int) := by rw [hzz, ti_nI (by omega)]
      obtain ⟨f1, rows1, c1, g1, g2, g3⟩ := x43 (N := N) (st := st) (K := fX_Store_endSweep_L2 N n) (v1 := nI i) ht hz20 (fun k hk => hv t ht k (by omega)) z 0 N f rows c (by omega) (by omega) hW
      rw [hrc] at r2
      obtain ⟨w1, w2, w3⟩ := id g1
      obtain ⟨f', rows', c', h0, h1, h2, h3, h4⟩ := ih (i + 1) n f1 rows1 c1 (by omega) (by omega) w1 (by omega) (fun i' hi' u he => by
        by_cases e : i' = i
        · subst e
          rw [w3 i' (by omega), hrc] at he
          obtain ⟨j, e1, e2, e3⟩ := he
          exact (g2 u).mpr (Or.inr ⟨j, by omega, by omega, e2, e3⟩)
        · rw [w3 i' (by omega)] at he
          exact (g2 u).mpr (Or.inl (hd i' (by omega) u he)))
      refine ⟨f', rows', c', h0, fun u hu => h1 u ((g2 u).mpr (Or.inl hu)), h2, fun S hS hfS => h3 S hS (fun u hu hfu => ?_), ?_⟩
      · rcases (g2 u).mp hfu with q | ⟨j, e1, e2, e3, e4⟩
        · exact hfS u hu q
        · exact hS t u ht (hfS t ht r2) ⟨j, by omega, e3, e4⟩
      · unfold fX_Store_endSweep_L2
        rw [show gI (XS st f rows (nI c)) 3 = nI c from rfl, if_neg (nI_ge (by omega) (by omega)), if_neg (lit_ge (L := 30) (k := i) (n := 30) rfl (by omega) (by decide)), if_neg (nI_in (by omega) (by omega)), if_neg (nI_in (by omega) (by omega)), nI_clamp (by omega), show gA (XS st f rows (nI c)) 7 i = nI t from hrt, if_neg (nI_in (by omega) (by omega)), nI_clamp (by omega), show gA (XS st f rows (nI c)) 4 t = nI z from z4.trans hzz, n20b, nI_add]
        rw [Nat.add_zero] at g3
        rw [g3, nI_1]
        exact h4
theorem vn_01 {v : Int32} (h : v = 0 ∨ v = 1) : vp_nar .boolean v = v := by
  rcases h with rfl | rfl <;> rfl
theorem x74 {N : Nat} {st : SG} {f : Nat → Int32} (hf6 : gA st 6 = f) (h01 : ∀ t, t < 30 → f t = 0 ∨ f t = 1) : ∀ (d k fuel : Nat) (g : Nat → Int32), k + d = 30 → d < fuel → (∀ j, j < k → g j = f j) → ∃ g' : Nat → Int32, (∀ j, j < 30 → g' j = f j) ∧ fX_Store_endSweep_L74 N fuel (nI k) (uA st 5 g) = some ((), uI (uA st 5 g') 4 (gI st 3)) := by
  intro d
  induction d with
  | zero =>
    intro k fuel g hk hf h1
    obtain ⟨n, rfl⟩ : ∃ n, fuel = n + 1 := ⟨fuel - 1, by omega⟩
    have e : k = 30 := by omega
    subst e
    refine ⟨g, h1, ?_⟩
    unfold fX_Store_endSweep_L74
    rw [if_pos (show (30 : Int32) ≤ nI 30 from by decide)]
    rfl
  | succ d ih =>
    intro k fuel g hk hf h1
    obtain ⟨n, rfl⟩ : ∃ n, fuel = n + 1 := ⟨fuel - 1, by omega⟩
    obtain ⟨g', q1, q2⟩ := ih (k + 1) n (upd g k (f k)) (by omega) (by omega) (fun j hj => by
      by_cases e : j = k
      · rw [e, pk_us]
      · rw [pk_un e]; exact h1 j (by omega))
    refine ⟨g', q1, ?_⟩
    have hg6 : gA (uA st 5 g) 6 k = f k := by rw [← hf6]; rfl
    unfold fX_Store_endSweep_L74
    rw [if_neg (lit_ge (L := 30) (k := k) (n := 30) rfl (by omega) (by decide)), if_neg (nI_in (by omega) (by omega)), if_neg (nI_in (by omega) (by omega)), nI_clamp (by omega), hg6, vn_01 (h01 k (by omega)), show gA (uA st 5 g) 5 = g from rfl, uA_uA, nI_1]
    exact q2
/-- the class's sweep, when all rows are taken -/
theorem x_sweep {N : Nat} {x : SG} {h : Nat} (hN : 200 ≤ N) (hfull : gI x 4 = 30) (hh : gI x 1 = nI h) (h120 : h ≤ 120) {as an : Int32} {ss sn gs gn tz cs cn : Nat → Int32} {sz : Int32} {ts : Nat → Int32} (ha : gL x 0 = pk as an ∧ VOk sz ts as an) (hs : ∀ j, j < h → gB x 0 j = pk (ss j) (sn j) ∧ VOk sz ts (ss j) (sn j)) (hg : ∀ j, j < 8 → gB x 2 j = pk (gs j) (gn j) ∧ VOk sz ts (gs j) (gn j)) (hz : ∀ t, t < 30 → 0 ≤ (tz t).toInt ∧ (tz t).toInt ≤ 20 ∧ gA x 4 t = tz t) (hv : ∀ t, t < 30 → ∀ k : Nat, (k : Int) < (tz t).toInt → gB x 1 (20 * t + k) = pk (cs (20 * t + k)) (cn (20 * t + k)) ∧ VOk sz ts (cs (20 * t + k)) (cn (20 * t + k))) : ∃ (Y : SG) (f rows g : Nat → Int32) (c : Nat), (∃ f0 : Nat → Int32, Y = uA (uI (uI x 6 (gI x 6 + 1)) 3 0) 6 f0) ∧ Mark tz cs cn (Ro as an h ss sn gs gn) f ∧ c = cnt f 30 ∧ (∀ t, t < 30 → f t = 0 ∨ f t = 1) ∧ (∀ j, j < 30 → g j = f j) ∧ fX_ValueMachine_sweepIfFull N x = some ((), uI (uA (XS Y f rows (nI c)) 5 g) 4 (nI c)) := by
  obtain ⟨f0, a1, a2⟩ := x17 (N := N) (st := uI (uI x 6 (gI x 6 + 1)) 3 0) 30 0 N (gA x 6) (by omega) (by omega) (fun j hj => by omega)
  have hU : uA (uI (uI x 6 (gI x 6 + 1)) 3 0) 6 (gA x 6) = uI (uI x 6 (gI x 6 + 1)) 3 0 := uA_self (uI (uI x 6 (gI x 6 + 1)) 3 0) 6
  rw [hU, nI_0] at a2
  have hY := XS_self (uA (uI (uI x 6 (gI x 6 + 1)) 3 0) 6 f0)
  have hY : XS (uA (uI (uI x 6 (gI x 6 + 1)) 3 0) 6 f0) f0 (gA x 7) (nI 0) = uA (uI (uI x 6 (gI x 6 + 1)) 3 0) 6 f0 := hY
  have hW0 : WI f0 (gA x 7) 0 := ⟨(cnt_zero a1).symm, fun t ht => Or.inl (a1 t ht), fun i hi => by omega, fun t ht hz => absurd (a1 t ht) hz⟩
  obtain ⟨f1, rows1, c1, b1, b2, b3⟩ := x_reach (N := N) (st := uA (uI (uI x 6 (gI x 6 + 1)) 3 0) 6 f0) hW0 ha.2
  rw [hY] at b3
  obtain ⟨f2, rows2, c2, d1, d2, d3⟩ := x31 (N := N) (st := uA (uI (uI x 6 (gI x 6 + 1)) 3 0) 6 f0) (h := h) hh h120 (ss := ss) (sn := sn) (sz := sz) (ts := ts) hs h 0 N f1 rows1 c1 (by omega) (by omega) b1.1
  rw [nI_0] at d3
  obtain ⟨f3, rows3, c3, e1, e2, e3⟩ := x65 (N := N) (st := uA (uI (uI x 6 (gI x 6 + 1)) 3 0) 6 f0) (gs := gs) (gn := gn) (sz := sz) (ts := ts) hg 8 0 N f2 rows2 c2 (by omega) (by omega) d1
  rw [nI_0] at e3
  obtain ⟨f4, rows4, c4, k1, k2, k3, k4, k5⟩ := x2L (N := N) (st := uA (uI (uI x 6 (gI x 6 + 1)) 3 0) 6 f0) (by omega) hz hv 30 0 N f3 rows3 c3 (by omega) (by omega) e1 (by omega) (fun i' hi' => by omega)
  rw [nI_0] at k5
  obtain ⟨g, l1, l2⟩ := x74 (N := N) (st := XS (uA (uI (uI x 6 (gI x 6 + 1)) 3 0) 6 f0) f4 rows4 (nI c4)) (f := f4) rfl k1.2.1 30 0 N (gA x 5) (by omega) (by omega) (fun j hj => by omega)
  have hU2 : uA (XS (uA (uI (uI x 6 (gI x 6 + 1)) 3 0) 6 f0) f4 rows4 (nI c4)) 5 (gA x 5) = XS (uA (uI (uI x 6 (gI x 6 + 1)) 3 0) 6 f0) f4 rows4 (nI c4) := uA_self (XS (uA (uI (uI x 6 (gI x 6 + 1)) 3 0) 6 f0) f4 rows4 (nI c4)) 5
  rw [hU2, nI_0] at l2
  have hr : ∀ t, t < 30 → (¬ f3 t = 0 ↔ Ro as an h ss sn gs gn t) := by
    intro t ht
    rw [e2 t, d2 t, b2 t]
    constructor
    · rintro (((z | z) | ⟨j, z1, z2⟩) | ⟨j, _, z1, z2⟩)
      · exact absurd (a1 t ht) z
      · exact Or.inl z
      · exact Or.inr (Or.inl ⟨j, z1, z2⟩)
      · exact Or.inr (Or.inr ⟨j, z1, z2⟩)
    · rintro (z | ⟨j, z1, z2⟩ | ⟨j, z1, z2⟩)
      · exact Or.inl (Or.inl (Or.inr z))
      · exact Or.inl (Or.inr ⟨j, z1, z2⟩)
      · exact Or.inr ⟨j, by omega, z1, z2⟩
  refine ⟨_, f4, rows4, g, c4, ⟨f0, rfl⟩, ⟨k3, fun t ht z => k2 t ((hr t ht).mpr z), fun S hS hR => k4 S hS (fun t ht z => hR t ht ((hr t ht).mp z))⟩, k1.1, k1.2.1, l1, ?_⟩
  unfold fX_ValueMachine_sweepIfFull fX_Store_isFull
  rw [if_neg (show ¬ gI x 4 < 30 from by rw [hfull]; decide), gb_ok, if_neg (by decide : ¬ (1 : Int32) = 0)]
  unfold fX_Store_beginSweep
  rw [a2, gb_ok, show gL (uA (uI (uI x 6 (gI x 6 + 1)) 3 0) 6 f0) 0 = gL x 0 from rfl, ha.1, b3, gb_ok, d3, e3]
  unfold fX_Store_endSweep
  rw [k5, l2]
  rfl
