/-! getters over setters -/
theorem gI_uI (s : SG) (k j : Nat) (v : Int32) : gI (uI s k v) j = if j = k then v else gI s j := rfl
theorem gI_uL (s : SG) (k j : Nat) (v : Int64) : gI (uL s k v) j = gI s j := rfl
theorem gI_uA (s : SG) (k j : Nat) (v : Nat → Int32) : gI (uA s k v) j = gI s j := rfl
theorem gI_uB (s : SG) (k j : Nat) (v : Nat → Int64) : gI (uB s k v) j = gI s j := rfl
theorem gL_uI (s : SG) (k j : Nat) (v : Int32) : gL (uI s k v) j = gL s j := rfl
theorem gL_uL (s : SG) (k j : Nat) (v : Int64) : gL (uL s k v) j = if j = k then v else gL s j := rfl
theorem gL_uA (s : SG) (k j : Nat) (v : Nat → Int32) : gL (uA s k v) j = gL s j := rfl
theorem gL_uB (s : SG) (k j : Nat) (v : Nat → Int64) : gL (uB s k v) j = gL s j := rfl
theorem gA_uI (s : SG) (k j : Nat) (v : Int32) : gA (uI s k v) j = gA s j := rfl
theorem gA_uL (s : SG) (k j : Nat) (v : Int64) : gA (uL s k v) j = gA s j := rfl
theorem gA_uA (s : SG) (k j : Nat) (v : Nat → Int32) : gA (uA s k v) j = if j = k then v else gA s j := rfl
theorem gA_uB (s : SG) (k j : Nat) (v : Nat → Int64) : gA (uB s k v) j = gA s j := rfl
theorem gB_uI (s : SG) (k j : Nat) (v : Int32) : gB (uI s k v) j = gB s j := rfl
theorem gB_uL (s : SG) (k j : Nat) (v : Int64) : gB (uL s k v) j = gB s j := rfl
theorem gB_uA (s : SG) (k j : Nat) (v : Nat → Int32) : gB (uA s k v) j = gB s j := rfl
theorem gB_uB (s : SG) (k j : Nat) (v : Nat → Int64) : gB (uB s k v) j = if j = k then v else gB s j := rfl
theorem uI_uI (s : SG) (k : Nat) (v z : Int32) : uI (uI s k v) k z = uI s k z := by
  simp only [uI, bx_uu]
theorem uA_uA (s : SG) (k : Nat) (v z : Nat → Int32) : uA (uA s k v) k z = uA s k z := by
  simp only [uA, bx_uu]
theorem uB_uB (s : SG) (k : Nat) (v z : Nat → Int64) : uB (uB s k v) k z = uB s k z := by
  simp only [uB, bx_uu]
theorem gb_ok {α β : Type} (r : α) (u : SG) (f : α → SG → Option β) : gb (some (r, u)) f = f r u := rfl
/-! ints -/
theorem ti_add {a b : Int32} (h1 : -2147483648 ≤ a.toInt + b.toInt) (h2 : a.toInt + b.toInt < 2147483648) : (a + b).toInt = a.toInt + b.toInt := by
  rw [Int32.toInt_add]
  exact Int.bmod_eq_of_le (by omega) (by omega)
theorem ti_sub {a b : Int32} (h1 : -2147483648 ≤ a.toInt - b.toInt) (h2 : a.toInt - b.toInt < 2147483648) : (a - b).toInt = a.toInt - b.toInt := by
  rw [Int32.toInt_sub]
  exact Int.bmod_eq_of_le (by omega) (by omega)
theorem ti_mul {a b : Int32} (h1 : -2147483648 ≤ a.toInt * b.toInt) (h2 : a.toInt * b.toInt < 2147483648) : (a * b).toInt = a.toInt * b.toInt := by
  rw [Int32.toInt_mul]
  exact Int.bmod_eq_of_le (by omega) (by omega)
theorem ti_cl (i : Int32) : i.toNatClampNeg = i.toInt.toNat := rfl
theorem ti_in {i : Int32} {n : Nat} (h0 : 0 ≤ i.toInt) (h1 : i.toInt < (n : Int)) : ¬ (i < 0 ∨ n ≤ i.toNatClampNeg) := by
  rw [Int32.lt_iff_toInt_lt, ti_cl, show (0 : Int32).toInt = 0 from rfl]
  omega
theorem ti_lt (a b : Int32) : a < b ↔ a.toInt < b.toInt := Int32.lt_iff_toInt_lt
theorem ti_le (a b : Int32) : a ≤ b ↔ a.toInt ≤ b.toInt := Int32.le_iff_toInt_le
theorem ti_eq (a b : Int32) : a = b ↔ a.toInt = b.toInt := Int32.toInt_inj.symm
theorem ti_nI {n : Nat} (h : n < 2147483648) : (nI n).toInt = (n : Int) := nI_toInt h
theorem ti_of {x : Int32} {n : Nat} (h : x.toInt = (n : Int)) : x = nI n := by
  have hx := Int32.toInt_lt x
  exact Int32.toInt_inj.mp (by rw [nI_toInt (by omega)]; exact h)
/-! values: the class's long of a sort and a number -/
def pk (s n : Int32) : Int64 := (s.toInt64 <<< ((32 : Int32).toInt64 &&& 63)) ||| (n.toInt64 &&& 4294967295)
theorem lo32 (i : Nat) : (4294967295#64).getLsbD i = decide (i < 32) := by
  rw [BitVec.getLsbD_ofNat, show (4294967295 : Nat) = 2 ^ 32 - 1 from rfl, Nat.testBit_two_pow_sub_one]
  by_cases h : i < 32
  · have h2 : i < 64 := by omega
    simp [h, h2]
  · simp [h]
theorem pk_bv (s n : Int32) : (pk s n).toBitVec = (s.toBitVec.signExtend 64 <<< 32) ||| (n.toBitVec.signExtend 64 &&& 4294967295#64) := rfl
theorem pk_lo (s n : Int32) {i : Nat} (h : i < 32) : (pk s n).toBitVec.getLsbD i = n.toBitVec.getLsbD i := by
  have h2 : i < 64 := by omega
  rw [pk_bv, BitVec.getLsbD_or, BitVec.getLsbD_and, BitVec.getLsbD_shiftLeft, lo32, BitVec.getLsbD_signExtend, BitVec.getLsbD_signExtend]
  simp [h, h2]
theorem pk_hi (s n : Int32) {i : Nat} (h : i < 32) : (pk s n).toBitVec.getLsbD (32 + i) = s.toBitVec.getLsbD i := by
  have h2 : 32 + i < 64 := by omega
  have h3 : ¬ 32 + i < 32 := by omega
  have h4 : 32 + i - 32 = i := by omega
  have h5 : i < 64 := by omega
  rw [pk_bv, BitVec.getLsbD_or, BitVec.getLsbD_and, BitVec.getLsbD_shiftLeft, lo32, BitVec.getLsbD_signExtend, BitVec.getLsbD_signExtend]
  simp [h, h2, h3, h4, h5]
theorem pk_num (s n : Int32) : (pk s n).toInt32 = n := by
  apply Int32.toBitVec.inj
  rw [Int64.toBitVec_toInt32]
  apply BitVec.eq_of_getLsbD_eq
  intro i hi
  have h2 : i < 64 := by omega
  rw [BitVec.getLsbD_signExtend, if_pos h2, pk_lo s n hi]
  simp [hi]
theorem pk_sort (s n : Int32) : (pk s n >>> ((32 : Int32).toInt64 &&& 63)).toInt32 = s := by
  apply Int32.toBitVec.inj
  rw [Int64.toBitVec_toInt32]
  have e : (pk s n >>> ((32 : Int32).toInt64 &&& 63)).toBitVec = (pk s n).toBitVec.sshiftRight 32 := rfl
  rw [e]
  apply BitVec.eq_of_getLsbD_eq
  intro i hi
  have h2 : i < 64 := by omega
  have h3 : 32 + i < 64 := by omega
  have h4 : ¬ 64 ≤ i := by omega
  rw [BitVec.getLsbD_signExtend, if_pos h2, BitVec.getLsbD_sshiftRight, if_pos h3, pk_hi s n hi]
  simp [hi, h4]
theorem pk_inj {s n s' n' : Int32} (h : pk s n = pk s' n') : s = s' ∧ n = n' := by
  refine ⟨?_, ?_⟩
  · rw [← pk_sort s n, h, pk_sort]
  · rw [← pk_num s n, h, pk_num]
theorem pk_0 : pk 0 0 = 0 := rfl
theorem pk_1 : pk 1 0 = 4294967296 := rfl
theorem pk_2 : pk 2 0 = 8589934592 := rfl
/-! division by -1 -/
theorem div_m1 (a : Int32) : a / (-1) = -a := by
  apply Int32.toInt_inj.mp
  rw [Int32.toInt_div, show (-1 : Int32).toInt = -1 from rfl, Int.tdiv_neg, Int.tdiv_one, Int32.toInt_neg]
theorem rem_m1 (a : Int32) : a - a / (-1) * (-1) = 0 := by
  rw [div_m1, Int32.neg_mul_neg, Int32.mul_one, Int32.sub_self]
/-! how many places below n aren't 0 -/
def cnt (f : Nat → Int32) : Nat → Nat
  | 0 => 0
  | n + 1 => cnt f n + (if f n = 0 then 0 else 1)
theorem cnt_le (f : Nat → Int32) : ∀ n, cnt f n ≤ n := by
  intro n
  induction n with
  | zero => exact Nat.le_refl 0
  | succ n ih =>
    unfold cnt
    by_cases h : f n = 0
    · rw [if_pos h]; omega
    · rw [if_neg h]; omega
theorem cnt_congr {f g : Nat → Int32} : ∀ {n : Nat}, (∀ k, k < n → (f k = 0 ↔ g k = 0)) → cnt f n = cnt g n := by
  intro n
  induction n with
  | zero => intro _; rfl
  | succ n ih =>
    intro h
    unfold cnt
    rw [ih (fun k hk => h k (by omega))]
    by_cases hf : f n = 0
    · rw [if_pos hf, if_pos ((h n (by omega)).mp hf)]
    · rw [if_neg hf, if_neg (fun z => hf ((h n (by omega)).mpr z))]
theorem cnt_all {f : Nat → Int32} : ∀ {n : Nat}, cnt f n = n → ∀ k, k < n → ¬ f k = 0 := by
  intro n
  induction n with
  | zero => intro _ k hk; omega
  | succ n ih =>
    intro h k hk
    unfold cnt at h
    have hl := cnt_le f n
    by_cases hf : f n = 0
    · rw [if_pos hf] at h; omega
    · rw [if_neg hf] at h
      by_cases hkn : k = n
      · rw [hkn]; exact hf
      · exact ih (by omega) k (by omega)
theorem cnt_lt {f : Nat → Int32} {n k : Nat} (hk : k < n) (h : f k = 0) : cnt f n < n := by
  have hl := cnt_le f n
  by_cases e : cnt f n = n
  · exact absurd h (cnt_all e k hk)
  · omega
theorem cnt_full {f : Nat → Int32} : ∀ {n : Nat}, (∀ k, k < n → ¬ f k = 0) → cnt f n = n := by
  intro n
  induction n with
  | zero => intro _; rfl
  | succ n ih =>
    intro h
    unfold cnt
    rw [ih (fun k hk => h k (by omega)), if_neg (h n (by omega))]
theorem cnt_set {f : Nat → Int32} {k : Nat} {v : Int32} (hf : f k = 0) (hv : ¬ v = 0) : ∀ {n : Nat}, k < n → cnt (upd f k v) n = cnt f n + 1 := by
  intro n
  induction n with
  | zero => intro h; omega
  | succ n ih =>
    intro h
    unfold cnt
    by_cases e : k = n
    · have h1 : cnt (upd f k v) n = cnt f n := cnt_congr (fun j hj => by rw [pk_un (by omega)])
      rw [h1, ← e, pk_us, if_neg hv, if_pos hf]
    · rw [ih (by omega), pk_un (by omega)]
      omega
theorem cnt_mono {f g : Nat → Int32} : ∀ {n : Nat}, (∀ k, k < n → ¬ f k = 0 → ¬ g k = 0) → cnt f n ≤ cnt g n := by
  intro n
  induction n with
  | zero => intro _; exact Nat.le_refl 0
  | succ n ih =>
    intro h
    unfold cnt
    have h1 := ih (fun k hk => h k (by omega))
    by_cases hf : f n = 0
    · rw [if_pos hf]; omega
    · rw [if_neg hf, if_neg (h n (by omega) hf)]; omega
theorem cnt_more {f g : Nat → Int32} {t : Nat} : ∀ {n : Nat}, t < n → (∀ k, k < n → ¬ f k = 0 → ¬ g k = 0) → f t = 0 → ¬ g t = 0 → cnt f n + 1 ≤ cnt g n := by
  intro n
  induction n with
  | zero => intro h; omega
  | succ n ih =>
    intro ht h hf hg
    unfold cnt
    by_cases e : t = n
    · have h1 := cnt_mono (n := n) (fun k hk => h k (by omega))
      rw [← e, if_pos hf, if_neg hg]
      rw [← e] at h1
      omega
    · have h1 := ih (by omega) (fun k hk => h k (by omega)) hf hg
      by_cases hf2 : f n = 0
      · rw [if_pos hf2]; omega
      · rw [if_neg hf2, if_neg (h n (by omega) hf2)]; omega
theorem cnt_zero {f : Nat → Int32} : ∀ {n : Nat}, (∀ k, k < n → f k = 0) → cnt f n = 0 := by
  intro n
  induction n with
  | zero => intro _; rfl
  | succ n ih =>
    intro h
    unfold cnt
    rw [ih (fun k hk => h k (by omega)), if_pos (h n (by omega))]
