/-! ===== ints and longs from integers ===== -/
def jI (x : Int) : Int32 := Int32.ofInt x
def kI (x : Int) : Int64 := Int64.ofInt x
theorem wI_jI (n : Nat) : wI n = jI n := Int32.ofInt_eq_ofNat.symm
theorem jI_toInt {x : Int} (h : -2147483648 ≤ x) (h' : x < 2147483648) : (jI x).toInt = x := Int32.toInt_ofInt_of_le h h'
theorem kI_toInt {x : Int} (h : -9223372036854775808 ≤ x) (h' : x < 9223372036854775808) : (kI x).toInt = x := Int64.toInt_ofInt_of_le h h'
theorem jI_add (a b : Int) : jI a + jI b = jI (a + b) := (Int32.ofInt_add a b).symm
theorem jI_sub (a b : Int) : jI a - jI b = jI (a - b) := (Int32.ofInt_sub a b).symm
theorem jI_mul (a b : Int) : jI a * jI b = jI (a * b) := (Int32.ofInt_mul a b).symm
theorem kI_add (a b : Int) : kI a + kI b = kI (a + b) := (Int64.ofInt_add a b).symm
theorem kI_sub (a b : Int) : kI a - kI b = kI (a - b) := (Int64.ofInt_sub a b).symm
theorem kI_mul (a b : Int) : kI a * kI b = kI (a * b) := (Int64.ofInt_mul a b).symm
theorem k2j (a : Int) : (kI a).toInt32 = jI a := Int64.toInt32_ofInt
theorem j2k {a : Int} (h : -2147483648 ≤ a) (h' : a < 2147483648) : (jI a).toInt64 = kI a := by
  rw [← Int64.toInt_inj, Int32.toInt_toInt64, jI_toInt h h', kI_toInt (by omega) (by omega)]
theorem jI_lt {a b : Int} (h1 : -2147483648 ≤ a) (h2 : a < 2147483648) (h3 : -2147483648 ≤ b) (h4 : b < 2147483648) : (jI a < jI b) = (a < b) := by
  rw [Int32.lt_iff_toInt_lt, jI_toInt h1 h2, jI_toInt h3 h4]
theorem jI_le {a b : Int} (h1 : -2147483648 ≤ a) (h2 : a < 2147483648) (h3 : -2147483648 ≤ b) (h4 : b < 2147483648) : (jI a ≤ jI b) = (a ≤ b) := by
  rw [Int32.le_iff_toInt_le, jI_toInt h1 h2, jI_toInt h3 h4]
theorem jI_eq {a b : Int} (h1 : -2147483648 ≤ a) (h2 : a < 2147483648) (h3 : -2147483648 ≤ b) (h4 : b < 2147483648) : (jI a = jI b) = (a = b) := by
  rw [← Int32.toInt_inj, jI_toInt h1 h2, jI_toInt h3 h4]
theorem kI_lt {a b : Int} (h1 : -9223372036854775808 ≤ a) (h2 : a < 9223372036854775808) (h3 : -9223372036854775808 ≤ b) (h4 : b < 9223372036854775808) : (kI a < kI b) = (a < b) := by
  rw [Int64.lt_iff_toInt_lt, kI_toInt h1 h2, kI_toInt h3 h4]
theorem kI_le {a b : Int} (h1 : -9223372036854775808 ≤ a) (h2 : a < 9223372036854775808) (h3 : -9223372036854775808 ≤ b) (h4 : b < 9223372036854775808) : (kI a ≤ kI b) = (a ≤ b) := by
  rw [Int64.le_iff_toInt_le, kI_toInt h1 h2, kI_toInt h3 h4]
theorem kI_eq {a b : Int} (h1 : -9223372036854775808 ≤ a) (h2 : a < 9223372036854775808) (h3 : -9223372036854775808 ≤ b) (h4 : b < 9223372036854775808) : (kI a = kI b) = (a = b) := by
  rw [← Int64.toInt_inj, kI_toInt h1 h2, kI_toInt h3 h4]
theorem tdiv_abs {a b : Int} {m : Int} (h1 : -m ≤ a) (h2 : a ≤ m) : -m ≤ a.tdiv b ∧ a.tdiv b ≤ m := by
  have h : (a.tdiv b).natAbs ≤ a.natAbs := by
    rw [Int.natAbs_tdiv]
    exact Nat.div_le_self _ _
  omega
theorem jI_div {a b : Int} (h1 : -1000000000 ≤ a) (h2 : a ≤ 1000000000) (h3 : -1000000000 ≤ b) (h4 : b ≤ 1000000000) : jI a / jI b = jI (a.tdiv b) := by
  have h := tdiv_abs (b := b) (m := 1000000000) h1 h2
  rw [← Int32.toInt_inj, Int32.toInt_div, jI_toInt (by omega) (by omega), jI_toInt (by omega) (by omega), jI_toInt (by omega) (by omega)]
  rw [Int.bmod_eq_of_le] <;> omega
theorem jI_rem {a b : Int} (h1 : -1000000000 ≤ a) (h2 : a ≤ 1000000000) (h3 : -1000000000 ≤ b) (h4 : b ≤ 1000000000) : jI a - jI a / jI b * jI b = jI (a.tmod b) := by
  rw [jI_div h1 h2 h3 h4, jI_mul, jI_sub, Int.tmod_def, Int.mul_comm]
theorem kI_div {a b : Int} (h1 : -1000000000 ≤ a) (h2 : a ≤ 1000000000) (h3 : -1000000000 ≤ b) (h4 : b ≤ 1000000000) : kI a / kI b = kI (a.tdiv b) := by
  have h := tdiv_abs (b := b) (m := 1000000000) h1 h2
  rw [← Int64.toInt_inj, Int64.toInt_div, kI_toInt (by omega) (by omega), kI_toInt (by omega) (by omega), kI_toInt (by omega) (by omega)]
  rw [Int.bmod_eq_of_le] <;> omega
theorem kI_rem {a b : Int} (h1 : -1000000000 ≤ a) (h2 : a ≤ 1000000000) (h3 : -1000000000 ≤ b) (h4 : b ≤ 1000000000) : kI a - kI a / kI b * kI b = kI (a.tmod b) := by
  rw [kI_div h1 h2 h3 h4, kI_mul, kI_sub, Int.tmod_def, Int.mul_comm]
theorem tmod_abs {a b : Int} {m : Int} (h1 : -m ≤ a) (h2 : a ≤ m) : -m ≤ a.tmod b ∧ a.tmod b ≤ m := by
  have h : (a.tmod b).natAbs ≤ a.natAbs := by
    rw [Int.natAbs_tmod]
    exact Nat.mod_le _ _
  omega
theorem lgc_lt {a b : Int} (h1 : -9223372036854775808 ≤ a) (h2 : a < 9223372036854775808) (h3 : -9223372036854775808 ≤ b) (h4 : b < 9223372036854775808) : (0 < lg_cmp (kI a) (kI b)) = (b < a) := by
  have h := lg_cmp_le (kI a) (kI b)
  rw [kI_le h1 h2 h3 h4] at h
  rw [← Int32.not_le, h]
  apply propext
  omega
theorem lgc_ge {a b : Int} (h1 : -9223372036854775808 ≤ a) (h2 : a < 9223372036854775808) (h3 : -9223372036854775808 ≤ b) (h4 : b < 9223372036854775808) : (0 ≤ lg_cmp (kI a) (kI b)) = (b ≤ a) := by
  have h := lg_cmp_ge (kI a) (kI b)
  rw [kI_le h3 h4 h1 h2] at h
  exact propext h
theorem kl_9 : (1000000000 : Int64) = kI 1000000000 := rfl
theorem kl_m9 : (-1000000000 : Int64) = kI (-1000000000) := rfl
theorem kl_0 : (0 : Int64) = kI 0 := rfl
theorem kl_1 : (1 : Int64) = kI 1 := rfl
theorem jl_m1 : (-1 : Int32) = jI (-1) := rfl
theorem jl_0 : (0 : Int32) = jI 0 := rfl
theorem jl_1 : (1 : Int32) = jI 1 := rfl
/-- a value, or BROKEN -/
def ovI (x : Option Int) : Int32 := match x with
  | some v => jI v
  | none => -2000000000
theorem combine_140 {d : Nat} {σ : Mem} {x : Int} (h1 : -4000000000000000000 ≤ x) (h2 : x ≤ 4000000000000000000) : Ev (d + 1) mRules_combine 140 [(3, .long (kI x))] [] σ = some (some (.int (ovI (rng x))), σ) := by
  rw [q_Rules_combine_140, kl_m9, kl_9, k2j]
  simp (disch := omega) only [lgc_lt, lgc_ge]
  unfold rng ovI
  by_cases c1 : 1000000000 < x
  · rw [if_pos c1, if_neg (by omega)]
  · rw [if_neg c1]
    by_cases c2 : -1000000000 ≤ x
    · rw [if_pos c2, if_pos ⟨c2, by omega⟩]
    · rw [if_neg c2, if_neg (by omega)]
theorem t_combine {d : Nat} {σ : Mem} (hd : 1 ≤ d) {g : Nat} {a b : Int} (hg : 1 ≤ g) (hg8 : g ≤ 8) (h1 : -1000000000 ≤ a) (h2 : a ≤ 1000000000) (h3 : -1000000000 ≤ b) (h4 : b ≤ 1000000000) : EC d mRules_combine [.int (wI g), .int (jI a), .int (jI b)] σ = some (some (.int (ovI (op2 g a b))), σ) := by
  obtain ⟨d, rfl⟩ : ∃ e, d = e + 1 := ⟨d - 1, by omega⟩
  have hmul : -1000000000000000000 ≤ a * b ∧ a * b ≤ 1000000000000000000 := by
    have h := Int.natAbs_mul a b
    have h5 : a.natAbs * b.natAbs ≤ 1000000000 * 1000000000 := Nat.mul_le_mul (by omega) (by omega)
    omega
  have hdv := tdiv_abs (b := b) (m := 1000000000) h1 h2
  have hmd := tmod_abs (b := b) (m := 1000000000) h1 h2
  rw [q_Rules_combine, j2k (by omega) (by omega), j2k (by omega) (by omega)]
  rcases (show g = 1 ∨ g = 2 ∨ g = 3 ∨ g = 4 ∨ g = 5 ∨ g = 6 ∨ g = 7 ∨ g = 8 by omega) with rfl | rfl | rfl | rfl | rfl | rfl | rfl | rfl
  · rw [if_pos (show wI 1 = (1 : Int32) from rfl), kI_add, combine_140 (by omega) (by omega)]; rfl
  · rw [if_neg (by decide), if_pos (show wI 2 = (2 : Int32) from rfl), kI_sub, combine_140 (by omega) (by omega)]; rfl
  · rw [if_neg (by decide), if_neg (by decide), if_pos (show wI 3 = (3 : Int32) from rfl), kI_mul, combine_140 (by omega) (by omega)]; rfl
  · rw [if_neg (by decide), if_neg (by decide), if_neg (by decide), if_pos (show wI 4 = (4 : Int32) from rfl), jl_0]
    simp (disch := omega) only [jI_eq]
    unfold op2 cmb
    by_cases e : b = 0
    · simp [e, ovI]
    · simp only [e, ↓reduceIte]
      rw [jI_div h1 h2 h3 h4, j2k (by omega) (by omega), combine_140 (by omega) (by omega)]
      rfl
  · rw [if_neg (by decide), if_neg (by decide), if_neg (by decide), if_neg (by decide), if_pos (show wI 5 = (5 : Int32) from rfl), jl_0]
    simp (disch := omega) only [jI_eq]
    unfold op2 cmb
    by_cases e : b = 0
    · simp [e, ovI]
    · simp only [e, ↓reduceIte]
      rw [jI_rem h1 h2 h3 h4, j2k (by omega) (by omega), combine_140 (by omega) (by omega)]
      rfl
  · rw [if_neg (by decide), if_neg (by decide), if_neg (by decide), if_neg (by decide), if_neg (by decide), if_pos (show wI 6 = (6 : Int32) from rfl), kl_0, kl_1, combine_140 (by omega) (by omega), combine_140 (by omega) (by omega)]
    simp (disch := omega) only [jI_le]
    unfold op2
    by_cases e : b ≤ a
    · have e' : ¬ a < b := by omega
      simp [e, e']; rfl
    · have e' : a < b := by omega
      simp [e, e']; rfl
  · rw [if_neg (by decide), if_neg (by decide), if_neg (by decide), if_neg (by decide), if_neg (by decide), if_neg (by decide), if_pos (show wI 7 = (7 : Int32) from rfl), kl_0, kl_1, combine_140 (by omega) (by omega), combine_140 (by omega) (by omega)]
    simp (disch := omega) only [jI_le]
    unfold op2
    by_cases e : a ≤ b
    · have e' : ¬ b < a := by omega
      simp [e, e']; rfl
    · have e' : b < a := by omega
      simp [e, e']; rfl
  · rw [if_neg (by decide), if_neg (by decide), if_neg (by decide), if_neg (by decide), if_neg (by decide), if_neg (by decide), if_neg (by decide), kl_0, kl_1, combine_140 (by omega) (by omega), combine_140 (by omega) (by omega)]
    simp (disch := omega) only [jI_eq]
    unfold op2
    by_cases e : a = b
    · simp [e]; rfl
    · simp [e]; rfl
