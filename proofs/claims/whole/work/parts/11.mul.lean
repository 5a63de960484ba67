/-! ===== low bits, trailing zeros, products ===== -/
def db_low (c : Nat) : Int32 := if 32 ≤ c then -1 else ((1 : Int32) <<< (nI c &&& 31)) - 1
theorem db_low_b0 : ∀ c, c < 32 → ∀ i, i < 32 → bt (((1 : Int32) <<< (nI c &&& 31)) - 1) i = decide (i < c) := by decide +kernel
theorem db_low_bit (c : Nat) {i : Nat} (hi : i < 32) : bt (db_low c) i = decide (i < c) := by
  unfold db_low
  split
  · rw [b_m1 i hi, decide_eq_true (by omega)]
  · exact db_low_b0 c (by omega) i hi
def db_tz (x : Int32) : Nat := (List.range 32).findIdx (fun i => bt x i)
theorem db_tz_le (x : Int32) : db_tz x ≤ 32 := by
  have h := List.findIdx_le_length (p := fun i => bt x i) (xs := List.range 32)
  rw [List.length_range] at h
  exact h
theorem db_tz_lt {x : Int32} {i : Nat} (h : i < db_tz x) : bt x i = false := by
  have h1 := List.not_of_lt_findIdx (p := fun i => bt x i) (xs := List.range 32) h
  simpa using h1
theorem db_tz_at {x : Int32} (h : db_tz x < 32) : bt x (db_tz x) = true := by
  have h1 := List.findIdx_getElem (p := fun i => bt x i) (xs := List.range 32) (w := by rw [List.length_range]; exact h)
  simpa [db_tz] using h1
theorem db_tz_eq {x : Int32} {n : Nat} (hn : n ≤ 32) (h1 : ∀ i, i < n → bt x i = false) (h2 : n < 32 → bt x n = true) : db_tz x = n := by
  rcases Nat.lt_trichotomy (db_tz x) n with h | h | h
  · have a := db_tz_at (x := x) (by omega)
    rw [h1 _ h] at a
    cases a
  · exact h
  · have := db_tz_le x
    have a := db_tz_lt h
    rw [h2 (by omega)] at a
    cases a
/-- an Int32 as a number -/
def db_n (x : Int32) : Nat := x.toBitVec.toNat
theorem db_n_bt (x : Int32) (i : Nat) : (db_n x).testBit i = bt x i := rfl
theorem db_nI_n (x : Int32) : nI (db_n x) = x := by
  apply Int32.toBitVec_inj.1
  show BitVec.ofNat 32 x.toBitVec.toNat = x.toBitVec
  simp
theorem db_bt_nI (a : Nat) {i : Nat} (hi : i < 32) : bt (nI a) i = a.testBit i := by
  unfold bt
  show (BitVec.ofNat 32 a).getLsbD i = _
  rw [BitVec.getLsbD_ofNat]
  simp [hi]
theorem db_nI_mod {a b : Nat} (h : a % 4294967296 = b % 4294967296) : nI a = nI b := by
  apply Int32.toBitVec_inj.1
  show BitVec.ofNat 32 a = BitVec.ofNat 32 b
  apply BitVec.eq_of_toNat_eq
  rw [BitVec.toNat_ofNat, BitVec.toNat_ofNat]
  exact h
theorem db_mul_nI (x y : Int32) : x * y = nI (db_n x * db_n y) := by
  rw [← pk_mul, db_nI_n, db_nI_n]
/-- the low bits of a product are those of the product of the low bits -/
theorem db_mul_low (x y : Int32) (K : Nat) {i : Nat} (hi : i < K) (h32 : i < 32) : bt (nI (db_n x % 2 ^ K * (db_n y % 2 ^ K))) i = bt (x * y) i := by
  rw [db_mul_nI, db_bt_nI _ h32, db_bt_nI _ h32]
  have e : (db_n x % 2 ^ K * (db_n y % 2 ^ K)) % 2 ^ K = (db_n x * db_n y) % 2 ^ K := (Nat.mul_mod _ _ _).symm
  have h1 := Nat.testBit_mod_two_pow (db_n x % 2 ^ K * (db_n y % 2 ^ K)) K i
  have h2 := Nat.testBit_mod_two_pow (db_n x * db_n y) K i
  rw [e] at h1
  rw [h1] at h2
  simpa [hi] using h2
theorem db_dvd_of_low {x : Int32} {a : Nat} (ha : a ≤ 32) (h : ∀ i, i < a → bt x i = false) : 2 ^ a ∣ db_n x := by
  apply Nat.dvd_of_mod_eq_zero
  apply Nat.eq_of_testBit_eq
  intro i
  rw [Nat.testBit_mod_two_pow, Nat.zero_testBit, db_n_bt]
  rcases Nat.lt_or_ge i a with q | q
  · rw [h i q, Bool.and_false]
  · rw [decide_eq_false (by omega), Bool.false_and]
theorem db_mul_zeros {x y : Int32} {a b i : Nat} (ha : a ≤ 32) (hb : b ≤ 32) (hx : ∀ i, i < a → bt x i = false) (hy : ∀ i, i < b → bt y i = false) (hi : i < a + b) (h32 : i < 32) : bt (x * y) i = false := by
  obtain ⟨p, hp⟩ := db_dvd_of_low ha hx
  obtain ⟨q, hq⟩ := db_dvd_of_low hb hy
  rw [db_mul_nI, db_bt_nI _ h32, hp, hq]
  have e : 2 ^ a * p * (2 ^ b * q) = 2 ^ (a + b) * (p * q) := by
    rw [Nat.pow_add]
    simp only [Nat.mul_assoc, Nat.mul_left_comm, Nat.mul_comm]
  rw [e, Nat.testBit_two_pow_mul]
  simp
  omega
def db_mulK (zx ox zy oy : Int32) : Int32 := db_low (db_tz (((zx ||| ox) &&& (zy ||| oy)) ^^^ (-1)))
def db_mulL (zx zy : Int32) : Int32 := db_low (db_tz (zx ^^^ (-1)) + db_tz (zy ^^^ (-1)))
def db_mulZ (zx ox zy oy : Int32) : Int32 := db_mulK zx ox zy oy &&& ((ox * oy) ^^^ (-1)) ||| db_mulL zx zy
def db_mulO (zx ox zy oy : Int32) : Int32 := db_mulK zx ox zy oy &&& (ox * oy)
theorem db_tzn {z : Int32} {i : Nat} (h : i < db_tz (z ^^^ (-1))) : bt z i = true := by
  have h1 := db_tz_lt h
  have := db_tz_le (z ^^^ (-1))
  rw [db_not z (by omega)] at h1
  cases hb : bt z i
  · rw [hb] at h1; cases h1
  · rfl
theorem db_mulL_0 {zx ox zy oy : Int32} (hx : db_ap zx ox) (hy : db_ap zy oy) {i : Nat} (hi : i < 32) (h : bt (db_mulL zx zy) i = true) : bt (ox * oy) i = false := by
  unfold db_mulL at h
  rw [db_low_bit _ hi] at h
  have h2 := of_decide_eq_true h
  refine db_mul_zeros (a := db_tz (zx ^^^ (-1))) (b := db_tz (zy ^^^ (-1))) (db_tz_le _) (db_tz_le _) ?_ ?_ h2 hi
  · intro j hj
    have := db_tz_le (zx ^^^ (-1))
    have q := hx j (by omega)
    rw [db_tzn hj] at q
    simpa using q
  · intro j hj
    have := db_tz_le (zy ^^^ (-1))
    have q := hy j (by omega)
    rw [db_tzn hj] at q
    simpa using q
theorem db_mul_ap {zx ox zy oy : Int32} (hx : db_ap zx ox) (hy : db_ap zy oy) : db_ap (db_mulZ zx ox zy oy) (db_mulO zx ox zy oy) := by
  intro i hi
  unfold db_mulZ db_mulO
  rw [b_or, b_and, b_and, db_not _ hi]
  cases hl : bt (db_mulL zx zy) i
  · cases bt (db_mulK zx ox zy oy) i <;> cases bt (ox * oy) i <;> rfl
  · rw [db_mulL_0 hx hy hi hl]
    cases bt (db_mulK zx ox zy oy) i <;> rfl
/-- what the reference answers for bit i of a product -/
theorem db_mul_bit {zx ox zy oy : Int32} (hx : db_ap zx ox) (hy : db_ap zy oy) {i : Nat} (hi : i < 32) :
    (if i < db_tz (((zx ||| ox) &&& (zy ||| oy)) ^^^ (-1)) then (if bt (ox * oy) i = true then (1 : Int32) else 0) else if i < db_tz (zx ^^^ (-1)) + db_tz (zy ^^^ (-1)) then 0 else 2) = db_tri (bt (db_mulZ zx ox zy oy) i) (bt (db_mulO zx ox zy oy) i) := by
  have h0 := db_mulL_0 hx hy hi
  unfold db_mulZ db_mulO
  rw [b_or, b_and, b_and, db_not _ hi]
  have hK : bt (db_mulK zx ox zy oy) i = decide (i < db_tz (((zx ||| ox) &&& (zy ||| oy)) ^^^ (-1))) := db_low_bit _ hi
  have hL : bt (db_mulL zx zy) i = decide (i < db_tz (zx ^^^ (-1)) + db_tz (zy ^^^ (-1))) := db_low_bit _ hi
  rw [hK]
  by_cases a : i < db_tz (((zx ||| ox) &&& (zy ||| oy)) ^^^ (-1))
  · rw [if_pos a, decide_eq_true a]
    cases hl : bt (db_mulL zx zy) i
    · cases bt (ox * oy) i <;> rfl
    · rw [h0 hl]
      rfl
  · rw [if_neg a, decide_eq_false a, hL]
    by_cases b : i < db_tz (zx ^^^ (-1)) + db_tz (zy ^^^ (-1))
    · rw [if_pos b, decide_eq_true b]; rfl
    · rw [if_neg b, decide_eq_false b]; rfl
/-! the two loops of the reference's product -/
theorem db_mod_succ (y : Int32) (j : Nat) : db_n y % 2 ^ (j + 1) = db_n y % 2 ^ j + (if bt y j = true then 2 ^ j else 0) := by
  have h : bt y j = decide (db_n y / 2 ^ j % 2 = 1) := by rw [← db_n_bt, Nat.testBit_eq_decide_div_mod_eq]
  rw [Nat.mod_pow_succ, h]
  rcases Nat.mod_two_eq_zero_or_one (db_n y / 2 ^ j) with q | q <;> simp [q]
theorem db_shl1 {m : Nat} (hm : m < 32) (b : Bool) : (if b = true then (1 : Int32) else 0) <<< (nI m &&& 31) = nI (if b = true then 2 ^ m else 0) := by
  have h : ∀ m, m < 32 → ∀ b : Bool, (if b = true then (1 : Int32) else 0) <<< (nI m &&& 31) = nI (if b = true then 2 ^ m else 0) := by decide +kernel
  exact h m hm b
theorem db_prod_in {P k j : Nat} (y : Int32) (h : k + j < 32) : nI (P + 2 ^ k * (db_n y % 2 ^ j)) + ((if bt y j = true then (1 : Int32) else 0) <<< (nI (k + j) &&& 31)) = nI (P + 2 ^ k * (db_n y % 2 ^ (j + 1))) := by
  rw [db_shl1 h, nI_add, db_mod_succ, Nat.mul_add, Nat.add_assoc]
  cases bt y j <;> simp [Nat.pow_add]
theorem db_prod_out {P k j : Nat} (y : Int32) (h : ¬ k + j < 32) : nI (P + 2 ^ k * (db_n y % 2 ^ j)) = nI (P + 2 ^ k * (db_n y % 2 ^ (j + 1))) := by
  apply db_nI_mod
  rw [db_mod_succ, Nat.mul_add, ← Nat.add_assoc]
  cases bt y j
  · simp
  · have e : 2 ^ k * 2 ^ j = 4294967296 * 2 ^ (k + j - 32) := by
      rw [← Nat.pow_add, show (4294967296 : Nat) = 2 ^ 32 from rfl, ← Nat.pow_add]
      congr 1
      omega
    simp only [if_true]
    rw [e]
    omega
theorem db_prod_row {K k : Nat} (x y : Int32) : (db_n x % 2 ^ k * (db_n y % 2 ^ K)) + (if bt x k = true then 2 ^ k * (db_n y % 2 ^ K) else 0) = db_n x % 2 ^ (k + 1) * (db_n y % 2 ^ K) := by
  rw [db_mod_succ]
  cases bt x k <;> simp [Nat.add_mul]
