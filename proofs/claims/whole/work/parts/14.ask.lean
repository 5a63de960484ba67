/-! ===== demanded bits: what one value asks of its operands ===== -/
def db_lz (x : Int32) : Nat := (List.range 32).findIdx (fun i => bt x (31 - i))
theorem db_lz_le (x : Int32) : db_lz x ≤ 32 := by
  have h := List.findIdx_le_length (p := fun i => bt x (31 - i)) (xs := List.range 32)
  rw [List.length_range] at h
  exact h
theorem db_lz_lt {x : Int32} {i : Nat} (h : i < db_lz x) : bt x (31 - i) = false := by
  have h1 := List.not_of_lt_findIdx (p := fun i => bt x (31 - i)) (xs := List.range 32) h
  simpa using h1
theorem db_lz_at {x : Int32} (h : db_lz x < 32) : bt x (31 - db_lz x) = true := by
  have h1 := List.findIdx_getElem (p := fun i => bt x (31 - i)) (xs := List.range 32) (w := by rw [List.length_range]; exact h)
  simpa [db_lz] using h1
theorem db_lz_eq {x : Int32} {n : Nat} (hn : n ≤ 32) (h1 : ∀ i, i < n → bt x (31 - i) = false) (h2 : n < 32 → bt x (31 - n) = true) : db_lz x = n := by
  rcases Nat.lt_trichotomy (db_lz x) n with h | h | h
  · have a := db_lz_at (x := x) (by omega)
    rw [h1 _ h] at a
    cases a
  · exact h
  · have := db_lz_le x
    have a := db_lz_lt h
    rw [h2 (by omega)] at a
    cases a
def db_upto (d : Int32) : Int32 := if d = 0 then 0 else db_ushr (-1) (nI (db_lz d))
theorem db_upto_bit (d : Int32) {j : Nat} (hj : j < 32) : bt (db_upto d) j = true ↔ ∃ k, k < 32 ∧ bt d k = true ∧ j ≤ k := by
  unfold db_upto
  by_cases h : d = 0
  · rw [if_pos h, h, b_0]
    constructor
    · intro q; cases q
    · rintro ⟨k, -, q, -⟩; rw [b_0] at q; cases q
  · rw [if_neg h]
    obtain ⟨i, hi, hb⟩ := db_ne0.mp h
    have hl : db_lz d < 32 := by
      rcases Nat.lt_or_ge (db_lz d) 32 with q | q
      · exact q
      · have a := db_lz_lt (x := d) (i := 31 - i) (by omega)
        rw [show 31 - (31 - i) = i by omega, hb] at a
        cases a
    rw [db_ushr_bit _ hl]
    constructor
    · intro q
      rcases Nat.lt_or_ge (db_lz d + j) 32 with z | z
      · exact ⟨31 - db_lz d, by omega, db_lz_at hl, by omega⟩
      · rw [b_big z] at q; cases q
    · rintro ⟨k, hk, hkb, hjk⟩
      apply b_m1
      rcases Nat.lt_or_ge (db_lz d + j) 32 with z | z
      · exact z
      · have a := db_lz_lt (x := d) (i := 31 - k) (by omega)
        rw [show 31 - (31 - k) = k by omega, hkb] at a
        cases a
def db_sign (c s : Int32) : Int32 := if c = 0 then 0 else (1 : Int32) <<< (s &&& 31)
theorem db_1shl : ∀ s, s < 32 → ∀ i, i < 32 → bt ((1 : Int32) <<< (nI s &&& 31)) i = decide (i = s) := by decide +kernel
theorem db_sign_bit (c : Int32) {s : Nat} (hs : s < 32) {i : Nat} (hi : i < 32) : bt (db_sign c (nI s)) i = true ↔ i = s ∧ ∃ a, a < 32 ∧ bt c a = true := by
  unfold db_sign
  by_cases h : c = 0
  · rw [if_pos h, b_0, h]
    constructor
    · intro q; cases q
    · rintro ⟨-, a, -, q⟩; rw [b_0] at q; cases q
  · rw [if_neg h, db_1shl s hs i hi]
    constructor
    · intro q; exact ⟨of_decide_eq_true q, db_ne0.mp h⟩
    · intro q; exact decide_eq_true q.1
def db_askX (k : Nat) (nm zy oy d : Int32) : Int32 := match k with
  | 0 => db_upto d
  | 1 => db_upto d
  | 2 => db_upto d
  | 3 => d &&& (zy ^^^ (-1))
  | 4 => d &&& (oy ^^^ (-1))
  | 5 => d
  | 6 => db_ushr d nm
  | 7 => d <<< (nm &&& 31) ||| db_sign (d &&& ((-2147483648 : Int32) >>> (nm &&& 31))) 31
  | 8 => d <<< (nm &&& 31)
  | 9 => 0
  | 10 => 0
  | 11 => d &&& db_low 7 ||| db_sign (d &&& (db_low 7 ^^^ (-1))) 7
  | 12 => d &&& db_low 15 ||| db_sign (d &&& (db_low 15 ^^^ (-1))) 15
  | _ => d
def db_askY (k : Nat) (zx ox zy oy d : Int32) : Int32 := match k with
  | 0 => db_upto d
  | 1 => db_upto d
  | 2 => db_upto d
  | 3 => d &&& ((zx &&& (zy ^^^ (-1))) ^^^ (-1))
  | 4 => d &&& ((ox &&& (oy ^^^ (-1))) ^^^ (-1))
  | 5 => d
  | 6 => 0
  | 7 => 0
  | 8 => 0
  | 9 => 0
  | 10 => 0
  | 11 => 0
  | 12 => 0
  | _ => d
/-- bit a asks for bit b of x, of y -/
def db_rx (k m : Nat) (zy oy : Int32) (a b : Nat) : Prop := match k with
  | 0 => b ≤ a
  | 1 => b ≤ a
  | 2 => b ≤ a
  | 3 => b = a ∧ bt zy a = false
  | 4 => b = a ∧ bt oy a = false
  | 5 => b = a
  | 6 => m ≤ a ∧ b = a - m
  | 7 => b = if 31 < a + m then 31 else a + m
  | 8 => a + m ≤ 31 ∧ b = a + m
  | 9 => False
  | 10 => False
  | 11 => b = if 7 < a then 7 else a
  | 12 => b = if 15 < a then 15 else a
  | _ => b = a
def db_ry (k : Nat) (zx ox zy oy : Int32) (a b : Nat) : Prop := match k with
  | 0 => b ≤ a
  | 1 => b ≤ a
  | 2 => b ≤ a
  | 3 => b = a ∧ (bt zy a = true ∨ bt zx a = false)
  | 4 => b = a ∧ (bt oy a = true ∨ bt ox a = false)
  | 5 => b = a
  | 6 => False
  | 7 => False
  | 8 => False
  | 9 => False
  | 10 => False
  | 11 => False
  | 12 => False
  | _ => b = a
theorem db_ask_eq {d : Int32} {b : Nat} (hb : b < 32) : bt d b = true ↔ ∃ a, a < 32 ∧ bt d a = true ∧ b = a :=
  ⟨fun h => ⟨b, hb, h, rfl⟩, fun ⟨_, _, h, e⟩ => by rw [e]; exact h⟩
theorem db_ask_low {d : Int32} {s b : Nat} (hs : s < 32) (hb : b < 32) : bt (d &&& db_low s ||| db_sign (d &&& (db_low s ^^^ (-1))) (nI s)) b = true ↔ ∃ a, a < 32 ∧ bt d a = true ∧ b = if s < a then s else a := by
  rw [b_or, Bool.or_eq_true, b_and, Bool.and_eq_true, db_low_bit _ hb, decide_eq_true_eq, db_sign_bit _ hs hb]
  constructor
  · rintro (⟨h1, h2⟩ | ⟨h1, a, ha, h2⟩)
    · exact ⟨b, hb, h1, by rw [if_neg (by omega)]⟩
    · rw [b_and, Bool.and_eq_true, db_not _ ha, db_low_bit _ ha] at h2
      have h3 : ¬ a < s := by
        intro q
        rw [decide_eq_true q] at h2
        exact absurd h2.2 (by decide)
      refine ⟨a, ha, h2.1, ?_⟩
      split <;> omega
  · rintro ⟨a, ha, h1, h2⟩
    by_cases q : a < s
    · left
      rw [if_neg (by omega)] at h2
      subst h2
      exact ⟨h1, q⟩
    · right
      refine ⟨by split at h2 <;> omega, a, ha, ?_⟩
      rw [b_and, h1, db_not _ ha, db_low_bit _ ha, decide_eq_false q]
      rfl
theorem db_min_shr : ∀ m, m < 32 → ∀ a, a < 32 → bt ((-2147483648 : Int32) >>> (nI m &&& 31)) a = decide (31 ≤ a + m) := by decide +kernel
theorem db_askX_bit (k : Nat) {m : Nat} {nm : Int32} (hm : db_shift k → m < 32 ∧ nm = nI m) (zy oy d : Int32) {b : Nat} (hb : b < 32) : bt (db_askX k nm zy oy d) b = true ↔ ∃ a, a < 32 ∧ bt d a = true ∧ db_rx k m zy oy a b := by
  match k, hm with
  | 0, _ => exact db_upto_bit d hb
  | 1, _ => exact db_upto_bit d hb
  | 2, _ => exact db_upto_bit d hb
  | 3, _ =>
    show bt (d &&& (zy ^^^ (-1))) b = true ↔ ∃ a, a < 32 ∧ bt d a = true ∧ b = a ∧ bt zy a = false
    rw [b_and, Bool.and_eq_true, db_not _ hb]
    constructor
    · intro h; exact ⟨b, hb, h.1, rfl, by simpa using h.2⟩
    · rintro ⟨a, ha, h1, rfl, h2⟩; exact ⟨h1, by simpa using h2⟩
  | 4, _ =>
    show bt (d &&& (oy ^^^ (-1))) b = true ↔ ∃ a, a < 32 ∧ bt d a = true ∧ b = a ∧ bt oy a = false
    rw [b_and, Bool.and_eq_true, db_not _ hb]
    constructor
    · intro h; exact ⟨b, hb, h.1, rfl, by simpa using h.2⟩
    · rintro ⟨a, ha, h1, rfl, h2⟩; exact ⟨h1, by simpa using h2⟩
  | 5, _ => exact db_ask_eq hb
  | 6, hm =>
    obtain ⟨h1, rfl⟩ := hm ⟨by omega, by omega⟩
    show bt (db_ushr d (nI m)) b = true ↔ ∃ a, a < 32 ∧ bt d a = true ∧ m ≤ a ∧ b = a - m
    rw [db_ushr_bit _ h1]
    constructor
    · intro h
      rcases Nat.lt_or_ge (m + b) 32 with q | q
      · exact ⟨m + b, q, h, by omega, by omega⟩
      · rw [b_big q] at h; cases h
    · rintro ⟨a, ha, h2, h3, rfl⟩
      rw [show m + (a - m) = a by omega]; exact h2
  | 7, hm =>
    obtain ⟨h1, rfl⟩ := hm ⟨by omega, by omega⟩
    show bt (d <<< (nI m &&& 31) ||| db_sign (d &&& ((-2147483648 : Int32) >>> (nI m &&& 31))) (nI 31)) b = true ↔ ∃ a, a < 32 ∧ bt d a = true ∧ b = if 31 < a + m then 31 else a + m
    rw [b_or, Bool.or_eq_true, b_shl m h1 _ hb, Bool.and_eq_true, decide_eq_true_eq, db_sign_bit _ (by omega) hb]
    constructor
    · rintro (⟨h2, h3⟩ | ⟨h2, a, ha, h3⟩)
      · exact ⟨b - m, by omega, h3, by rw [if_neg (by omega)]; omega⟩
      · rw [b_and, Bool.and_eq_true, db_min_shr m h1 a ha, decide_eq_true_eq] at h3
        exact ⟨a, ha, h3.1, by split <;> omega⟩
    · rintro ⟨a, ha, h2, h3⟩
      by_cases q : 31 ≤ a + m
      · right
        refine ⟨by split at h3 <;> omega, a, ha, ?_⟩
        rw [b_and, h2, db_min_shr m h1 a ha, decide_eq_true q]; rfl
      · left
        rw [if_neg (by omega)] at h3
        subst h3
        exact ⟨by omega, by rw [show a + m - m = a by omega]; exact h2⟩
  | 8, hm =>
    obtain ⟨h1, rfl⟩ := hm ⟨by omega, by omega⟩
    show bt (d <<< (nI m &&& 31)) b = true ↔ ∃ a, a < 32 ∧ bt d a = true ∧ a + m ≤ 31 ∧ b = a + m
    rw [b_shl m h1 _ hb, Bool.and_eq_true, decide_eq_true_eq]
    constructor
    · rintro ⟨h2, h3⟩; exact ⟨b - m, by omega, h3, by omega, by omega⟩
    · rintro ⟨a, ha, h2, h3, rfl⟩; exact ⟨by omega, by rw [show a + m - m = a by omega]; exact h2⟩
  | 9, _ =>
    show bt 0 b = true ↔ ∃ a, a < 32 ∧ bt d a = true ∧ False
    rw [b_0]; simp
  | 10, _ =>
    show bt 0 b = true ↔ ∃ a, a < 32 ∧ bt d a = true ∧ False
    rw [b_0]; simp
  | 11, _ => exact db_ask_low (s := 7) (by omega) hb
  | 12, _ => exact db_ask_low (s := 15) (by omega) hb
  | k + 13, _ => exact db_ask_eq hb
theorem db_askY_bit (k : Nat) (zx ox zy oy d : Int32) {b : Nat} (hb : b < 32) : bt (db_askY k zx ox zy oy d) b = true ↔ ∃ a, a < 32 ∧ bt d a = true ∧ db_ry k zx ox zy oy a b := by
  have z : bt 0 b = true ↔ ∃ a, a < 32 ∧ bt d a = true ∧ False := by rw [b_0]; simp
  match k with
  | 0 => exact db_upto_bit d hb
  | 1 => exact db_upto_bit d hb
  | 2 => exact db_upto_bit d hb
  | 3 =>
    show bt (d &&& ((zx &&& (zy ^^^ (-1))) ^^^ (-1))) b = true ↔ ∃ a, a < 32 ∧ bt d a = true ∧ b = a ∧ (bt zy a = true ∨ bt zx a = false)
    rw [b_and, Bool.and_eq_true, db_not _ hb, b_and, db_not _ hb]
    constructor
    · intro h
      refine ⟨b, hb, h.1, rfl, ?_⟩
      have h2 := h.2
      revert h2
      cases bt zx b <;> cases bt zy b <;> simp
    · rintro ⟨a, ha, h1, rfl, h2⟩
      refine ⟨h1, ?_⟩
      revert h2
      cases bt zx b <;> cases bt zy b <;> simp
  | 4 =>
    show bt (d &&& ((ox &&& (oy ^^^ (-1))) ^^^ (-1))) b = true ↔ ∃ a, a < 32 ∧ bt d a = true ∧ b = a ∧ (bt oy a = true ∨ bt ox a = false)
    rw [b_and, Bool.and_eq_true, db_not _ hb, b_and, db_not _ hb]
    constructor
    · intro h
      refine ⟨b, hb, h.1, rfl, ?_⟩
      have h2 := h.2
      revert h2
      cases bt ox b <;> cases bt oy b <;> simp
    · rintro ⟨a, ha, h1, rfl, h2⟩
      refine ⟨h1, ?_⟩
      revert h2
      cases bt ox b <;> cases bt oy b <;> simp
  | 5 => exact db_ask_eq hb
  | 6 => exact z
  | 7 => exact z
  | 8 => exact z
  | 9 => exact z
  | 10 => exact z
  | 11 => exact z
  | 12 => exact z
  | k + 13 => exact db_ask_eq hb
