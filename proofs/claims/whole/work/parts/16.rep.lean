/-! ===== replaced ===== -/
theorem db_and0 {x y : Int32} : x &&& y = 0 ↔ ∀ i, i < 32 → bt x i = true → bt y i = false := by
  rw [db_eq0]
  constructor
  · intro h i hi hx
    have q := h i hi
    rw [b_and, hx] at q
    exact q
  · intro h i hi
    rw [b_and]
    cases hx : bt x i
    · rfl
    · rw [h i hi hx]; rfl
def db_has (k : Nat) (cy : Bool) (c d : Int32) : Bool := match k with
  | 0 => cy && decide (db_upto d &&& c = 0)
  | 1 => cy && decide (db_upto d &&& c = 0)
  | 2 => false
  | 3 => cy && decide (d &&& (c ^^^ (-1)) = 0)
  | 4 => cy && decide (d &&& c = 0)
  | 5 => cy && decide (db_upto d &&& c = 0)
  | 11 => decide (d &&& (-256) = 0)
  | 12 => decide (d &&& (-65536) = 0)
  | _ => false
def db_B (K X Y : Nat → Nat) (Nm : Nat → Int32) (f : db_Fs) (D : Nat → Int32) (v : Nat) : Int32 :=
  if K v = 10 then -1 else if D v &&& ((f.1 v ||| f.2 v) ^^^ (-1)) = 0 then -2 else if db_has (K v) (decide (K (Y v) = 10)) (Nm (Y v)) (D v) = true then nI (X v) else -1
theorem db_m256 : ∀ i, i < 32 → bt (-256) i = decide (8 ≤ i) := by decide +kernel
theorem db_m65536 : ∀ i, i < 32 → bt (-65536) i = decide (16 ≤ i) := by decide +kernel
theorem db_narrow8 {d : Int32} : d &&& (-256) = 0 ↔ ∀ i, 8 ≤ i → i < 32 → bt d i = false := by
  rw [db_and0]
  constructor
  · intro h i h8 hi
    cases hd : bt d i
    · rfl
    · have q := h i hi hd
      rw [db_m256 i hi, decide_eq_true h8] at q
      cases q
  · intro h i hi hd
    rw [db_m256 i hi]
    rcases Nat.lt_or_ge i 8 with q | q
    · exact decide_eq_false (by omega)
    · rw [h i q hi] at hd; cases hd
theorem db_narrow16 {d : Int32} : d &&& (-65536) = 0 ↔ ∀ i, 16 ≤ i → i < 32 → bt d i = false := by
  rw [db_and0]
  constructor
  · intro h i h8 hi
    cases hd : bt d i
    · rfl
    · have q := h i hi hd
      rw [db_m65536 i hi, decide_eq_true h8] at q
      cases q
  · intro h i hi hd
    rw [db_m65536 i hi]
    rcases Nat.lt_or_ge i 16 with q | q
    · exact decide_eq_false (by omega)
    · rw [h i q hi] at hd; cases hd
theorem db_in1 {d c : Int32} : d &&& (c ^^^ (-1)) = 0 ↔ ∀ i, i < 32 → bt d i = true → bt c i = true := by
  rw [db_and0]
  constructor
  · intro h i hi hd
    have q := h i hi hd
    rw [db_not _ hi] at q
    simpa using q
  · intro h i hi hd
    rw [db_not _ hi, h i hi hd]; rfl
theorem db_in0u {d c : Int32} : db_upto d &&& c = 0 ↔ ∀ i, i < 32 → (∃ k, k < 32 ∧ bt d k = true ∧ i ≤ k) → bt c i = false := by
  rw [db_and0]
  constructor
  · intro h i hi hk
    exact h i hi ((db_upto_bit d hi).mpr hk)
  · intro h i hi hk
    exact h i hi ((db_upto_bit d hi).mp hk)
theorem db_known {d z o : Int32} : d &&& ((z ||| o) ^^^ (-1)) = 0 ↔ ∀ i, i < 32 → bt d i = true → ¬ db_tri (bt z i) (bt o i) = 2 := by
  rw [db_in1]
  constructor
  · intro h i hi hd
    have q := h i hi hd
    rw [b_or] at q
    revert q
    cases bt z i <;> cases bt o i <;> decide
  · intro h i hi hd
    have q := h i hi hd
    rw [b_or]
    revert q
    cases bt z i <;> cases bt o i <;> decide
/-! a word laid bit by bit -/
def db_lay (w : Int32) (p : Nat → Prop) (k : Nat) : Prop := ∀ b, b < 32 → (bt w b = true ↔ b < k ∧ p b)
theorem db_lay0 (p : Nat → Prop) : db_lay 0 p 0 := fun b _ => by rw [b_0]; simp
theorem db_lay_y {w : Int32} {p : Nat → Prop} {k : Nat} (h : db_lay w p k) (hk : k < 32) (q : p k) : db_lay (w ||| ((1 : Int32) <<< (nI k &&& 31))) p (k + 1) := by
  intro b hb
  rw [b_or, Bool.or_eq_true, h b hb, db_1shl k hk b hb, decide_eq_true_eq]
  constructor
  · rintro (⟨h1, h2⟩ | rfl)
    · exact ⟨by omega, h2⟩
    · exact ⟨by omega, q⟩
  · rintro ⟨h1, h2⟩
    by_cases e : b = k
    · exact Or.inr e
    · exact Or.inl ⟨by omega, h2⟩
theorem db_lay_n {w : Int32} {p : Nat → Prop} {k : Nat} (h : db_lay w p k) (q : ¬ p k) : db_lay w p (k + 1) := by
  intro b hb
  rw [h b hb]
  constructor
  · rintro ⟨h1, h2⟩; exact ⟨by omega, h2⟩
  · rintro ⟨h1, h2⟩
    refine ⟨?_, h2⟩
    rcases Nat.lt_or_ge b k with z | z
    · exact z
    · rw [show b = k by omega] at h2; exact absurd h2 q
theorem db_lay_end {w w' : Int32} {p : Nat → Prop} (h : db_lay w p 32) (h' : ∀ b, b < 32 → (bt w' b = true ↔ p b)) : w = w' := by
  refine b_ext (fun i hi => ?_)
  have a : bt w i = true ↔ bt w' i = true := by rw [h i hi, h' i hi]; exact ⟨fun q => q.2, fun q => ⟨hi, q⟩⟩
  cases h1 : bt w i <;> cases h2 : bt w' i
  · rfl
  · exact absurd (a.mpr h2) (by rw [h1]; decide)
  · exact absurd (a.mp h1) (by rw [h2]; decide)
  · rfl
theorem db_bit_ones (x : Int32) {k : Nat} (hk : k < 32) : (x >>> (nI k &&& 31)) &&& 1 = if bt x k = true then 1 else 0 := by
  refine b_ext (fun i hi => ?_)
  rw [b_and, db_one i hi, b_sshr k hk x hi]
  by_cases h : i = 0
  · subst h
    rw [if_pos (by omega : k + 0 < 32), Nat.add_zero]
    cases bt x k <;> decide
  · rw [decide_eq_false h, Bool.and_false]
    split
    · rw [db_one i hi, decide_eq_false h]
    · rw [b_0]
