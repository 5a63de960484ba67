/-! ===== replaced: the reference's tests ===== -/
def db_allD (al : Int32) (P : Nat → Prop) (i : Nat) : Prop := (al = 1 ∧ ∀ k, i ≤ k → k < 32 → P k) ∨ (al = 0 ∧ ∃ k, i ≤ k ∧ k < 32 ∧ ¬ P k)
theorem db_allD0 (P : Nat → Prop) : db_allD 1 P 32 := Or.inl ⟨rfl, fun k h1 h2 => by omega⟩
theorem db_allD_f {al : Int32} {P : Nat → Prop} {k : Nat} (h : db_allD al P (k + 1)) (q : al = 0) : db_allD 0 P k := by
  rcases h with ⟨e, -⟩ | ⟨-, i, h1, h2, h3⟩
  · rw [q] at e; exact absurd e (by decide)
  · exact Or.inr ⟨rfl, i, by omega, h2, h3⟩
theorem db_allD_y {al : Int32} {P : Nat → Prop} {k : Nat} (h : db_allD al P (k + 1)) (q : ¬ al = 0) (hp : P k) : db_allD 1 P k := by
  rcases h with ⟨-, h⟩ | ⟨e, -⟩
  · refine Or.inl ⟨rfl, fun i h1 h2 => ?_⟩
    by_cases e : i = k
    · rw [e]; exact hp
    · exact h i (by omega) h2
  · exact absurd e q
theorem db_allD_n {al : Int32} {P : Nat → Prop} {k : Nat} (_ : db_allD al P (k + 1)) (hk : k < 32) (hp : ¬ P k) : db_allD 0 P k := Or.inr ⟨rfl, k, Nat.le_refl k, hk, hp⟩
theorem db_allD_end {al : Int32} {P : Nat → Prop} {c : Prop} [Decidable c] (h : db_allD al P 0) (hc : (∀ i, i < 32 → P i) ↔ c) : al = if c then 1 else 0 := by
  rcases h with ⟨e, h⟩ | ⟨e, i, h1, h2, h3⟩
  · rw [if_pos (hc.mp (fun i hi => h i (Nat.zero_le i) hi))]; exact e
  · rw [if_neg (fun q => h3 (hc.mpr q i h2))]; exact e
theorem db_allD_01 {al : Int32} {P : Nat → Prop} {i : Nat} (h : db_allD al P i) : narrow .boolean (.int al) = .int al := by
  rcases h with ⟨e, -⟩ | ⟨e, -⟩ <;> subst e <;> rfl
/-- some bit from here on -/
def db_smD (sm d : Int32) (i : Nat) : Prop := (sm = 1 ∧ ∃ k, k < 32 ∧ bt d k = true ∧ i ≤ k) ∨ (sm = 0 ∧ ∀ k, i ≤ k → k < 32 → bt d k = false)
theorem db_smD0 (d : Int32) : db_smD 0 d 32 := Or.inr ⟨rfl, fun k h1 h2 => by omega⟩
theorem db_smD_y {sm d : Int32} {k : Nat} (_ : db_smD sm d (k + 1)) (hk : k < 32) (h : bt d k = true) : db_smD 1 d k := Or.inl ⟨rfl, k, hk, h, Nat.le_refl k⟩
theorem db_smD_1 {sm d : Int32} {k : Nat} (h : db_smD sm d (k + 1)) (q : ¬ sm = 0) : db_smD 1 d k := by
  rcases h with ⟨-, i, h1, h2, h3⟩ | ⟨e, -⟩
  · exact Or.inl ⟨rfl, i, h1, h2, by omega⟩
  · exact absurd e q
theorem db_smD_0 {sm d : Int32} {k : Nat} (h : db_smD sm d (k + 1)) (q : sm = 0) (hb : bt d k = false) : db_smD 0 d k := by
  rcases h with ⟨e, -⟩ | ⟨-, h⟩
  · rw [q] at e; exact absurd e (by decide)
  · refine Or.inr ⟨rfl, fun i h1 h2 => ?_⟩
    by_cases e : i = k
    · rw [e]; exact hb
    · exact h i (by omega) h2
theorem db_smD_no {d : Int32} {k : Nat} (h : db_smD 0 d k) : ¬ ∃ i, i < 32 ∧ bt d i = true ∧ k ≤ i := by
  rintro ⟨i, h1, h2, h3⟩
  rcases h with ⟨e, -⟩ | ⟨-, h⟩
  · exact absurd e (by decide)
  · rw [h i h3 h1] at h2; cases h2
theorem db_smD_yes {d : Int32} {k : Nat} (h : db_smD 1 d k) : ∃ i, i < 32 ∧ bt d i = true ∧ k ≤ i := by
  rcases h with ⟨-, h⟩ | ⟨e, -⟩
  · exact h
  · exact absurd e (by decide)
theorem db_bit1 {x : Int32} {k : Nat} (hk : k < 32) : ((x >>> (nI k &&& 31)) &&& 1 = 1 ↔ bt x k = true) ∧ ((x >>> (nI k &&& 31)) &&& 1 = 0 ↔ bt x k = false) := by
  rw [db_bit_ones x hk]
  cases bt x k <;> decide
def db_Bv (kd x ky : Nat) (c d z o : Int32) : Int32 := if kd = 10 then -1 else if d &&& ((z ||| o) ^^^ (-1)) = 0 then -2 else if db_has kd (decide (ky = 10)) c d = true then nI x else -1
theorem db_B_v (K X Y : Nat → Nat) (Nm : Nat → Int32) (f : db_Fs) (D : Nat → Int32) (v : Nat) : db_B K X Y Nm f D v = db_Bv (K v) (X v) (K (Y v)) (Nm (Y v)) (D v) (f.1 v) (f.2 v) := rfl
theorem db_rk10 {k : Nat} (h : k ≤ 13) : db_rk k = 13 ↔ k = 10 := by
  have q : ∀ k, k < 14 → (db_rk k = 13 ↔ k = 10) := by decide
  exact q k (by omega)
