/-! ===== what the reference's methods answer ===== -/
def db_isv (v vl : Int32) : Int32 := if v < 0 ∨ vl ≤ v then 0 else 1
theorem db_isv_cases (v : Int32) {n : Nat} (hn : n < 2 ^ 31) : (db_isv v (nI n) = 0 ∧ (v < 0 ∨ nI n ≤ v)) ∨ ∃ j, j < n ∧ v = nI j ∧ db_isv v (nI n) = 1 := by
  rcases pk_ix v hn with h | h | ⟨j, hj, e⟩
  · exact Or.inl ⟨if_pos (Or.inl h), Or.inl h⟩
  · exact Or.inl ⟨if_pos (Or.inr h), Or.inr h⟩
  · refine Or.inr ⟨j, hj, e, if_neg ?_⟩
    rintro (h | h)
    · rw [e] at h; exact nI_pos (by omega) h
    · rw [e] at h; exact nI_ge hj hn h
/-- the reference's set of bits of value v is this word -/
def db_set (F : Nat → Int32) (v : Nat) (d : Int32) : Prop := ∀ k, k < 32 → F (32 * v + k) = if bt d k = true then 1 else 0
theorem db_set_y {F : Nat → Int32} {v : Nat} {d : Int32} (h : db_set F v d) {k : Nat} (hk : k < 32) (q : ¬ F (32 * v + k) = 0) : bt d k = true := by
  rw [h k hk] at q
  cases hb : bt d k
  · rw [hb] at q; exact absurd rfl q
  · rfl
theorem db_set_n {F : Nat → Int32} {v : Nat} {d : Int32} (h : db_set F v d) {k : Nat} (hk : k < 32) (q : F (32 * v + k) = 0) : bt d k = false := by
  rw [h k hk] at q
  cases hb : bt d k
  · rfl
  · rw [hb] at q; exact absurd q (by decide)
theorem db_rep_z {F : Nat → Int32} {v : Nat} {z o : Int32} (h : db_rep F v z o) {k : Nat} (hk : k < 32) (q : F (32 * v + k) = 0) : bt z k = true := by
  rw [h k hk] at q
  revert q
  cases bt z k <;> cases bt o k <;> decide
theorem db_rep_nz {F : Nat → Int32} {v : Nat} {z o : Int32} (h : db_rep F v z o) {k : Nat} (hk : k < 32) (q : ¬ F (32 * v + k) = 0) : ¬ bt z k = true := by
  rw [h k hk] at q
  revert q
  cases bt z k <;> cases bt o k <;> decide
theorem db_rep_o {F : Nat → Int32} {v : Nat} {z o : Int32} (h : db_rep F v z o) {k : Nat} (hk : k < 32) (q : F (32 * v + k) = 1) : bt o k = true := by
  rw [h k hk] at q
  revert q
  cases bt z k <;> cases bt o k <;> decide
theorem db_rep_no {F : Nat → Int32} {v : Nat} {z o : Int32} (h : db_rep F v z o) (ha : db_ap z o) {k : Nat} (hk : k < 32) (q : ¬ F (32 * v + k) = 1) : ¬ bt o k = true := by
  have a := ha k hk
  rw [h k hk] at q
  revert q a
  cases bt z k <;> cases bt o k <;> decide
/-- a running 'all' -/
def db_all (al : Int32) (P : Nat → Prop) (lo k : Nat) : Prop := (al = 1 ∧ ∀ i, lo ≤ i → i < k → P i) ∨ (al = 0 ∧ ∃ i, lo ≤ i ∧ i < k ∧ ¬ P i)
theorem db_all0 (P : Nat → Prop) (lo : Nat) : db_all 1 P lo lo := Or.inl ⟨rfl, fun i h1 h2 => by omega⟩
theorem db_all_f {al : Int32} {P : Nat → Prop} {lo k : Nat} (h : db_all al P lo k) (q : al = 0) : db_all 0 P lo (k + 1) := by
  rcases h with ⟨e, -⟩ | ⟨-, i, h1, h2, h3⟩
  · rw [q] at e; exact absurd e (by decide)
  · exact Or.inr ⟨rfl, i, h1, by omega, h3⟩
theorem db_all_y {al : Int32} {P : Nat → Prop} {lo k : Nat} (h : db_all al P lo k) (q : ¬ al = 0) (hp : P k) : db_all 1 P lo (k + 1) := by
  rcases h with ⟨-, h⟩ | ⟨e, -⟩
  · refine Or.inl ⟨rfl, fun i h1 h2 => ?_⟩
    by_cases e : i = k
    · rw [e]; exact hp
    · exact h i h1 (by omega)
  · exact absurd e q
theorem db_all_n {al : Int32} {P : Nat → Prop} {lo k : Nat} (hk : lo ≤ k) (_ : db_all al P lo k) (hp : ¬ P k) : db_all 0 P lo (k + 1) := Or.inr ⟨rfl, k, hk, by omega, hp⟩
theorem db_all_end {al : Int32} {P : Nat → Prop} {lo k : Nat} {c : Prop} [Decidable c] (h : db_all al P lo k) (hc : (∀ i, lo ≤ i → i < k → P i) ↔ c) : al = if c then 1 else 0 := by
  rcases h with ⟨e, h⟩ | ⟨e, i, h1, h2, h3⟩
  · rw [if_pos (hc.mp h)]; exact e
  · rw [if_neg (fun q => h3 (hc.mpr q i h1 h2))]; exact e
theorem db_all_01 {al : Int32} {P : Nat → Prop} {lo k : Nat} (h : db_all al P lo k) : narrow .boolean (.int al) = .int al := by
  rcases h with ⟨e, -⟩ | ⟨e, -⟩ <;> subst e <;> rfl
