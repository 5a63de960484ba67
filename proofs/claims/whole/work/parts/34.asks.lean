theorem db_rep_zi {F : Nat → Int32} {v : Nat} {z o : Int32} (h : db_rep F v z o) {k : Nat} (hk : k < 32) : F (32 * v + k) = 0 ↔ bt z k = true := ⟨fun q => db_rep_z h hk q, fun q => by rw [h k hk, q]; rfl⟩
theorem db_rep_oi {F : Nat → Int32} {v : Nat} {z o : Int32} (h : db_rep F v z o) (ha : db_ap z o) {k : Nat} (hk : k < 32) : F (32 * v + k) = 1 ↔ bt o k = true := by
  constructor
  · exact fun q => db_rep_o h hk q
  · intro q
    have a := ha k hk
    rw [q, Bool.and_true] at a
    rw [h k hk, a, q]; rfl
theorem db_nt (b : Bool) : ¬ b = true ↔ b = false := by cases b <;> decide
