/-! ===== the class: what learning a value's facts does ===== -/
def db_lrn (ch u : Int32) (Zs On : Nat → Int32) (v : Nat) (nz no : Int32) : Prop := (Zs v = nz ∧ On v = no ∧ u = ch) ∨ (¬ (Zs v = nz ∧ On v = no) ∧ u = 1)
