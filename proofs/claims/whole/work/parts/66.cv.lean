/-! ===== what the class keeps of an analysis ===== -/
abbrev db_CU : Type := db_Fs × Int32 × (Nat → Int32) × Int32 × (Nat → Int32) × (Nat → Int32) × Int32
/-- u: facts and their flag, demanded bits and their flag, replacements, the shorter ones' demanded bits and their flag -/
def db_cv (n : Nat) (K X Y : Nat → Nat) (Nm : Nat → Int32) (R : Nat) (RV : Nat → Nat) (Ms : Nat → Int32) (u : db_CU) : Prop :=
  db_agree n u.1 (db_facts n K X Y Nm) ∧ (∀ v, v < n → u.2.2.1 v = db_D1 n K X Y Nm R RV Ms v) ∧ (∀ v, v < n → u.2.2.2.2.1 v = db_Bf n K X Y Nm R RV Ms v) ∧ ∀ v, v < n → u.2.2.2.2.2.1 v = db_D2 n K X Y Nm R RV Ms v
theorem db_Bv_congr {n : Nat} {K X Y : Nat → Nat} {Nm : Nat → Int32} {R : Nat} {RV : Nat → Nat} {Ms : Nat → Int32} {f : db_Fs} {D : Nat → Int32} {v : Nat} (hv : v < n) (hf : db_agree n f (db_facts n K X Y Nm)) (hD : D v = db_D1 n K X Y Nm R RV Ms v) : db_Bv (K v) (X v) (K (Y v)) (Nm (Y v)) (D v) (f.1 v) (f.2 v) = db_Bf n K X Y Nm R RV Ms v := by
  rw [hD, (hf v hv).1, (hf v hv).2]; rfl
