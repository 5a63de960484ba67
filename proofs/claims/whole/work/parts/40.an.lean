/-! ===== the analysis of a function: facts, demanded bits, what is replaced, demanded bits of the shorter one ===== -/
section
variable {n : Nat} {K X Y : Nat → Nat} {Nm : Nat → Int32} {f : db_Fs} {B B' : Nat → Int32} {R : Nat} {RV : Nat → Nat} {Ms : Nat → Int32}
theorem db_least_congr (h : ∀ v, v < n → B v = B' v) {v b : Nat} (q : db_least n K X Y Nm f B R RV Ms v b) : db_least n K X Y Nm f B' R RV Ms v b := by
  intro T h1 h2
  refine q T h1 (fun w hw a ha hT w' b' hb' hs => h2 w hw a ha hT w' b' hb' ?_)
  unfold db_asks at hs ⊢
  rw [h w hw] at hs
  exact hs
theorem db_D_congr (h : ∀ v, v < n → B v = B' v) (v : Nat) : db_D n K X Y Nm f B R RV Ms v = db_D n K X Y Nm f B' R RV Ms v := by
  unfold db_D
  refine db_word_eq (fun b hb => ?_)
  rw [db_word_bt _ hb]
  exact ⟨db_least_congr h, db_least_congr (fun v hv => (h v hv).symm)⟩
end
noncomputable def db_D1 (n : Nat) (K X Y : Nat → Nat) (Nm : Nat → Int32) (R : Nat) (RV : Nat → Nat) (Ms : Nat → Int32) : Nat → Int32 := db_D n K X Y Nm (db_facts n K X Y Nm) (fun _ => -1) R RV Ms
noncomputable def db_Bf (n : Nat) (K X Y : Nat → Nat) (Nm : Nat → Int32) (R : Nat) (RV : Nat → Nat) (Ms : Nat → Int32) : Nat → Int32 := db_B K X Y Nm (db_facts n K X Y Nm) (db_D1 n K X Y Nm R RV Ms)
noncomputable def db_D2 (n : Nat) (K X Y : Nat → Nat) (Nm : Nat → Int32) (R : Nat) (RV : Nat → Nat) (Ms : Nat → Int32) : Nat → Int32 := db_D n K X Y Nm (db_facts n K X Y Nm) (db_Bf n K X Y Nm R RV Ms) R RV Ms
abbrev db_AR : Type := (Nat → Int32) × (Nat → Int32) × (Nat → Int32) × (Nat → Int32) × (Nat → Int32) × Nat
def db_an (n : Nat) (K X Y : Nat → Nat) (Nm : Nat → Int32) (R : Nat) (RV : Nat → Nat) (Ms : Nat → Int32) (u : db_AR) : Prop :=
  db_reps n u.1 (db_facts n K X Y Nm) ∧ (∀ v, v < n → db_set u.2.1 v (db_D1 n K X Y Nm R RV Ms v)) ∧ (∀ v, v < n → db_set u.2.2.1 v (db_D2 n K X Y Nm R RV Ms v)) ∧ ∀ v, v < n → u.2.2.2.1 v = db_Bf n K X Y Nm R RV Ms v
theorem db_Bf_range {n : Nat} {K X Y : Nat → Nat} {Nm : Nat → Int32} {R : Nat} {RV : Nat → Nat} {Ms : Nat → Int32} (hw : db_wf n K X Y Nm) {v : Nat} (hv : v < n) : db_Bf n K X Y Nm R RV Ms v = -1 ∨ db_Bf n K X Y Nm R RV Ms v = -2 ∨ ∃ x, x < n ∧ db_Bf n K X Y Nm R RV Ms v = nI x := by
  unfold db_Bf db_B
  split
  · exact Or.inl rfl
  · split
    · exact Or.inr (Or.inl rfl)
    · split
      · exact Or.inr (Or.inr ⟨_, (hw v hv).2.1, rfl⟩)
      · exact Or.inl rfl
theorem db_facts_aps {n : Nat} {K X Y : Nat → Nat} {Nm : Nat → Int32} (hw : db_wf n K X Y Nm) : db_aps n (db_facts n K X Y Nm) := db_P_aps hw _ 769
