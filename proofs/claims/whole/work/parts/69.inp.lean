theorem db_inp3 (inp : Nat → Int32) (a b c : Int32) {j : Nat} (hj : j < 3) : upd (upd (upd inp 0 a) 1 b) 2 c j = db_inp a b c j := by
  rcases (by omega : j = 0 ∨ j = 1 ∨ j = 2) with e | e | e <;> subst e <;> rfl
theorem db_op_inp {k : Nat} (x y nm : Int32) {inp inp' : Nat → Int32} (h : k = 9 → inp nm.toNatClampNeg = inp' nm.toNatClampNeg) : db_op k x y nm inp = db_op k x y nm inp' := by
  by_cases e : k = 9
  · subst e; exact h rfl
  · unfold db_op
    split <;> first | rfl | exact absurd rfl e
/-- only the three inputs count -/
theorem db_course_inp {n : Nat} {K X Y : Nat → Nat} {Nm B fx inp inp' : Nat → Int32} (hw : db_wf n K X Y Nm) (h : ∀ j, j < 3 → inp j = inp' j) (k : Nat) (now : Nat → Int32) : db_course n K X Y Nm B fx inp k now = db_course n K X Y Nm B fx inp' k now := by
  unfold db_course
  refine db_it_congr k (fun i _ s => ?_) now
  unfold db_round
  refine db_it_congr n (fun v hv s2 => ?_) s
  unfold db_rs db_rv
  rw [db_op_inp (k := K v) (inp' := inp') _ _ _ (fun e => by
    obtain ⟨d, hd, e2⟩ := (hw v hv).2.2.2.2.2.2 e
    rw [e2, nI_clamp (by omega)]
    exact h d hd)]
