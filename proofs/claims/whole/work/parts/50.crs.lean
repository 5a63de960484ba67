/-! ===== runs: only the values that are there count ===== -/
theorem db_it_congr {σ : Type} {f g : Nat → σ → σ} : ∀ n, (∀ v, v < n → ∀ s, f v s = g v s) → ∀ s, db_it f n s = db_it g n s := by
  intro n
  induction n with
  | zero => intro _ s; rfl
  | succ n ih =>
    intro h s
    show f n (db_it f n s) = g n (db_it g n s)
    rw [ih (fun v hv => h v (by omega)), h n (by omega)]
theorem db_course_congr {n : Nat} {K X Y : Nat → Nat} {Nm B B' fx fx' inp : Nat → Int32} (hB : ∀ v, v < n → B v = B' v) (hf : ∀ v, v < n → fx v = fx' v) (k : Nat) (now : Nat → Int32) : db_course n K X Y Nm B fx inp k now = db_course n K X Y Nm B' fx' inp k now := by
  unfold db_course
  refine db_it_congr k (fun i _ s => ?_) now
  unfold db_round
  refine db_it_congr n (fun v hv s2 => ?_) s
  unfold db_rs db_rv
  rw [hB v hv, hf v hv]
def db_dif (a b : Nat → Int32) (n : Nat) : Nat := db_cn (fun w => decide (¬ a w = b w)) n
