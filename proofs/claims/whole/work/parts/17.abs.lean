/-! ===== the reference's arrays of the same function ===== -/
def db_rk (k : Nat) : Nat := match k with
  | 9 => 12
  | 10 => 13
  | 11 => 9
  | 12 => 10
  | 13 => 11
  | k => k
def db_one1 (K X : Nat → Nat) (Nm : Nat → Int32) (v : Nat) : Int32 := if K v = 9 ∨ K v = 10 then Nm v else nI (X v)
def db_two2 (K Y : Nat → Nat) (Nm : Nat → Int32) (v : Nat) : Int32 := if 6 ≤ K v ∧ K v ≤ 8 then Nm v else nI (Y v)
/-- the reference's facts of value v are these words -/
def db_rep (F : Nat → Int32) (v : Nat) (z o : Int32) : Prop := ∀ k, k < 32 → F (32 * v + k) = db_tri (bt z k) (bt o k)
def db_out (F G : Nat → Int32) (v : Nat) : Prop := ∀ j, j < 32 * v ∨ 32 * v + 32 ≤ j → G j = F j
theorem db_out_rfl (F : Nat → Int32) (v : Nat) : db_out F F v := fun _ _ => rfl
theorem db_out_upd {F G : Nat → Int32} {v k : Nat} (x : Int32) (h : db_out F G v) (hk : k < 32) : db_out F (upd G (32 * v + k) x) v := fun j hj => by
  rw [pk_un (by omega)]; exact h j hj
theorem db_rep_out {F G : Nat → Int32} {v w : Nat} {z o : Int32} (h : db_rep F w z o) (hG : db_out F G v) (hne : w ≠ v) : db_rep G w z o := fun k hk => by
  rw [hG _ (by omega)]; exact h k hk
/-- part of a value's facts laid -/
def db_part (G : Nat → Int32) (v m : Nat) (z o : Int32) : Prop := ∀ k, k < m → G (32 * v + k) = db_tri (bt z k) (bt o k)
theorem db_part0 (G : Nat → Int32) (v : Nat) (z o : Int32) : db_part G v 0 z o := fun k hk => absurd hk (Nat.not_lt_zero k)
theorem db_part_s {G : Nat → Int32} {v m : Nat} {z o x : Int32} (h : db_part G v m z o) (hx : x = db_tri (bt z m) (bt o m)) : db_part (upd G (32 * v + m) x) v (m + 1) z o := fun k hk => by
  by_cases e : k = m
  · subst e; rw [pk_us]; exact hx
  · rw [pk_un (by omega)]; exact h k (by omega)
