/-! ===== a function grows by a value ===== -/
def db_upN (f : Nat → Nat) (i x : Nat) : Nat → Nat := fun j => if j = i then x else f j
theorem db_upN_s {f : Nat → Nat} {i x : Nat} : db_upN f i x i = x := if_pos rfl
theorem db_upN_n {f : Nat → Nat} {i j x : Nat} (h : j ≠ i) : db_upN f i x j = f j := if_neg h
theorem db_nI_up (f : Nat → Nat) (i x : Nat) : upd (fun w => nI (f w)) i (nI x) = fun w => nI (db_upN f i x w) := by
  funext j
  by_cases e : j = i
  · subst e; rw [pk_us, db_upN_s]
  · rw [pk_un e, db_upN_n e]
theorem db_md_up (K : Nat → Nat) (n kd : Nat) (what : Int32) (h : what = nI (db_rk kd)) : upd (fun w => nI (db_rk (K w))) n what = fun w => nI (db_rk (db_upN K n kd w)) := by
  subst h
  funext j
  by_cases e : j = n
  · subst e; rw [pk_us, db_upN_s]
  · rw [pk_un e, db_upN_n e]
theorem db_o1_up (K X : Nat → Nat) (Nm : Nat → Int32) (n kd x : Nat) (nm one : Int32) (h : one = if kd = 9 ∨ kd = 10 then nm else nI x) : upd (db_one1 K X Nm) n one = db_one1 (db_upN K n kd) (db_upN X n x) (upd Nm n nm) := by
  subst h
  funext j
  unfold db_one1
  by_cases e : j = n
  · subst e; rw [pk_us, db_upN_s, db_upN_s, pk_us]
  · rw [pk_un e, db_upN_n e, db_upN_n e, pk_un e]
theorem db_t2_up (K Y : Nat → Nat) (Nm : Nat → Int32) (n kd y : Nat) (nm two : Int32) (h : two = if 6 ≤ kd ∧ kd ≤ 8 then nm else nI y) : upd (db_two2 K Y Nm) n two = db_two2 (db_upN K n kd) (db_upN Y n y) (upd Nm n nm) := by
  subst h
  funext j
  unfold db_two2
  by_cases e : j = n
  · subst e; rw [pk_us, db_upN_s, db_upN_s, pk_us]
  · rw [pk_un e, db_upN_n e, db_upN_n e, pk_un e]
/-- a LOOP gets its back value -/
theorem db_t2_back (K Y : Nat → Nat) (Nm : Nat → Int32) (v y : Nat) (h : K v = 13) : upd (db_two2 K Y Nm) v (nI y) = db_two2 K (db_upN Y v y) Nm := by
  funext j
  unfold db_two2
  by_cases e : j = v
  · subst e; rw [pk_us, db_upN_s, if_neg (by omega)]
  · rw [pk_un e, db_upN_n e]
theorem db_isv_y {j n : Nat} (hj : j < n) (hn : n ≤ 24) : db_isv (nI j) (nI n) = 1 := by
  unfold db_isv
  refine if_neg ?_
  rintro (h | h)
  · exact nI_pos (by omega) h
  · exact nI_ge hj (by omega) h
