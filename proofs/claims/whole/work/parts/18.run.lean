/-! ===== runs ===== -/
def db_op (k : Nat) (x y nm : Int32) (inp : Nat → Int32) : Int32 := match k with
  | 0 => x + y
  | 1 => x - y
  | 2 => x * y
  | 3 => x &&& y
  | 4 => x ||| y
  | 5 => x ^^^ y
  | 6 => x <<< (nm &&& 31)
  | 7 => x >>> (nm &&& 31)
  | 8 => db_ushr x nm
  | 9 => inp nm.toNatClampNeg
  | 11 => x.toInt8.toInt32
  | 12 => x.toInt16.toInt32
  | _ => nm
/-- one value in one round; first: the first round -/
def db_rv (K X Y : Nat → Nat) (Nm : Nat → Int32) (B fx : Nat → Int32) (first : Prop) [Decidable first] (bef inp : Nat → Int32) (v : Nat) (now : Nat → Int32) : Int32 :=
  if B v = -2 then fx v else if B v = -1 then
    (if K v = 13 then (if first then now (X v) else bef (Y v)) else db_op (K v) (now (X v)) (now (Y v)) (Nm v) inp)
  else now (B v).toNatClampNeg
def db_rs (K X Y : Nat → Nat) (Nm : Nat → Int32) (B fx : Nat → Int32) (first : Prop) [Decidable first] (bef inp : Nat → Int32) (v : Nat) (now : Nat → Int32) : Nat → Int32 :=
  upd now v (db_rv K X Y Nm B fx first bef inp v now)
def db_round (n : Nat) (K X Y : Nat → Nat) (Nm : Nat → Int32) (B fx inp : Nat → Int32) (i : Nat) (now : Nat → Int32) : Nat → Int32 :=
  db_it (db_rs K X Y Nm B fx (i = 0) now inp) n now
def db_course (n : Nat) (K X Y : Nat → Nat) (Nm : Nat → Int32) (B fx inp : Nat → Int32) (k : Nat) (now : Nat → Int32) : Nat → Int32 :=
  db_it (fun i s => db_round n K X Y Nm B fx inp i s) k now
/-- x << 24 >> 24 is (byte) x; the same for 16 -/
theorem db_b24 (x : Int32) : (x <<< (nI 24 &&& 31)) >>> (nI 24 &&& 31) = x.toInt8.toInt32 := by
  refine b_ext (fun i hi => ?_)
  rw [b_sshr 24 (by omega) _ hi, db_i2b x hi]
  split
  · rw [b_shl 24 (by omega) _ (by omega), decide_eq_true (by omega), Bool.true_and]
    rw [if_neg (by omega)]; congr 1; omega
  · rw [b_shl 24 (by omega) _ (by omega), decide_eq_true (by omega), Bool.true_and]
    split
    · rfl
    · congr 1; omega
theorem db_s16 (x : Int32) : (x <<< (nI 16 &&& 31)) >>> (nI 16 &&& 31) = x.toInt16.toInt32 := by
  refine b_ext (fun i hi => ?_)
  rw [b_sshr 16 (by omega) _ hi, db_i2s x hi]
  split
  · rw [b_shl 16 (by omega) _ (by omega), decide_eq_true (by omega), Bool.true_and]
    rw [if_neg (by omega)]; congr 1; omega
  · rw [b_shl 16 (by omega) _ (by omega), decide_eq_true (by omega), Bool.true_and]
    split
    · rfl
    · congr 1; omega
/-- counting differences -/
def db_cnt (p : Nat → Bool) (m : Nat) : Nat := db_cn p m
