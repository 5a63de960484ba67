/-! ===== Int32 by its bits: bt x i ===== -/
def bt (x : Int32) (i : Nat) : Bool := x.toBitVec.getLsbD i
theorem b_ext {x y : Int32} (h : ∀ i, i < 32 → bt x i = bt y i) : x = y := Int32.toBitVec_inj.mp (BitVec.eq_of_getLsbD_eq (fun i hi => h i hi))
theorem b_or (x y : Int32) (i : Nat) : bt (x ||| y) i = (bt x i || bt y i) := by unfold bt; rw [Int32.toBitVec_or, BitVec.getLsbD_or]
theorem b_and (x y : Int32) (i : Nat) : bt (x &&& y) i = (bt x i && bt y i) := by unfold bt; rw [Int32.toBitVec_and, BitVec.getLsbD_and]
theorem b_xor (x y : Int32) (i : Nat) : bt (x ^^^ y) i = (bt x i ^^ bt y i) := by unfold bt; rw [Int32.toBitVec_xor, BitVec.getLsbD_xor]
theorem b_big {x : Int32} {i : Nat} (h : 32 ≤ i) : bt x i = false := BitVec.getLsbD_of_ge _ _ h
theorem b_255 (i : Nat) : bt 255 i = decide (i < 8) := by
  rcases Nat.lt_or_ge i 32 with h | h
  · exact (by decide +kernel : ∀ i, i < 32 → bt 255 i = decide (i < 8)) i h
  · rw [b_big h, decide_eq_false (by omega)]
theorem b_65535 (i : Nat) : bt 65535 i = decide (i < 16) := by
  rcases Nat.lt_or_ge i 32 with h | h
  · exact (by decide +kernel : ∀ i, i < 32 → bt 65535 i = decide (i < 16)) i h
  · rw [b_big h, decide_eq_false (by omega)]
theorem b_m1 : ∀ i, i < 32 → bt (-1) i = true := by decide +kernel
theorem b_0 (i : Nat) : bt 0 i = false := BitVec.getLsbD_zero
theorem s_l : ∀ n, n < 32 → ((nI n &&& 31).toBitVec.smod 32).toNat = n := by decide +kernel
theorem s_u : ∀ n, n < 32 → (((nI n).toUInt32 &&& Int32.toUInt32 31).toBitVec % 32).toNat = n := by decide +kernel
theorem b_shl (n : Nat) (hn : n < 32) (x : Int32) {i : Nat} (hi : i < 32) : bt (x <<< (nI n &&& 31)) i = (decide (n ≤ i) && bt x (i - n)) := by
  unfold bt
  rw [Int32.toBitVec_shiftLeft]
  show (x.toBitVec <<< ((nI n &&& 31).toBitVec.smod 32).toNat).getLsbD i = _
  rw [s_l n hn, BitVec.getLsbD_shiftLeft]
  rcases Nat.lt_or_ge i n with h | h
  · simp [h, Nat.not_le.mpr h]
  · simp [hi, h, Nat.not_lt.mpr h]
theorem b_ushr (n : Nat) (hn : n < 32) (x : Int32) (i : Nat) : bt ((x.toUInt32 >>> ((nI n).toUInt32 &&& Int32.toUInt32 31)).toInt32) i = bt x (n + i) := by
  show (x.toUInt32 >>> ((nI n).toUInt32 &&& Int32.toUInt32 31)).toBitVec.getLsbD i = x.toUInt32.toBitVec.getLsbD (n + i)
  rw [UInt32.toBitVec_shiftRight]
  show (x.toUInt32.toBitVec >>> (((nI n).toUInt32 &&& Int32.toUInt32 31).toBitVec % 32).toNat).getLsbD i = _
  rw [s_u n hn, BitVec.getLsbD_ushiftRight]
theorem b_sshr (n : Nat) (hn : n < 32) (x : Int32) {i : Nat} (hi : i < 32) : bt (x >>> (nI n &&& 31)) i = if n + i < 32 then bt x (n + i) else bt x 31 := by
  unfold bt
  rw [Int32.toBitVec_shiftRight]
  show (x.toBitVec.sshiftRight ((nI n &&& 31).toBitVec.smod 32).toNat).getLsbD i = _
  rw [s_l n hn, BitVec.getLsbD_sshiftRight, BitVec.msb_eq_getLsbD_last]
  simp [hi]
theorem b_shl8 (x : Int32) {i : Nat} (hi : i < 32) : bt (x <<< ((8 : Int32) &&& 31)) i = (decide (8 ≤ i) && bt x (i - 8)) := b_shl 8 (by omega) x hi
theorem b_shl16 (x : Int32) {i : Nat} (hi : i < 32) : bt (x <<< ((16 : Int32) &&& 31)) i = (decide (16 ≤ i) && bt x (i - 16)) := b_shl 16 (by omega) x hi
theorem b_shl24 (x : Int32) {i : Nat} (hi : i < 32) : bt (x <<< ((24 : Int32) &&& 31)) i = (decide (24 ≤ i) && bt x (i - 24)) := b_shl 24 (by omega) x hi
theorem b_sshr8 (x : Int32) {i : Nat} (hi : i < 32) : bt (x >>> ((8 : Int32) &&& 31)) i = if 8 + i < 32 then bt x (8 + i) else bt x 31 := b_sshr 8 (by omega) x hi
/-! ===== more on bits ===== -/
theorem db_not (x : Int32) {i : Nat} (hi : i < 32) : bt (x ^^^ (-1)) i = !bt x i := by
  rw [b_xor, b_m1 i hi]; cases bt x i <;> rfl
theorem db_one : ∀ i, i < 32 → bt 1 i = decide (i = 0) := by decide +kernel
theorem db_eq0 {x : Int32} : x = 0 ↔ ∀ i, i < 32 → bt x i = false :=
  ⟨fun h i _ => by rw [h]; exact b_0 i, fun h => b_ext (fun i hi => by rw [h i hi, b_0])⟩
theorem db_ne0 {x : Int32} : ¬ x = 0 ↔ ∃ i, i < 32 ∧ bt x i = true := by
  constructor
  · intro h
    rcases Classical.em (∃ i, i < 32 ∧ bt x i = true) with q | q
    · exact q
    · exfalso
      apply h
      rw [db_eq0]
      intro i hi
      cases hb : bt x i
      · rfl
      · exact absurd ⟨i, hi, hb⟩ q
  · rintro ⟨i, hi, hb⟩ rfl
    rw [b_0] at hb
    cases hb
/-- x + y + c by bits: carry -/
def db_ca (k : Nat) (x y : Int32) (c : Bool) : Bool := BitVec.carry k x.toBitVec y.toBitVec c
theorem db_ca0 (x y : Int32) (c : Bool) : db_ca 0 x y c = c := BitVec.carry_zero
theorem db_caS (k : Nat) (x y : Int32) (c : Bool) : db_ca (k + 1) x y c = Bool.atLeastTwo (bt x k) (bt y k) (db_ca k x y c) := BitVec.carry_succ k _ _ _
def db_cw (c : Bool) : Int32 := if c = true then 1 else 0
theorem db_cwv (c : Bool) : (db_cw c).toBitVec = BitVec.setWidth 32 (BitVec.ofBool c) := by cases c <;> decide
theorem db_add (x y : Int32) (c : Bool) {i : Nat} (hi : i < 32) : bt (x + y + db_cw c) i = (bt x i ^^ (bt y i ^^ db_ca i x y c)) := by
  unfold bt db_ca
  rw [Int32.toBitVec_add, Int32.toBitVec_add, db_cwv]
  exact BitVec.getLsbD_add_add_bool hi _ _ _
/-! three-valued bits -/
def db_tri (z o : Bool) : Int32 := if z = true then 0 else if o = true then 1 else 2
def db_sum3 (a b c : Int32) : Int32 := if a = 2 ∨ b = 2 ∨ c = 2 then 2 else (a + b + c) - (a + b + c) / 2 * 2
def db_z1 (a : Int32) : Int32 := if a = 0 then 1 else 0
def db_o1 (a : Int32) : Int32 := if a = 1 then 1 else 0
def db_car3 (a b c : Int32) : Int32 := if 1 < db_z1 a + db_z1 b + db_z1 c then 0 else if 1 < db_o1 a + db_o1 b + db_o1 c then 1 else 2
def db_turn (a : Int32) : Int32 := if a = 2 then 2 else 1 - a
def db_and3 (a b : Int32) : Int32 := if a = 0 ∨ b = 0 then 0 else if a = 1 ∧ b = 1 then 1 else 2
theorem db_turn_tri : ∀ z o : Bool, (z && o) = false → db_turn (db_tri z o) = db_tri o z := by decide +kernel
theorem db_and_tri : ∀ z o z' o' : Bool, (z && o) = false → (z' && o') = false → db_and3 (db_tri z o) (db_tri z' o') = db_tri (z || z') (o && o') := by decide +kernel
theorem db_or_tri : ∀ z o z' o' : Bool, (z && o) = false → (z' && o') = false → db_turn (db_and3 (db_turn (db_tri z o)) (db_turn (db_tri z' o'))) = db_tri (z && z') (o || o') := by decide +kernel
theorem db_xor_tri : ∀ z o z' o' : Bool, (z && o) = false → (z' && o') = false → db_sum3 (db_tri z o) (db_tri z' o') 0 = db_tri (z && z' || o && o') (z && o' || o && z') := by decide +kernel
/-- ripple: a carry of three values is the pair (no carry of the greatest, carry of the least) -/
theorem db_car_tri : ∀ z o z' o' g l : Bool, (z && o) = false → (z' && o') = false → (!g && l) = false →
    db_car3 (db_tri z o) (db_tri z' o') (db_tri (!g) l) = db_tri (!Bool.atLeastTwo (!z) (!z') g) (Bool.atLeastTwo o o' l) ∧ (!(Bool.atLeastTwo (!z) (!z') g) && Bool.atLeastTwo o o' l) = false := by decide +kernel
theorem db_sum_tri : ∀ z o z' o' g l : Bool, (z && o) = false → (z' && o') = false → (!g && l) = false →
    db_sum3 (db_tri z o) (db_tri z' o') (db_tri (!g) l) = db_tri ((z || o) && (z' || o') && !(l ^^ g) && !(o ^^ (o' ^^ l))) ((z || o) && (z' || o') && !(l ^^ g) && (o ^^ (o' ^^ l))) := by decide +kernel
/-- the facts of a sum, by the word -/
def db_sumK (zx ox zy oy c : Int32) : Int32 :=
  ((zx ||| ox) &&& (zy ||| oy)) &&& ((((ox + oy + c) ^^^ ox ^^^ oy) ^^^ (((zx ^^^ (-1)) + (zy ^^^ (-1)) + c) ^^^ (zx ^^^ (-1)) ^^^ (zy ^^^ (-1)))) ^^^ (-1))
def db_sumZ (zx ox zy oy c : Int32) : Int32 := db_sumK zx ox zy oy c &&& ((ox + oy + c) ^^^ (-1))
def db_sumO (zx ox zy oy c : Int32) : Int32 := db_sumK zx ox zy oy c &&& (ox + oy + c)
/-- apart: no bit is known to be both -/
def db_ap (z o : Int32) : Prop := ∀ i, i < 32 → (bt z i && bt o i) = false
theorem db_car_inv (zx ox zy oy : Int32) (c : Bool) (hx : db_ap zx ox) (hy : db_ap zy oy) : ∀ k, k ≤ 32 → (!db_ca k (zx ^^^ (-1)) (zy ^^^ (-1)) c && db_ca k ox oy c) = false := by
  intro k
  induction k with
  | zero => intro _; rw [db_ca0, db_ca0]; cases c <;> rfl
  | succ k ih =>
    intro hk
    have h := (db_car_tri (bt zx k) (bt ox k) (bt zy k) (bt oy k) _ _ (hx k (by omega)) (hy k (by omega)) (ih (by omega))).2
    rw [db_caS, db_caS, db_not zx (by omega), db_not zy (by omega)]
    exact h
def db_rip (zx ox zy oy : Int32) (c : Bool) : Nat → Int32
  | 0 => db_cw c
  | k + 1 => db_car3 (db_tri (bt zx k) (bt ox k)) (db_tri (bt zy k) (bt oy k)) (db_rip zx ox zy oy c k)
theorem db_rip_eq (zx ox zy oy : Int32) (c : Bool) (hx : db_ap zx ox) (hy : db_ap zy oy) : ∀ k, k ≤ 32 → db_rip zx ox zy oy c k = db_tri (!db_ca k (zx ^^^ (-1)) (zy ^^^ (-1)) c) (db_ca k ox oy c) := by
  intro k
  induction k with
  | zero => intro _; rw [db_ca0, db_ca0]; cases c <;> rfl
  | succ k ih =>
    intro hk
    show db_car3 _ _ (db_rip zx ox zy oy c k) = _
    rw [ih (by omega), (db_car_tri (bt zx k) (bt ox k) (bt zy k) (bt oy k) _ _ (hx k (by omega)) (hy k (by omega)) (db_car_inv zx ox zy oy c hx hy k (by omega))).1, db_caS, db_caS, db_not zx (by omega), db_not zy (by omega)]
theorem db_sumK_bit (zx ox zy oy : Int32) (c : Bool) {k : Nat} (hk : k < 32) : bt (db_sumK zx ox zy oy (db_cw c)) k = ((bt zx k || bt ox k) && (bt zy k || bt oy k) && !(db_ca k ox oy c ^^ db_ca k (zx ^^^ (-1)) (zy ^^^ (-1)) c)) := by
  unfold db_sumK
  rw [b_and, b_and, b_or, b_or, db_not _ hk, b_xor, b_xor, b_xor, b_xor, b_xor, db_add _ _ _ hk, db_add _ _ _ hk, db_not zx hk, db_not zy hk]
  cases bt zx k <;> cases bt ox k <;> cases bt zy k <;> cases bt oy k <;> cases db_ca k ox oy c <;> cases db_ca k (zx ^^^ (-1)) (zy ^^^ (-1)) c <;> rfl
theorem db_sum_bit (zx ox zy oy : Int32) (c : Bool) (hx : db_ap zx ox) (hy : db_ap zy oy) {k : Nat} (hk : k < 32) :
    db_sum3 (db_tri (bt zx k) (bt ox k)) (db_tri (bt zy k) (bt oy k)) (db_rip zx ox zy oy c k) = db_tri (bt (db_sumZ zx ox zy oy (db_cw c)) k) (bt (db_sumO zx ox zy oy (db_cw c)) k) := by
  rw [db_rip_eq zx ox zy oy c hx hy k (by omega), db_sum_tri _ _ _ _ _ _ (hx k hk) (hy k hk) (db_car_inv zx ox zy oy c hx hy k (by omega))]
  unfold db_sumZ db_sumO
  rw [b_and, b_and, db_sumK_bit _ _ _ _ _ hk, db_not _ hk, db_add _ _ _ hk]
theorem db_sum_ap (zx ox zy oy c : Int32) : db_ap (db_sumZ zx ox zy oy c) (db_sumO zx ox zy oy c) := by
  intro i hi
  unfold db_sumZ db_sumO
  rw [b_and, b_and, db_not _ hi]
  cases bt (db_sumK zx ox zy oy c) i <;> cases bt (ox + oy + c) i <;> rfl
