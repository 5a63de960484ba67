/-! ===== leading and trailing zeros, as the JDK finds them ===== -/
theorem db_lz_of {a s b : Nat} (ha : a < 2147483648) (hs : s ≤ 30) (h : a / 2 ^ s = b) (h1 : 1 ≤ b) (h3 : b ≤ 3) : nI (31 - s) - nI (b / 2) = nI (db_lz (nI a)) := by
  have hp : 0 < 2 ^ s := Nat.two_pow_pos s
  have key : ∀ t, t ≤ 31 → 2 ^ t ≤ a → a < 2 ^ (t + 1) → db_lz (nI a) = 31 - t := by
    intro t ht h1 h2
    refine db_lz_eq (by omega) (fun i hi => ?_) (fun _ => ?_)
    · rw [db_bt_nI _ (by omega)]
      apply Nat.testBit_lt_two_pow
      exact Nat.lt_of_lt_of_le h2 (Nat.pow_le_pow_right (by omega) (by omega))
    · rw [show 31 - (31 - t) = t by omega, db_bt_nI _ (by omega), Nat.testBit_eq_decide_div_mod_eq]
      have e : a / 2 ^ t = 1 := by
        rw [Nat.pow_succ] at h2
        apply Nat.div_eq_of_lt_le
        · omega
        · omega
      rw [e]; rfl
  have h4 := Nat.div_add_mod a (2 ^ s)
  have h5 := Nat.mod_lt a hp
  rw [h] at h4
  rcases (by omega : b = 1 ∨ b = 2 ∨ b = 3) with e | e | e
  · subst e
    rw [key s (by omega) (by omega) (by rw [Nat.pow_succ]; omega), pk_sub (by omega)]
    rfl
  · subst e
    rw [key (s + 1) (by omega) (by rw [Nat.pow_succ]; omega) (by rw [Nat.pow_succ, Nat.pow_succ]; omega), pk_sub (by omega)]
    congr 1
  · subst e
    rw [key (s + 1) (by omega) (by rw [Nat.pow_succ]; omega) (by rw [Nat.pow_succ, Nat.pow_succ]; omega), pk_sub (by omega)]
    congr 1
theorem db_lz_0 : nI (db_lz 0) = 32 := by
  rw [db_lz_eq (x := 0) (n := 32) (by omega) (fun i _ => b_0 _) (fun h => by omega)]; rfl
theorem db_lz_neg {x : Int32} (h : x < 0) : nI (db_lz x) = 0 := by
  have hb : bt x 31 = true := by
    have e : x.toInt < 0 := by
      rw [Int32.lt_iff_toInt_lt, Int32.toInt_zero] at h; exact h
    have m := BitVec.msb_eq_toInt (x := x.toBitVec)
    rw [BitVec.msb_eq_getLsbD_last] at m
    show x.toBitVec.getLsbD (32 - 1) = true
    rw [m]
    exact decide_eq_true e
  rw [db_lz_eq (x := x) (n := 0) (by omega) (fun i hi => by omega) (fun _ => hb)]; rfl
theorem db_n_pos {x : Int32} (h : ¬ x = 0) : 0 < db_n x := by
  rcases Nat.eq_zero_or_pos (db_n x) with e | e
  · exact absurd (by rw [← db_nI_n x, e]; rfl) h
  · exact e
theorem db_tz_lt32 {x : Int32} (h : ¬ x = 0) : db_tz x < 32 := by
  obtain ⟨i, hi, hb⟩ := db_ne0.mp h
  rcases Nat.lt_or_ge (db_tz x) 32 with q | q
  · exact q
  · have a := db_tz_lt (x := x) (i := i) (by omega)
    rw [hb] at a; cases a
theorem db_pred_bit {x : Int32} (h : ¬ x = 0) {i : Nat} (hi : i < 32) : bt (x - 1) i = if i < db_tz x then true else if i = db_tz x then false else bt x i := by
  have hp := db_n_pos h
  have ht := db_tz_lt32 h
  have hx : db_n x < 4294967296 := x.toBitVec.isLt
  obtain ⟨q, hq⟩ : ∃ q, db_n x = 2 ^ (db_tz x + 1) * q + 2 ^ db_tz x := by
    obtain ⟨c, hc⟩ := db_dvd_of_low (x := x) (a := db_tz x) (by omega) (fun i hi => db_tz_lt hi)
    have hb := db_tz_at ht
    rw [← db_n_bt, Nat.testBit_eq_decide_div_mod_eq] at hb
    have hb2 := of_decide_eq_true hb
    rw [hc, Nat.mul_div_cancel_left _ (Nat.two_pow_pos _)] at hb2
    refine ⟨c / 2, ?_⟩
    have e : c = 2 * (c / 2) + 1 := by omega
    rw [hc, Nat.pow_succ, Nat.mul_assoc, ← Nat.mul_succ]
    congr 1
  have e : x - 1 = nI (2 ^ (db_tz x + 1) * q + (2 ^ db_tz x - 1)) := by
    have h2 := Nat.two_pow_pos (db_tz x)
    have z : x = nI (2 ^ (db_tz x + 1) * q + (2 ^ db_tz x - 1) + 1) := by
      rw [Nat.add_assoc, Nat.sub_add_cancel h2, ← hq, db_nI_n]
    have z2 := nI_pred (2 ^ (db_tz x + 1) * q + (2 ^ db_tz x - 1))
    rw [← z] at z2
    exact z2
  have hlt : 2 ^ db_tz x - 1 < 2 ^ (db_tz x + 1) := by
    rw [Nat.pow_succ]
    have h2 := Nat.two_pow_pos (db_tz x)
    omega
  rw [e, db_bt_nI _ hi, Nat.testBit_two_pow_mul_add _ hlt]
  have hlt2 : 2 ^ db_tz x < 2 ^ (db_tz x + 1) := by
    rw [Nat.pow_succ]
    have h2 := Nat.two_pow_pos (db_tz x)
    omega
  have hb : bt x i = if i < db_tz x + 1 then (2 ^ db_tz x).testBit i else q.testBit (i - (db_tz x + 1)) := by
    rw [← db_n_bt, hq, Nat.testBit_two_pow_mul_add _ hlt2]
  by_cases a : i < db_tz x
  · rw [if_pos (by omega), if_pos a, Nat.testBit_two_pow_sub_one, decide_eq_true a]
  · rw [if_neg a]
    by_cases b : i = db_tz x
    · rw [if_pos (by omega), if_pos b, Nat.testBit_two_pow_sub_one, decide_eq_false a]
    · rw [if_neg (by omega), if_neg b, hb, if_neg (by omega)]
theorem db_tz_mask {x : Int32} (h : ¬ x = 0) : (x ^^^ (-1)) &&& (x - 1) = nI (2 ^ db_tz x - 1) := by
  refine b_ext (fun i hi => ?_)
  rw [b_and, db_not _ hi, db_pred_bit h hi, db_bt_nI _ hi, Nat.testBit_two_pow_sub_one]
  by_cases a : i < db_tz x
  · rw [if_pos a, db_tz_lt a, decide_eq_true a]; rfl
  · rw [if_neg a, decide_eq_false a]
    by_cases b : i = db_tz x
    · rw [if_pos b, Bool.and_false]
    · rw [if_neg b]; cases bt x i <;> rfl
theorem db_tz_00 : db_tz 0 = 32 := db_tz_eq (by omega) (fun i _ => b_0 i) (fun h => by omega)
def db_ctz (a : Nat) : Nat :=
  let a1 := if 65536 < a then a / 65536 else a
  let a2 := if 256 < a1 then a1 / 256 else a1
  let a3 := if 16 < a2 then a2 / 16 else a2
  let a4 := if 4 < a3 then a3 / 4 else a3
  1 + (if 65536 < a then 16 else 0) + (if 256 < a1 then 8 else 0) + (if 16 < a2 then 4 else 0) + (if 4 < a3 then 2 else 0) + a4 / 2
theorem db_ctz_eq {t : Nat} (h1 : 1 ≤ t) (h2 : t < 32) : db_ctz (2 ^ t - 1) = t := by
  have q : ∀ t, t < 32 → 1 ≤ t → db_ctz (2 ^ t - 1) = t := by decide +kernel
  exact q t h2 h1
