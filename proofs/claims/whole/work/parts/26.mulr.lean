/-! ===== the reference's product: what its loops find ===== -/
/-- both known, up to here -/
def db_kn (zx ox zy oy : Int32) (m : Nat) : Prop := m ≤ 32 ∧ ∀ i, i < m → bt ((zx ||| ox) &&& (zy ||| oy)) i = true
theorem db_kn_s {zx ox zy oy : Int32} {m : Nat} (h : db_kn zx ox zy oy m) (hm : m < 32) (h1 : ¬ db_tri (bt zx m) (bt ox m) = 2) (h2 : ¬ db_tri (bt zy m) (bt oy m) = 2) : db_kn zx ox zy oy (m + 1) := by
  refine ⟨by omega, fun i hi => ?_⟩
  by_cases e : i = m
  · subst e
    rw [b_and, b_or, b_or]
    revert h1 h2
    cases bt zx i <;> cases bt ox i <;> cases bt zy i <;> cases bt oy i <;> decide
  · exact h.2 i (by omega)
theorem db_kn_tz {zx ox zy oy : Int32} {m : Nat} (h : db_kn zx ox zy oy m) (hm : m < 32 → bt ((zx ||| ox) &&& (zy ||| oy)) m = false) : m = db_tz (((zx ||| ox) &&& (zy ||| oy)) ^^^ (-1)) := by
  refine (db_tz_eq h.1 (fun i hi => ?_) (fun hi => ?_)).symm
  · rw [db_not _ (by have := h.1; omega), h.2 i hi]; rfl
  · rw [db_not _ hi, hm hi]; rfl
theorem db_open_x {zx ox zy oy : Int32} {m : Nat} (h : db_tri (bt zx m) (bt ox m) = 2) : bt ((zx ||| ox) &&& (zy ||| oy)) m = false := by
  rw [b_and, b_or, b_or]
  revert h
  cases bt zx m <;> cases bt ox m <;> simp [db_tri]
theorem db_open_y {zx ox zy oy : Int32} {m : Nat} (h : db_tri (bt zy m) (bt oy m) = 2) : bt ((zx ||| ox) &&& (zy ||| oy)) m = false := by
  rw [b_and, b_or, b_or]
  revert h
  cases bt zx m <;> cases bt ox m <;> cases bt zy m <;> cases bt oy m <;> simp [db_tri]
/-- zeros, up to here -/
def db_zs (z : Int32) (m : Nat) : Prop := m ≤ 32 ∧ ∀ i, i < m → bt z i = true
theorem db_zs0 (z : Int32) : db_zs z 0 := ⟨by omega, fun i hi => by omega⟩
theorem db_kn0 (zx ox zy oy : Int32) : db_kn zx ox zy oy 0 := ⟨by omega, fun i hi => by omega⟩
theorem db_zs_s {z o : Int32} {m : Nat} (h : db_zs z m) (hm : m < 32) (h1 : db_tri (bt z m) (bt o m) = 0) : db_zs z (m + 1) := by
  refine ⟨by omega, fun i hi => ?_⟩
  by_cases e : i = m
  · subst e
    revert h1
    cases bt z i <;> cases bt o i <;> decide
  · exact h.2 i (by omega)
theorem db_zs_tz {z : Int32} {m : Nat} (h : db_zs z m) (hm : m < 32 → bt z m = false) : m = db_tz (z ^^^ (-1)) := by
  refine (db_tz_eq h.1 (fun i hi => ?_) (fun hi => ?_)).symm
  · rw [db_not _ (by have := h.1; omega), h.2 i hi]; rfl
  · rw [db_not _ hi, hm hi]; rfl
theorem db_tri_n0 {z o : Bool} (h : ¬ db_tri z o = 0) : z = false := by
  revert h
  cases z <;> cases o <;> decide
/-- a known bit that isn't 0 is 1: by the ones -/
theorem db_kn_o {zx ox zy oy : Int32} {K k : Nat} (h : db_kn zx ox zy oy K) (ha : db_ap zy oy) (hk : k < K) : db_tri (bt zy k) (bt oy k) = if bt oy k = true then 1 else 0 := by
  have h1 := h.2 k hk
  have h2 := ha k (by have := h.1; omega)
  rw [b_and, b_or, b_or] at h1
  revert h1 h2
  cases bt zx k <;> cases bt ox k <;> cases bt zy k <;> cases bt oy k <;> simp [db_tri]
theorem db_tri_1 {z o : Bool} (h : db_tri z o = 1) : o = true := by
  revert h
  cases z <;> cases o <;> decide
theorem db_tri_n1 {z o : Bool} (ha : (z && o) = false) (h : ¬ db_tri z o = 1) : o = false := by
  revert h ha
  cases z <;> cases o <;> decide
theorem db_row1 (x y : Int32) (K k : Nat) (h : bt x k = true) : nI (db_n x % 2 ^ k * (db_n y % 2 ^ K) + 2 ^ k * (db_n y % 2 ^ K)) = nI (db_n x % 2 ^ (k + 1) * (db_n y % 2 ^ K)) := by
  rw [← db_prod_row x y, if_pos h]
theorem db_row0 (x y : Int32) (K k : Nat) (h : bt x k = false) : nI (db_n x % 2 ^ k * (db_n y % 2 ^ K)) = nI (db_n x % 2 ^ (k + 1) * (db_n y % 2 ^ K)) := by
  rw [← db_prod_row x y, if_neg (by rw [h]; decide), Nat.add_zero]
