/-! ===== runs: one value in one round ===== -/
section
variable {K X Y : Nat → Nat} {Nm B fx bef inp now : Nat → Int32} {v : Nat}
theorem db_rs_of {first : Prop} [Decidable first] {x : Int32} (e : x = db_rv K X Y Nm B fx first bef inp v now) : upd now v x = db_rs K X Y Nm B fx first bef inp v now := by rw [e]; rfl
theorem db_rv_F {first : Prop} [Decidable first] (h : B v = -2) : fx v = db_rv K X Y Nm B fx first bef inp v now := (if_pos h).symm
theorem db_rv_X {first : Prop} [Decidable first] {x : Nat} (hx : x < 2 ^ 31) (h : B v = nI x) : now x = db_rv K X Y Nm B fx first bef inp v now := by
  unfold db_rv
  have p := nI_pos hx
  rw [h, if_neg (fun q => by rw [q] at p; exact p (by decide)), if_neg (fun q => by rw [q] at p; exact p (by decide)), nI_clamp hx]
theorem db_rv_L1 {first : Prop} [Decidable first] (h : B v = -1) (hk : K v = 13) (hf : first) : now (X v) = db_rv K X Y Nm B fx first bef inp v now := by
  unfold db_rv
  rw [h, if_neg (by decide), if_pos rfl, if_pos hk, if_pos hf]
theorem db_rv_L2 {first : Prop} [Decidable first] (h : B v = -1) (hk : K v = 13) (hf : ¬ first) : bef (Y v) = db_rv K X Y Nm B fx first bef inp v now := by
  unfold db_rv
  rw [h, if_neg (by decide), if_pos rfl, if_pos hk, if_neg hf]
theorem db_rv_O {first : Prop} [Decidable first] (h : B v = -1) (hk : ¬ K v = 13) : db_op (K v) (now (X v)) (now (Y v)) (Nm v) inp = db_rv K X Y Nm B fx first bef inp v now := by
  unfold db_rv
  rw [h, if_neg (by decide), if_pos rfl, if_neg hk]
end
theorem db_rk12 {k : Nat} (h : k ≤ 13) : db_rk k = 12 ↔ k = 9 := by
  have q : ∀ k, k < 14 → (db_rk k = 12 ↔ k = 9) := by decide
  exact q k (by omega)
def db_inp (a b c : Int32) (i : Nat) : Int32 := if i = 0 then a else if i = 1 then b else c
theorem db_op9 (x y : Int32) {d : Nat} (hd : d < 2 ^ 31) (inp : Nat → Int32) : inp d = db_op 9 x y (nI d) inp := by
  show _ = inp (nI d).toNatClampNeg
  rw [nI_clamp hd]
