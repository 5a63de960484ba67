/-! ===== moved bits: what the reference's 'from' answers ===== -/
theorem db_fr6a {n k : Nat} (hn : n < 32) (hk : k < 32) (h : k < n) (zx ox zy oy : Int32) : (0 : Int32) = db_tri (bt (db_F 6 (nI n) zx ox zy oy 0 0).1 k) (bt (db_F 6 (nI n) zx ox zy oy 0 0).2 k) := by
  show _ = db_tri (bt (zx <<< (nI n &&& 31) ||| (((-1 : Int32) <<< (nI n &&& 31)) ^^^ (-1))) k) _
  rw [b_or, db_not _ hk, b_shl n hn _ hk, b_shl n hn _ hk, decide_eq_false (by omega)]
  rfl
theorem db_fr6b {n k : Nat} (hn : n < 32) (hk : k < 32) (h : n ≤ k) (zx ox zy oy : Int32) : db_tri (bt zx (k - n)) (bt ox (k - n)) = db_tri (bt (db_F 6 (nI n) zx ox zy oy 0 0).1 k) (bt (db_F 6 (nI n) zx ox zy oy 0 0).2 k) := by
  show _ = db_tri (bt (zx <<< (nI n &&& 31) ||| (((-1 : Int32) <<< (nI n &&& 31)) ^^^ (-1))) k) (bt (ox <<< (nI n &&& 31)) k)
  rw [b_or, db_not _ hk, b_shl n hn _ hk, b_shl n hn _ hk, b_shl n hn _ hk, decide_eq_true h, b_m1 _ (by omega)]
  simp
theorem db_fr7a {n k : Nat} (hn : n < 32) (hk : k < 32) (h : 31 < k + n) (zx ox zy oy : Int32) : db_tri (bt zx 31) (bt ox 31) = db_tri (bt (db_F 7 (nI n) zx ox zy oy 0 0).1 k) (bt (db_F 7 (nI n) zx ox zy oy 0 0).2 k) := by
  show _ = db_tri (bt (zx >>> (nI n &&& 31)) k) (bt (ox >>> (nI n &&& 31)) k)
  rw [b_sshr n hn _ hk, b_sshr n hn _ hk, if_neg (by omega), if_neg (by omega)]
theorem db_fr7b {n k : Nat} (hn : n < 32) (hk : k < 32) (h : k + n ≤ 31) (zx ox zy oy : Int32) : db_tri (bt zx (k + n)) (bt ox (k + n)) = db_tri (bt (db_F 7 (nI n) zx ox zy oy 0 0).1 k) (bt (db_F 7 (nI n) zx ox zy oy 0 0).2 k) := by
  show _ = db_tri (bt (zx >>> (nI n &&& 31)) k) (bt (ox >>> (nI n &&& 31)) k)
  rw [b_sshr n hn _ hk, b_sshr n hn _ hk, if_pos (by omega), if_pos (by omega), Nat.add_comm n k]
theorem db_fr8a {n k : Nat} (hn : n < 32) (hk : k < 32) (h : 31 < k + n) (zx ox zy oy : Int32) : (0 : Int32) = db_tri (bt (db_F 8 (nI n) zx ox zy oy 0 0).1 k) (bt (db_F 8 (nI n) zx ox zy oy 0 0).2 k) := by
  show _ = db_tri (bt (db_ushr zx (nI n) ||| ((db_ushr (-1) (nI n)) ^^^ (-1))) k) _
  rw [b_or, db_not _ hk, db_ushr_bit _ hn, db_ushr_bit _ hn, b_big (x := -1) (by omega)]
  simp [db_tri]
theorem db_fr8b {n k : Nat} (hn : n < 32) (hk : k < 32) (h : k + n ≤ 31) (zx ox zy oy : Int32) : db_tri (bt zx (k + n)) (bt ox (k + n)) = db_tri (bt (db_F 8 (nI n) zx ox zy oy 0 0).1 k) (bt (db_F 8 (nI n) zx ox zy oy 0 0).2 k) := by
  show _ = db_tri (bt (db_ushr zx (nI n) ||| ((db_ushr (-1) (nI n)) ^^^ (-1))) k) (bt (db_ushr ox (nI n)) k)
  rw [b_or, db_not _ hk, db_ushr_bit _ hn, db_ushr_bit _ hn, db_ushr_bit _ hn, b_m1 _ (by omega), Nat.add_comm n k]
  simp
theorem db_fr11 {k : Nat} (hk : k < 32) (d zx ox zy oy : Int32) : db_tri (bt zx (if 7 < k then 7 else k)) (bt ox (if 7 < k then 7 else k)) = db_tri (bt (db_F 11 d zx ox zy oy 0 0).1 k) (bt (db_F 11 d zx ox zy oy 0 0).2 k) := by
  show _ = db_tri (bt zx.toInt8.toInt32 k) (bt ox.toInt8.toInt32 k)
  rw [db_i2b _ hk, db_i2b _ hk]
theorem db_fr12 {k : Nat} (hk : k < 32) (d zx ox zy oy : Int32) : db_tri (bt zx (if 15 < k then 15 else k)) (bt ox (if 15 < k then 15 else k)) = db_tri (bt (db_F 12 d zx ox zy oy 0 0).1 k) (bt (db_F 12 d zx ox zy oy 0 0).2 k) := by
  show _ = db_tri (bt zx.toInt16.toInt32 k) (bt ox.toInt16.toInt32 k)
  rw [db_i2s _ hk, db_i2s _ hk]
