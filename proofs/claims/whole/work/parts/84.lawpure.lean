/-! ===== what a step of the law keeps; the splits of its arguments ===== -/
theorem db_wf_app {n : Nat} {K X Y : Nat → Nat} {Nm : Nat → Int32} (h : db_wf n K X Y Nm) {kd x y : Nat} {nm : Int32} (hk : kd ≤ 13) (hx : x ≤ n) (hy : y ≤ n) (h1 : db_ux kd → x < n) (h2 : kd ≤ 5 → y < n) (h3 : db_shift kd → ∃ d, d < 32 ∧ nm = nI d) (h4 : kd = 9 → ∃ d, d < 3 ∧ nm = nI d) :
    db_wf (n + 1) (db_upN K n kd) (db_upN X n x) (db_upN Y n y) (upd Nm n nm) := by
  intro v hv
  by_cases e : v = n
  · subst e
    rw [db_upN_s, db_upN_s, db_upN_s, pk_us]
    exact ⟨hk, by omega, by omega, h1, h2, h3, h4⟩
  · obtain ⟨a1, a2, a3, a4, a5, a6, a7⟩ := h v (by omega)
    rw [db_upN_n e, db_upN_n e, db_upN_n e, pk_un e]
    exact ⟨a1, by omega, by omega, a4, a5, a6, a7⟩
theorem db_wf_back {n : Nat} {K X Y : Nat → Nat} {Nm : Nat → Int32} (h : db_wf n K X Y Nm) {v y : Nat} (hy : y < n) (hk : K v = 13) : db_wf n K X (db_upN Y v y) Nm := by
  intro w hw
  obtain ⟨a1, a2, a3, a4, a5, a6, a7⟩ := h w hw
  by_cases e : w = v
  · subst e
    rw [db_upN_s]
    exact ⟨a1, a2, hy, a4, fun q => by omega, a6, a7⟩
  · rw [db_upN_n e]
    exact ⟨a1, a2, a3, a4, a5, a6, a7⟩
theorem db_rng (k : Int32) {m : Nat} (hm : m ≤ 100) : (k < 0 ∨ nI m < k) ∨ ∃ d, d ≤ m ∧ k = nI d := by
  rcases db_isv_cases k (n := m + 1) (by omega) with ⟨-, h | h⟩ | ⟨j, hj, e, -⟩
  · exact Or.inl (Or.inl h)
  · refine Or.inl (Or.inr ?_)
    have h1 := Int32.le_iff_toInt_le.mp h
    rw [nI_toInt (by omega)] at h1
    rw [Int32.lt_iff_toInt_lt, nI_toInt (by omega)]
    omega
  · exact Or.inr ⟨j, by omega, e⟩
theorem db_vl (v : Int32) {n : Nat} (hn : n ≤ 24) : (db_isv v (nI n) = 0 ∧ (v < 0 ∨ nI n ≤ v)) ∨ ∃ j, j < n ∧ v = nI j := by
  rcases db_isv_cases v (n := n) (by omega) with h | ⟨j, hj, e, -⟩
  · exact Or.inl h
  · exact Or.inr ⟨j, hj, e⟩
