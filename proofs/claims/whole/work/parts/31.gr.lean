/-! ===== the reference's sets and its pile ===== -/
def db_b01 (S : Nat → Int32) : Prop := ∀ j, j < 768 → S j = 0 ∨ S j = 1
def db_sc (S : Nat → Int32) : Nat := db_cn (fun j => decide (S j = 1)) 768
theorem db_sc_le (S : Nat → Int32) : db_sc S ≤ 768 := db_cn_le _ _
abbrev db_Q : Type := (Nat → Int32) × (Nat → Int32) × Nat
/-- grown: bits that are ok came, each of them on the pile, nothing went -/
def db_gr (ok : Nat → Prop) (a b : db_Q) : Prop :=
  (∀ j, j < 768 → a.1 j = 1 → b.1 j = 1) ∧ (∀ j, j < 768 → b.1 j = 1 → a.1 j = 1 ∨ ok j) ∧ a.2.2 ≤ b.2.2 ∧ (∀ i, i < a.2.2 → b.2.1 i = a.2.1 i) ∧
  (∀ i, a.2.2 ≤ i → i < b.2.2 → ∃ j, j < 768 ∧ b.2.1 i = nI j ∧ b.1 j = 1) ∧ (∀ j, j < 768 → b.1 j = 1 → a.1 j = 1 ∨ ∃ i, i < b.2.2 ∧ b.2.1 i = nI j) ∧
  b.2.2 + db_sc a.1 = a.2.2 + db_sc b.1 ∧ (db_b01 a.1 → db_b01 b.1)
theorem db_gr_refl (ok : Nat → Prop) (a : db_Q) : db_gr ok a a :=
  ⟨fun _ _ h => h, fun _ _ h => Or.inl h, Nat.le_refl _, fun _ _ => rfl, fun i h1 h2 => by omega, fun _ _ h => Or.inl h, rfl, id⟩
theorem db_gr_weak {ok ok' : Nat → Prop} {a b : db_Q} (h : db_gr ok a b) (hw : ∀ j, ok j → ok' j) : db_gr ok' a b := by
  obtain ⟨h1, h2, h3, h4, h5, h6, h7, h8⟩ := h
  exact ⟨h1, fun j hj q => (h2 j hj q).elim Or.inl (fun z => Or.inr (hw j z)), h3, h4, h5, h6, h7, h8⟩
theorem db_gr_trans {ok : Nat → Prop} {a b c : db_Q} (h : db_gr ok a b) (g : db_gr ok b c) : db_gr ok a c := by
  obtain ⟨h1, h2, h3, h4, h5, h6, h7, h8⟩ := h
  obtain ⟨g1, g2, g3, g4, g5, g6, g7, g8⟩ := g
  refine ⟨fun j hj q => g1 j hj (h1 j hj q), fun j hj q => (g2 j hj q).elim (h2 j hj) Or.inr, by omega, fun i hi => (g4 i (by omega)).trans (h4 i hi), fun i hi1 hi2 => ?_, fun j hj q => ?_, by omega, fun q => g8 (h8 q)⟩
  · rcases Nat.lt_or_ge i b.2.2 with z | z
    · obtain ⟨j, k1, k2, k3⟩ := h5 i hi1 z
      exact ⟨j, k1, (g4 i z).trans k2, g1 j k1 k3⟩
    · exact g5 i z hi2
  · rcases g6 j hj q with z | z
    · rcases h6 j hj z with y | ⟨i, k1, k2⟩
      · exact Or.inl y
      · exact Or.inr ⟨i, by omega, (g4 i k1).trans k2⟩
    · exact Or.inr z
theorem db_sc_upd {S : Nat → Int32} {j : Nat} (hj : j < 768) (h : S j = 0) : db_sc (upd S j 1) = db_sc S + 1 := by
  have key : ∀ m, (m ≤ j → db_cn (fun i => decide (upd S j 1 i = 1)) m = db_cn (fun i => decide (S i = 1)) m) ∧ (j < m → db_cn (fun i => decide (upd S j 1 i = 1)) m = db_cn (fun i => decide (S i = 1)) m + 1) := by
    intro m
    induction m with
    | zero => exact ⟨fun _ => rfl, fun q => by omega⟩
    | succ m ih =>
      refine ⟨fun q => ?_, fun q => ?_⟩
      · unfold db_cn
        rw [ih.1 (by omega)]
        show _ + (if decide (upd S j 1 m = 1) = true then 1 else 0) = _
        rw [pk_un (by omega)]
      · unfold db_cn
        rcases Nat.lt_or_ge j m with z | z
        · rw [ih.2 z]
          show _ + (if decide (upd S j 1 m = 1) = true then 1 else 0) = _
          rw [pk_un (by omega)]
          omega
        · have e : j = m := by omega
          subst e
          rw [ih.1 (Nat.le_refl _)]
          show _ + (if decide (upd S j 1 j = 1) = true then 1 else 0) = _ + (if decide (S j = 1) = true then 1 else 0) + 1
          rw [pk_us, h]
          rfl
  exact (key 768).2 hj
/-- one bit wanted that wasn't there -/
theorem db_gr_new {S P : Nat → Int32} {p j : Nat} (hj : j < 768) (h : S j = 0) : db_gr (fun i => i = j) (S, P, p) (upd S j 1, upd P p (nI j), p + 1) := by
  refine ⟨fun i _ q => ?_, fun i _ q => ?_, Nat.le_succ p, fun i hi => pk_un (Nat.ne_of_lt hi), fun i h1 h2 => ?_, fun i _ q => ?_, ?_, fun hb i hi => ?_⟩
  · show upd S j 1 i = 1
    by_cases e : i = j
    · rw [e, pk_us]
    · rw [pk_un e]; exact q
  · by_cases e : i = j
    · exact Or.inr e
    · have z : upd S j 1 i = 1 := q
      rw [pk_un e] at z
      exact Or.inl z
  · have e : i = p := by
      have a : p ≤ i := h1
      have b : i < p + 1 := h2
      omega
    subst e
    exact ⟨j, hj, pk_us, pk_us⟩
  · by_cases e : i = j
    · subst e
      exact Or.inr ⟨p, Nat.lt_succ_self p, pk_us⟩
    · have z : upd S j 1 i = 1 := q
      rw [pk_un e] at z
      exact Or.inl z
  · show p + 1 + db_sc S = p + db_sc (upd S j 1)
    rw [db_sc_upd hj h]
    omega
  · show upd S j 1 i = 0 ∨ upd S j 1 i = 1
    by_cases e : i = j
    · rw [e, pk_us]; exact Or.inr rfl
    · rw [pk_un e]; exact hb i hi
theorem db_01 {S : Nat → Int32} (h : db_b01 S) {j : Nat} (hj : j < 768) (q : ¬ S j = 0) : S j = 1 := (h j hj).elim (fun z => absurd z q) id
