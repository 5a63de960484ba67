/-! ===== a pass of the class: has anything changed ===== -/
def db_cch (c : Int32) (f g : db_Fs) (v : Nat) : Prop := (c = 0 ∧ g = f) ∨ (c = 1 ∧ ∃ w, w < v ∧ ¬ (g.1 w, g.2 w) = (f.1 w, f.2 w))
theorem db_cch_s {c u : Int32} {f g : db_Fs} {v : Nat} {r : Int32 × Int32} (h : db_cch c f g v) (hg : g.1 v = f.1 v ∧ g.2 v = f.2 v) (hp : db_lrn c u g.1 g.2 v r.1 r.2) : db_cch u f (db_put g v r) (v + 1) := by
  rcases hp with ⟨h1, h2, h3⟩ | ⟨h1, h2⟩
  · have e : db_put g v r = g := db_put_same (Prod.ext h1.symm h2.symm)
    rw [e, h3]
    rcases h with h | ⟨a, w, b, d⟩
    · exact Or.inl h
    · exact Or.inr ⟨a, w, by omega, d⟩
  · refine Or.inr ⟨h2, v, by omega, ?_⟩
    rw [db_put_s1, db_put_s2, ← hg.1, ← hg.2]
    exact fun q => h1 ⟨(Prod.mk.inj q).1.symm, (Prod.mk.inj q).2.symm⟩
theorem db_cch_lch {c : Int32} {K : Nat → Nat} {f g : db_Fs} {v : Nat} (h : db_cch c f g v) : db_lch c K f g v := by
  rcases h with ⟨a, b⟩ | h
  · exact Or.inl ⟨a, fun w _ _ => by rw [b]⟩
  · exact Or.inr h
