/-! ===== learnAll: what its loops keep ===== -/
theorem db_rk_le {k : Nat} (h : k ≤ 13) : db_rk k ≤ 13 := by
  have q : ∀ k, k < 14 → db_rk k ≤ 13 := by decide
  exact q k (by omega)
theorem db_rk13 {k : Nat} (h : k ≤ 13) : db_rk k = 11 ↔ k = 13 := by
  have q : ∀ k, k < 14 → (db_rk k = 11 ↔ k = 13) := by decide
  exact q k (by omega)
abbrev db_f0 : db_Fs := (fun _ => 0, fun _ => 0)
def db_reps (m : Nat) (G : Nat → Int32) (f : db_Fs) : Prop := ∀ w, w < m → db_rep G w (f.1 w) (f.2 w)
theorem db_reps_put {m v : Nat} {G G2 : Nat → Int32} {f : db_Fs} {r : Int32 × Int32} (h : ∀ w, w < m → w ≠ v → db_rep G w (f.1 w) (f.2 w)) (ho : db_out G G2 v) (hr : db_rep G2 v r.1 r.2) : db_reps m G2 (db_put f v r) := by
  intro w hw
  by_cases e : w = v
  · subst e; rw [db_put_s1, db_put_s2]; exact hr
  · rw [db_put_n1 e, db_put_n2 e]; exact db_rep_out (h w hw e) ho e
theorem db_one_x {K X : Nat → Nat} {Nm : Nat → Int32} {v : Nat} (h : db_ux (K v)) : db_one1 K X Nm v = nI (X v) := if_neg (fun q => by unfold db_ux at h; omega)
theorem db_one_c {K X : Nat → Nat} {Nm : Nat → Int32} {v : Nat} (h : K v = 9 ∨ K v = 10) : db_one1 K X Nm v = Nm v := if_pos h
theorem db_two_y {K Y : Nat → Nat} {Nm : Nat → Int32} {v : Nat} (h : K v ≤ 5 ∨ 9 ≤ K v) : db_two2 K Y Nm v = nI (Y v) := if_neg (fun q => by omega)
theorem db_two_d {K Y : Nat → Nat} {Nm : Nat → Int32} {v : Nat} (h : db_shift (K v)) : db_two2 K Y Nm v = Nm v := if_pos h
theorem db_val_0 {K X Y : Nat → Nat} {Nm : Nat → Int32} {v : Nat} {f : db_Fs} (h : K v ≤ 12) : db_F (K v) (Nm v) (f.1 (X v)) (f.2 (X v)) (f.1 (Y v)) (f.2 (Y v)) 0 0 = db_val K X Y Nm v f :=
  db_F_congr (fun _ => ⟨rfl, rfl⟩) (fun _ => ⟨rfl, rfl⟩) (fun q => by omega)
theorem db_s0_loop {K X Y : Nat → Nat} {Nm : Nat → Int32} {v : Nat} {f : db_Fs} (h : K v = 13) : db_s0 K X Y Nm v f = db_put f v (f.1 (X v), f.2 (X v)) := if_pos h
theorem db_s0_else {K X Y : Nat → Nat} {Nm : Nat → Int32} {v : Nat} {f : db_Fs} (h : ¬ K v = 13) : db_s0 K X Y Nm v f = db_put f v (db_val K X Y Nm v f) := if_neg h
theorem db_val_loop {K X Y : Nat → Nat} {Nm : Nat → Int32} {v : Nat} {f : db_Fs} (h : K v = 13) : db_val K X Y Nm v f = (f.1 v &&& f.1 (X v) &&& f.1 (Y v), f.2 v &&& f.2 (X v) &&& f.2 (Y v)) := by
  unfold db_val; rw [h]; rfl
theorem db_lb_y : ∀ z o zx ox zy oy : Bool, (z && o) = false → (zx && ox) = false → (zy && oy) = false → ¬ db_tri z o = 2 → db_tri zx ox = db_tri z o → db_tri zy oy = db_tri z o → db_tri z o = db_tri (z && zx && zy) (o && ox && oy) := by decide +kernel
theorem db_lb_n : ∀ z o zx ox zy oy : Bool, (z && o) = false → (zx && ox) = false → (zy && oy) = false → (db_tri z o = 2 ∨ ¬ db_tri zx ox = db_tri z o ∨ ¬ db_tri zy oy = db_tri z o) → (2 : Int32) = db_tri (z && zx && zy) (o && ox && oy) := by decide +kernel
/-- a LOOP's bits, some of them done -/
def db_mix (G : Nat → Int32) (v k : Nat) (z o z' o' : Int32) : Prop := db_part G v k z' o' ∧ ∀ j, k ≤ j → j < 32 → G (32 * v + j) = db_tri (bt z j) (bt o j)
theorem db_mix0 {G : Nat → Int32} {v : Nat} {z o : Int32} (z' o' : Int32) (h : db_rep G v z o) : db_mix G v 0 z o z' o' := ⟨db_part0 _ _ _ _, fun j _ hj => h j hj⟩
theorem db_mix_s {G : Nat → Int32} {v k : Nat} {z o z' o' x : Int32} (h : db_mix G v k z o z' o') (hx : x = db_tri (bt z' k) (bt o' k)) : db_mix (upd G (32 * v + k) x) v (k + 1) z o z' o' :=
  ⟨db_part_s h.1 hx, fun j h1 h2 => by rw [pk_un (by omega)]; exact h.2 j (by omega) h2⟩
/-- has something changed, up to here -/
def db_chg (c c0 : Int32) (k : Nat) (z o z' o' : Int32) : Prop :=
  (c = 0 ∧ c0 = 0 ∧ ∀ j, j < k → db_tri (bt z' j) (bt o' j) = db_tri (bt z j) (bt o j)) ∨ (c = 1 ∧ (c0 = 1 ∨ ∃ j, j < k ∧ ¬ db_tri (bt z' j) (bt o' j) = db_tri (bt z j) (bt o j)))
theorem db_chg_1 {c c0 : Int32} {k : Nat} {z o z' o' : Int32} (h : db_chg c c0 k z o z' o') (hc : ¬ c = 0) : db_chg 1 c0 (k + 1) z o z' o' := by
  rcases h with ⟨e, -, -⟩ | ⟨-, h⟩
  · exact absurd e hc
  · refine Or.inr ⟨rfl, h.elim Or.inl (fun ⟨j, h1, h2⟩ => Or.inr ⟨j, by omega, h2⟩)⟩
theorem db_chg_same {c c0 : Int32} {k : Nat} {z o z' o' : Int32} (h : db_chg c c0 k z o z' o') (hc : c = 0) (he : db_tri (bt z' k) (bt o' k) = db_tri (bt z k) (bt o k)) : db_chg 0 c0 (k + 1) z o z' o' := by
  rcases h with ⟨-, e2, h⟩ | ⟨e, -⟩
  · refine Or.inl ⟨rfl, e2, fun j hj => ?_⟩
    by_cases q : j = k
    · rw [q]; exact he
    · exact h j (by omega)
  · rw [hc] at e; exact absurd e (by decide)
theorem db_chg_new {c c0 : Int32} {k : Nat} {z o z' o' : Int32} (_ : db_chg c c0 k z o z' o') (he : ¬ db_tri (bt z' k) (bt o' k) = db_tri (bt z k) (bt o k)) : db_chg 1 c0 (k + 1) z o z' o' := Or.inr ⟨rfl, Or.inr ⟨k, by omega, he⟩⟩
theorem db_tri_inj : ∀ z o z' o' : Bool, (z && o) = false → (z' && o') = false → db_tri z o = db_tri z' o' → z = z' ∧ o = o' := by decide +kernel
/-- behind the bits: words -/
theorem db_chg_end {c c0 : Int32} {z o z' o' : Int32} (ha : db_ap z o) (ha' : db_ap z' o') (h : db_chg c c0 32 z o z' o') : (c = 0 ∧ c0 = 0 ∧ (z', o') = (z, o)) ∨ (c = 1 ∧ (c0 = 1 ∨ ¬ (z', o') = (z, o))) := by
  rcases h with ⟨h1, h2, h3⟩ | ⟨h1, h2⟩
  · refine Or.inl ⟨h1, h2, ?_⟩
    have e : ∀ j, j < 32 → bt z' j = bt z j ∧ bt o' j = bt o j := fun j hj => db_tri_inj _ _ _ _ (ha' j hj) (ha j hj) (h3 j hj)
    rw [b_ext (fun j hj => (e j hj).1), b_ext (fun j hj => (e j hj).2)]
  · refine Or.inr ⟨h1, h2.elim Or.inl (fun ⟨j, hj, hne⟩ => Or.inr (fun q => hne ?_))⟩
    rw [(Prod.mk.inj q).1, (Prod.mk.inj q).2]
/-- a pass: LOOPs that came out otherwise, up to v -/
def db_lch (c : Int32) (K : Nat → Nat) (f g : db_Fs) (v : Nat) : Prop :=
  (c = 0 ∧ ∀ w, w < v → K w = 13 → (g.1 w, g.2 w) = (f.1 w, f.2 w)) ∨ (c = 1 ∧ ∃ w, w < v ∧ ¬ (g.1 w, g.2 w) = (f.1 w, f.2 w))
theorem db_lch0 (K : Nat → Nat) (f : db_Fs) : db_lch 0 K f f 0 := Or.inl ⟨rfl, fun w hw => by omega⟩
theorem db_lch_else {c : Int32} {K : Nat → Nat} {f g : db_Fs} {v : Nat} {r : Int32 × Int32} (h : db_lch c K f g v) (hk : ¬ K v = 13) : db_lch c K f (db_put g v r) (v + 1) := by
  rcases h with ⟨h1, h2⟩ | ⟨h1, w, hw, h2⟩
  · refine Or.inl ⟨h1, fun w hw hw13 => ?_⟩
    have ne : w ≠ v := fun e => hk (e ▸ hw13)
    rw [db_put_n1 ne, db_put_n2 ne]
    exact h2 w (by omega) hw13
  · refine Or.inr ⟨h1, w, by omega, ?_⟩
    rw [db_put_n1 (by omega), db_put_n2 (by omega)]
    exact h2
theorem db_lch_loop {c c0 : Int32} {K : Nat → Nat} {f g : db_Fs} {v : Nat} {r : Int32 × Int32} (h : db_lch c0 K f g v) (hg : g.1 v = f.1 v ∧ g.2 v = f.2 v) (he : (c = 0 ∧ c0 = 0 ∧ r = (g.1 v, g.2 v)) ∨ (c = 1 ∧ (c0 = 1 ∨ ¬ r = (g.1 v, g.2 v)))) : db_lch c K f (db_put g v r) (v + 1) := by
  rcases he with ⟨h1, h2, h3⟩ | ⟨h1, h2⟩
  · refine Or.inl ⟨h1, fun w hw hw13 => ?_⟩
    by_cases e : w = v
    · subst e; rw [db_put_s1, db_put_s2, h3, hg.1, hg.2]
    · rw [db_put_n1 e, db_put_n2 e]
      rcases h with ⟨-, h⟩ | ⟨q, -⟩
      · exact h w (by omega) hw13
      · rw [h2] at q; exact absurd q (by decide)
  · refine Or.inr ⟨h1, ?_⟩
    by_cases hr : r = (g.1 v, g.2 v)
    · rcases h2 with q | q
      · rcases h with ⟨e, -⟩ | ⟨-, w, hw, hne⟩
        · rw [q] at e; exact absurd e (by decide)
        · refine ⟨w, by omega, ?_⟩
          rw [db_put_n1 (by omega), db_put_n2 (by omega)]
          exact hne
      · exact absurd hr q
    · refine ⟨v, by omega, ?_⟩
      rw [db_put_s1, db_put_s2, ← hg.1, ← hg.2]
      exact hr
/-- the passes so far: all changed something; or the last one changed nothing -/
def db_sofar (c : Int32) (n : Nat) (K X Y : Nat → Nat) (Nm : Nat → Int32) (f0 : db_Fs) (i : Nat) : Prop :=
  (c = 1 ∧ ∀ j, j < i → db_P n K X Y Nm (j + 1) f0 ≠ db_P n K X Y Nm j f0) ∨ (c = 0 ∧ ∃ j, j + 1 = i ∧ j ≤ 769 ∧ db_P n K X Y Nm (j + 1) f0 = db_P n K X Y Nm j f0)
theorem db_sofar_le {c : Int32} {n : Nat} {K X Y : Nat → Nat} {Nm : Nat → Int32} {f0 : db_Fs} {i : Nat} (hw : db_wf n K X Y Nm) (hn : n ≤ 24) (h : db_sofar c n K X Y Nm f0 i) (hc : ¬ c = 0) : i ≤ 768 := by
  rcases h with ⟨-, h⟩ | ⟨e, -⟩
  · have := db_P_few hw f0 i h
    omega
  · exact absurd e hc
theorem db_sofar_s {c c' : Int32} {n : Nat} {K X Y : Nat → Nat} {Nm : Nat → Int32} {f0 : db_Fs} {i : Nat} (hw : db_wf n K X Y Nm) (hn : n ≤ 24) (h : db_sofar c n K X Y Nm f0 i) (hc : ¬ c = 0) (hl : db_lch c' K (db_P n K X Y Nm i f0) (db_P n K X Y Nm (i + 1) f0) n) : db_sofar c' n K X Y Nm f0 (i + 1) := by
  have hi := db_sofar_le hw hn h hc
  rcases hl with ⟨h1, h2⟩ | ⟨h1, w, hw1, h2⟩
  · exact Or.inr ⟨h1, i, rfl, by omega, db_stable (db_P_cons hw f0 i) h2⟩
  · refine Or.inl ⟨h1, fun j hj => ?_⟩
    by_cases e : j = i
    · subst e
      intro q
      rw [q] at h2
      exact h2 rfl
    · rcases h with ⟨-, h⟩ | ⟨q, -⟩
      · exact h j (by omega)
      · exact absurd q hc
theorem db_sofar_end {n : Nat} {K X Y : Nat → Nat} {Nm : Nat → Int32} {f0 : db_Fs} {i : Nat} (hw : db_wf n K X Y Nm) {c : Int32} (h : db_sofar c n K X Y Nm f0 i) (hc : c = 0) : db_agree n (db_P n K X Y Nm i f0) (db_facts n K X Y Nm) := by
  rcases h with ⟨q, -⟩ | ⟨-, j, rfl, hj, e⟩
  · rw [hc] at q; exact absurd q (by decide)
  · rw [e]; exact db_facts_of hw f0 hj e
