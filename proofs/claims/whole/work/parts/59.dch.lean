/-! ===== demanded bits of the class: has anything come in ===== -/
def db_dch (c u : Int32) (D D' : Nat → Int32) : Prop := (D' = D ∧ u = c) ∨ (db_dc D < db_dc D' ∧ u = 1)
theorem db_dch_dem {c : Int32} {D : Nat → Int32} {v : Nat} {d : Int32} (hv : v < 24) (h : ¬ (D v ||| d) = D v) : db_dch c 1 D (db_dem D v d) := Or.inr ⟨db_dem_lt hv h, rfl⟩
theorem db_dch_same {c : Int32} {D : Nat → Int32} {v : Nat} {d : Int32} (h : (D v ||| d) = D v) : db_dch c c D (db_dem D v d) := Or.inl ⟨db_dem_same h, rfl⟩
theorem db_dch_trans {a b c : Int32} {D D' D'' : Nat → Int32} (h : db_dch a b D D') (g : db_dch b c D' D'') : db_dch a c D D'' := by
  rcases h with ⟨h1, h2⟩ | ⟨h1, h2⟩ <;> rcases g with ⟨g1, g2⟩ | ⟨g1, g2⟩
  · exact Or.inl ⟨g1.trans h1, g2.trans h2⟩
  · rw [h1] at g1; exact Or.inr ⟨g1, g2⟩
  · rw [g1]; exact Or.inr ⟨h1, g2.trans h2⟩
  · exact Or.inr ⟨Nat.lt_trans h1 g1, g2⟩
section
variable {n : Nat} {K X Y : Nat → Nat} {Nm : Nat → Int32} {f f' : db_Fs} {B : Nat → Int32} {R : Nat} {RV : Nat → Nat} {Ms : Nat → Int32}
theorem db_dst_N {v : Nat} {D : Nat → Int32} (h : B v = -1) : db_dst K X Y Nm f B v D = db_dem (db_dem D (X v) (db_askX (K v) (Nm v) (f.1 (Y v)) (f.2 (Y v)) (D v))) (Y v) (db_askY (K v) (f.1 (X v)) (f.2 (X v)) (f.1 (Y v)) (f.2 (Y v)) (D v)) := by
  unfold db_dst
  rw [h, if_neg (by decide), if_pos rfl]
theorem db_dst_F {v : Nat} {D : Nat → Int32} (h : B v = -2) : db_dst K X Y Nm f B v D = D := if_pos h
theorem db_dst_X {v x : Nat} {D : Nat → Int32} (hx : x < 2 ^ 31) (h : B v = nI x) : db_dst K X Y Nm f B v D = db_dem D x (D v) := by
  unfold db_dst
  have p := nI_pos hx
  rw [h, if_neg (fun q => by rw [q] at p; exact p (by decide)), if_neg (fun q => by rw [q] at p; exact p (by decide)), nI_clamp hx]
/-- passes: so many bits at least; or closed -/
def db_dsf (c : Int32) (n : Nat) (K X Y : Nat → Nat) (Nm : Nat → Int32) (f : db_Fs) (B : Nat → Int32) (D : Nat → Int32) (i : Nat) : Prop := (c = 1 ∧ i ≤ db_dc D) ∨ (c = 0 ∧ ∀ v, v < n → db_closedAt K X Y Nm f B (db_T D) v)
def db_dps (c : Int32) (n : Nat) (K X Y : Nat → Nat) (Nm : Nat → Int32) (f : db_Fs) (B : Nat → Int32) (D D2 : Nat → Int32) (k : Nat) : Prop := (c = 0 ∧ D2 = D ∧ ∀ v, k ≤ v → v < n → db_closedAt K X Y Nm f B (db_T D) v) ∨ (c = 1 ∧ db_dc D < db_dc D2)
theorem db_dps_s {c u : Int32} {D D2 : Nat → Int32} {k : Nat} (hw : db_wf n K X Y Nm) (hk : k < n) (h : db_dps c n K X Y Nm f B D D2 (k + 1)) (hp : db_dch c u D2 (db_dst K X Y Nm f B k D2)) : db_dps u n K X Y Nm f B D (db_dst K X Y Nm f B k D2) k := by
  rcases hp with ⟨h1, h2⟩ | ⟨h1, h2⟩
  · rw [h1, h2]
    rcases h with ⟨a, b, d⟩ | h
    · refine Or.inl ⟨a, b, fun v hv hvn => ?_⟩
      by_cases e : v = k
      · subst e
        rw [b] at h1
        exact db_dst_closed hw hk h1
      · exact d v (by omega) hvn
    · exact Or.inr h
  · rw [h2]
    refine Or.inr ⟨rfl, ?_⟩
    rcases h with ⟨-, b, -⟩ | ⟨-, b⟩
    · rw [b] at h1 ⊢; exact h1
    · omega
theorem db_dsf_s {c c2 : Int32} {D D2 : Nat → Int32} {i : Nat} (h : db_dsf c n K X Y Nm f B D i) (hc : ¬ c = 0) (g : db_dps c2 n K X Y Nm f B D D2 0) : db_dsf c2 n K X Y Nm f B D2 (i + 1) := by
  have hi : i ≤ db_dc D := by
    rcases h with ⟨-, h⟩ | ⟨e, -⟩
    · exact h
    · exact absurd e hc
  rcases g with ⟨a, b, d⟩ | ⟨a, b⟩
  · exact Or.inr ⟨a, fun v hv => by rw [b]; exact d v (Nat.zero_le v) hv⟩
  · exact Or.inl ⟨a, by omega⟩
theorem db_dsf_le {c : Int32} {D : Nat → Int32} {i : Nat} (h : db_dsf c n K X Y Nm f B D i) (hc : ¬ c = 0) : i ≤ 768 := by
  rcases h with ⟨-, h⟩ | ⟨e, -⟩
  · exact Nat.le_trans h (db_dc_le D)
  · exact absurd e hc
theorem db_dsf_end {c : Int32} {D : Nat → Int32} {i : Nat} (h : db_dsf c n K X Y Nm f B D i) (hc : c = 0) : ∀ v, v < n → db_closedAt K X Y Nm f B (db_T D) v := by
  rcases h with ⟨e, -⟩ | ⟨-, h⟩
  · rw [hc] at e; exact absurd e (by decide)
  · exact h
theorem db_dem_in {D : Nat → Int32} {v : Nat} {d : Int32} (h : db_inL n K X Y Nm f B R RV Ms D) (hd : ∀ b, b < 32 → bt d b = true → db_least n K X Y Nm f B R RV Ms v b) : db_inL n K X Y Nm f B R RV Ms (db_dem D v d) := by
  intro w b hb hT
  rw [db_dem_T] at hT
  rcases hT with q | ⟨e, q⟩
  · exact h w b hb q
  · rw [e]; exact hd b hb q
theorem db_least_congr2 (hw : db_wf n K X Y Nm) (h : db_agree n f f') {v b : Nat} (q : db_least n K X Y Nm f B R RV Ms v b) : db_least n K X Y Nm f' B R RV Ms v b := by
  intro T h1 h2
  refine q T h1 (fun w hw1 a ha hT w' b' hb' hs => h2 w hw1 a ha hT w' b' hb' ?_)
  unfold db_asks at hs ⊢
  have z := hw w hw1
  rw [(h _ z.2.1).1, (h _ z.2.1).2, (h _ z.2.2.1).1, (h _ z.2.2.1).2] at hs
  exact hs
theorem db_D_congr2 (hw : db_wf n K X Y Nm) (h : db_agree n f f') (v : Nat) : db_D n K X Y Nm f B R RV Ms v = db_D n K X Y Nm f' B R RV Ms v := by
  unfold db_D
  refine db_word_eq (fun b hb => ?_)
  rw [db_word_bt _ hb]
  exact ⟨db_least_congr2 hw h, db_least_congr2 hw (fun w hw => ⟨(h w hw).1.symm, (h w hw).2.symm⟩)⟩
end
