/-- only values that are there count -/
def db_inB (n : Nat) (K X Y : Nat → Nat) (Nm : Nat → Int32) (f : db_Fs) (B : Nat → Int32) (R : Nat) (RV : Nat → Nat) (Ms : Nat → Int32) (D : Nat → Int32) : Prop := ∀ w b, w < 24 → b < 32 → db_T D w b → db_least n K X Y Nm f B R RV Ms w b
section
variable {n : Nat} {K X Y : Nat → Nat} {Nm : Nat → Int32} {f : db_Fs} {B : Nat → Int32} {R : Nat} {RV : Nat → Nat} {Ms : Nat → Int32}
theorem db_inB_s (hw : db_wf n K X Y Nm) {v : Nat} (hn : n ≤ 24) (hv : v < n) {D : Nat → Int32} (h : db_inB n K X Y Nm f B R RV Ms D) : db_inB n K X Y Nm f B R RV Ms (db_dst K X Y Nm f B v D) := by
  intro w b hw1 hb hT
  rw [db_dst_T hw hv D hb] at hT
  rcases hT with hT | ⟨a, ha, h1, h2⟩
  · exact h w b hw1 hb hT
  · exact db_least_step hv ha hb (h v a (by omega) ha h1) h2
theorem db_dem_inB {D : Nat → Int32} {v : Nat} {d : Int32} (h : db_inB n K X Y Nm f B R RV Ms D) (hd : ∀ b, b < 32 → bt d b = true → db_least n K X Y Nm f B R RV Ms v b) : db_inB n K X Y Nm f B R RV Ms (db_dem D v d) := by
  intro w b hw hb hT
  rw [db_dem_T] at hT
  rcases hT with q | ⟨e, q⟩
  · exact h w b hw hb q
  · rw [e]; exact hd b hb q
theorem db_D_ofB {D : Nat → Int32} (hn : n ≤ 24) (h1 : db_inB n K X Y Nm f B R RV Ms D) (h2 : db_seeds R RV Ms (db_T D)) (h3 : ∀ v, v < n → db_closedAt K X Y Nm f B (db_T D) v) (v : Nat) (hv : v < n) : D v = db_D n K X Y Nm f B R RV Ms v :=
  db_word_eq (fun b hb => ⟨fun q => h1 v b (by omega) hb q, fun q => q (db_T D) h2 h3⟩)
end
