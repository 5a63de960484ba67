/-! ===== demanded bits: the least set ===== -/
section
variable {n : Nat} {K X Y : Nat → Nat} {Nm : Nat → Int32} {f : db_Fs} {B : Nat → Int32} {R : Nat} {RV : Nat → Nat} {RM : Nat → Int32}
def db_dist (Nm : Nat → Int32) (v : Nat) : Nat := (Nm v).toNatClampNeg
/-- bit a of v asks for bit b of w; B: what a value is replaced by (-1 nothing, -2 a constant) -/
def db_asks (K X Y : Nat → Nat) (Nm : Nat → Int32) (f : db_Fs) (B : Nat → Int32) (v a w b : Nat) : Prop :=
  if B v = -2 then False else if B v = -1 then
    (w = X v ∧ db_rx (K v) (db_dist Nm v) (f.1 (Y v)) (f.2 (Y v)) a b) ∨ (w = Y v ∧ db_ry (K v) (f.1 (X v)) (f.2 (X v)) (f.1 (Y v)) (f.2 (Y v)) a b)
  else w = (B v).toNatClampNeg ∧ b = a
def db_seeds (R : Nat) (RV : Nat → Nat) (RM : Nat → Int32) (T : Nat → Nat → Prop) : Prop := ∀ r, r < R → ∀ b, b < 32 → bt (RM r) b = true → T (RV r) b
def db_closedAt (K X Y : Nat → Nat) (Nm : Nat → Int32) (f : db_Fs) (B : Nat → Int32) (T : Nat → Nat → Prop) (v : Nat) : Prop := ∀ a, a < 32 → T v a → ∀ w b, b < 32 → db_asks K X Y Nm f B v a w b → T w b
/-- the least set: in every closed set -/
def db_least (n : Nat) (K X Y : Nat → Nat) (Nm : Nat → Int32) (f : db_Fs) (B : Nat → Int32) (R : Nat) (RV : Nat → Nat) (RM : Nat → Int32) (v b : Nat) : Prop :=
  ∀ T : Nat → Nat → Prop, db_seeds R RV RM T → (∀ v, v < n → db_closedAt K X Y Nm f B T v) → T v b
def db_T (D : Nat → Int32) (v b : Nat) : Prop := bt (D v) b = true
theorem db_least_step {v a w b : Nat} (hv : v < n) (ha : a < 32) (hb : b < 32) (h : db_least n K X Y Nm f B R RV RM v a) (hs : db_asks K X Y Nm f B v a w b) : db_least n K X Y Nm f B R RV RM w b :=
  fun T h1 h2 => h2 v hv a ha (h T h1 h2) w b hb hs
theorem db_least_seed {r b : Nat} (hr : r < R) (hb : b < 32) (h : bt (RM r) b = true) : db_least n K X Y Nm f B R RV RM (RV r) b :=
  fun T h1 _ => h1 r hr b hb h
/-- one ask of the class -/
def db_dem (D : Nat → Int32) (v : Nat) (d : Int32) : Nat → Int32 := upd D v (D v ||| d)
def db_dst (K X Y : Nat → Nat) (Nm : Nat → Int32) (f : db_Fs) (B : Nat → Int32) (v : Nat) (D : Nat → Int32) : Nat → Int32 :=
  if B v = -2 then D else if B v = -1 then
    db_dem (db_dem D (X v) (db_askX (K v) (Nm v) (f.1 (Y v)) (f.2 (Y v)) (D v))) (Y v) (db_askY (K v) (f.1 (X v)) (f.2 (X v)) (f.1 (Y v)) (f.2 (Y v)) (D v))
  else db_dem D (B v).toNatClampNeg (D v)
theorem db_dem_T (D : Nat → Int32) (v : Nat) (d : Int32) (w b : Nat) : db_T (db_dem D v d) w b ↔ db_T D w b ∨ (w = v ∧ bt d b = true) := by
  unfold db_T db_dem upd
  by_cases h : w = v
  · subst h
    show bt (if w = w then D w ||| d else D w) b = true ↔ _
    rw [if_pos rfl, b_or, Bool.or_eq_true]
    simp
  · show bt (if w = v then D v ||| d else D w) b = true ↔ _
    rw [if_neg h]
    simp [h]
theorem db_dist_ok (hw : db_wf n K X Y Nm) {v : Nat} (hv : v < n) : db_shift (K v) → db_dist Nm v < 32 ∧ Nm v = nI (db_dist Nm v) := by
  intro h
  obtain ⟨-, -, -, -, -, h6, -⟩ := hw v hv
  obtain ⟨d, hd, e⟩ := h6 h
  unfold db_dist
  rw [e, nI_clamp (by omega)]
  exact ⟨hd, rfl⟩
/-- one ask, by bits -/
theorem db_dst_T (hw : db_wf n K X Y Nm) {v : Nat} (hv : v < n) (D : Nat → Int32) {w b : Nat} (hb : b < 32) :
    db_T (db_dst K X Y Nm f B v D) w b ↔ db_T D w b ∨ ∃ a, a < 32 ∧ db_T D v a ∧ db_asks K X Y Nm f B v a w b := by
  unfold db_dst db_asks
  by_cases h2 : B v = -2
  · simp only [if_pos h2]
    constructor
    · exact Or.inl
    · rintro (h | ⟨_, _, _, h⟩)
      · exact h
      · exact h.elim
  · simp only [if_neg h2]
    by_cases h1 : B v = -1
    · simp only [if_pos h1]
      rw [db_dem_T, db_dem_T, db_askX_bit (K v) (db_dist_ok hw hv) _ _ _ hb, db_askY_bit _ _ _ _ _ _ hb]
      constructor
      · rintro ((h | ⟨e, a, ha, h3, h4⟩) | ⟨e, a, ha, h3, h4⟩)
        · exact Or.inl h
        · exact Or.inr ⟨a, ha, h3, Or.inl ⟨e, h4⟩⟩
        · exact Or.inr ⟨a, ha, h3, Or.inr ⟨e, h4⟩⟩
      · rintro (h | ⟨a, ha, h3, h4 | h4⟩)
        · exact Or.inl (Or.inl h)
        · exact Or.inl (Or.inr ⟨h4.1, a, ha, h3, h4.2⟩)
        · exact Or.inr ⟨h4.1, a, ha, h3, h4.2⟩
    · simp only [if_neg h1]
      rw [db_dem_T]
      constructor
      · rintro (h | ⟨e, h⟩)
        · exact Or.inl h
        · exact Or.inr ⟨b, hb, h, e, rfl⟩
      · rintro (h | ⟨a, ha, h3, e, rfl⟩)
        · exact Or.inl h
        · exact Or.inr ⟨e, h3⟩
def db_inL (n : Nat) (K X Y : Nat → Nat) (Nm : Nat → Int32) (f : db_Fs) (B : Nat → Int32) (R : Nat) (RV : Nat → Nat) (RM : Nat → Int32) (D : Nat → Int32) : Prop := ∀ w b, b < 32 → db_T D w b → db_least n K X Y Nm f B R RV RM w b
theorem db_dst_in (hw : db_wf n K X Y Nm) {v : Nat} (hv : v < n) {D : Nat → Int32} (h : db_inL n K X Y Nm f B R RV RM D) : db_inL n K X Y Nm f B R RV RM (db_dst K X Y Nm f B v D) := by
  intro w b hb hT
  rw [db_dst_T hw hv D hb] at hT
  rcases hT with hT | ⟨a, ha, h1, h2⟩
  · exact h w b hb hT
  · exact db_least_step hv ha hb (h v a ha h1) h2
theorem db_dst_up (hw : db_wf n K X Y Nm) {v : Nat} (hv : v < n) (D : Nat → Int32) {w b : Nat} (hb : b < 32) (h : db_T D w b) : db_T (db_dst K X Y Nm f B v D) w b := (db_dst_T hw hv D hb).mpr (Or.inl h)
theorem db_dst_closed (hw : db_wf n K X Y Nm) {v : Nat} (hv : v < n) {D : Nat → Int32} (h : db_dst K X Y Nm f B v D = D) : db_closedAt K X Y Nm f B (db_T D) v := by
  intro a ha hT w b hb hs
  rw [← h]
  exact (db_dst_T hw hv D hb).mpr (Or.inr ⟨a, ha, hT, hs⟩)
/-- how many bits are demanded -/
def db_dp (D : Nat → Int32) (j : Nat) : Bool := bt (D (j / 32)) (j % 32)
def db_dc (D : Nat → Int32) : Nat := db_cn (db_dp D) 768
theorem db_dc_le (D : Nat → Int32) : db_dc D ≤ 768 := db_cn_le _ _
theorem db_dc_mono {D D' : Nat → Int32} (h : ∀ w b, b < 32 → db_T D w b → db_T D' w b) : db_dc D ≤ db_dc D' :=
  db_cn_mono 768 (fun j _ q => h (j / 32) (j % 32) (by omega) q)
theorem db_dem_lt {D : Nat → Int32} {v : Nat} {d : Int32} (hv : v < 24) (h : ¬ (D v ||| d) = D v) : db_dc D < db_dc (db_dem D v d) := by
  refine db_cn_lt 768 (fun j _ q => (db_dem_T D v d (j / 32) (j % 32)).mpr (Or.inl q)) ?_
  have e : ∃ i, i < 32 ∧ bt d i = true ∧ bt (D v) i = false := by
    rcases Classical.em (∃ i, i < 32 ∧ bt d i = true ∧ bt (D v) i = false) with q | q
    · exact q
    · exfalso
      apply h
      refine b_ext (fun i hi => ?_)
      rw [b_or]
      have z : ¬ (bt d i = true ∧ bt (D v) i = false) := fun z => q ⟨i, hi, z⟩
      revert z
      cases bt d i <;> cases bt (D v) i <;> simp
  obtain ⟨i, hi, h1, h2⟩ := e
  refine ⟨32 * v + i, by omega, ?_, ?_⟩
  · show db_T (db_dem D v d) ((32 * v + i) / 32) ((32 * v + i) % 32)
    rw [show (32 * v + i) / 32 = v by omega, show (32 * v + i) % 32 = i by omega, db_dem_T]
    exact Or.inr ⟨rfl, h1⟩
  · show bt (D ((32 * v + i) / 32)) ((32 * v + i) % 32) = false
    rw [show (32 * v + i) / 32 = v by omega, show (32 * v + i) % 32 = i by omega]
    exact h2
theorem db_dem_same {D : Nat → Int32} {v : Nat} {d : Int32} (h : (D v ||| d) = D v) : db_dem D v d = D := by
  unfold db_dem
  rw [h]
  funext j
  show (if j = v then D v else D j) = D j
  split
  · rename_i q; rw [q]
  · rfl
end
/-! a word out of its bits -/
theorem db_word_ex (p : Nat → Prop) : ∃ w : Int32, ∀ b, b < 32 → (bt w b = true ↔ p b) := by
  have key : ∀ m, m ≤ 32 → ∃ w : Int32, ∀ b, b < 32 → (bt w b = true ↔ b < m ∧ p b) := by
    intro m
    induction m with
    | zero => intro _; exact ⟨0, fun b _ => by rw [b_0]; simp⟩
    | succ m ih =>
      intro hm
      obtain ⟨w, hw⟩ := ih (by omega)
      rcases Classical.em (p m) with q | q
      · refine ⟨w ||| ((1 : Int32) <<< (nI m &&& 31)), fun b hb => ?_⟩
        rw [b_or, Bool.or_eq_true, hw b hb, db_1shl m (by omega) b hb, decide_eq_true_eq]
        constructor
        · rintro (⟨h1, h2⟩ | rfl)
          · exact ⟨by omega, h2⟩
          · exact ⟨by omega, q⟩
        · rintro ⟨h1, h2⟩
          by_cases e : b = m
          · exact Or.inr e
          · exact Or.inl ⟨by omega, h2⟩
      · refine ⟨w, fun b hb => ?_⟩
        rw [hw b hb]
        constructor
        · rintro ⟨h1, h2⟩; exact ⟨by omega, h2⟩
        · rintro ⟨h1, h2⟩
          refine ⟨?_, h2⟩
          rcases Nat.lt_or_ge b m with z | z
          · exact z
          · rw [show b = m by omega] at h2; exact absurd h2 q
  obtain ⟨w, hw⟩ := key 32 (Nat.le_refl _)
  exact ⟨w, fun b hb => by rw [hw b hb]; exact ⟨fun h => h.2, fun h => ⟨hb, h⟩⟩⟩
noncomputable def db_word (p : Nat → Prop) : Int32 := Classical.choose (db_word_ex p)
theorem db_word_bt (p : Nat → Prop) {b : Nat} (hb : b < 32) : bt (db_word p) b = true ↔ p b := Classical.choose_spec (db_word_ex p) b hb
theorem db_word_eq {p : Nat → Prop} {w : Int32} (h : ∀ b, b < 32 → (bt w b = true ↔ p b)) : w = db_word p := by
  refine b_ext (fun i hi => ?_)
  have a := (h i hi).trans (db_word_bt p hi).symm
  cases h1 : bt w i <;> cases h2 : bt (db_word p) i
  · rfl
  · exact absurd (a.mpr h2) (by rw [h1]; decide)
  · exact absurd (a.mp h1) (by rw [h2]; decide)
  · rfl
/-- the demanded bits of a function, as it is (B all -1) or shorter -/
noncomputable def db_D (n : Nat) (K X Y : Nat → Nat) (Nm : Nat → Int32) (f : db_Fs) (B : Nat → Int32) (R : Nat) (RV : Nat → Nat) (RM : Nat → Int32) (v : Nat) : Int32 := db_word (db_least n K X Y Nm f B R RV RM v)
theorem db_D_of {n : Nat} {K X Y : Nat → Nat} {Nm : Nat → Int32} {f : db_Fs} {B : Nat → Int32} {R : Nat} {RV : Nat → Nat} {RM : Nat → Int32} {D : Nat → Int32} (h1 : db_inL n K X Y Nm f B R RV RM D) (h2 : db_seeds R RV RM (db_T D)) (h3 : ∀ v, v < n → db_closedAt K X Y Nm f B (db_T D) v) (v : Nat) : D v = db_D n K X Y Nm f B R RV RM v :=
  db_word_eq (fun b hb => ⟨fun q => h1 v b hb q, fun q => q (db_T D) h2 h3⟩)
