/-! ===== what holds before each call of the script ===== -/
def dl_Inv (n R rn rr : Nat) (K X Y : Nat → Nat) (Nm : Nat → Int32) (RV : Nat → Nat) (Ms : Nat → Int32) (Zs On D Rp D2 Nr : Nat → Int32) (ch ec gc an : Int32) (Nw Sn Ns Ss : Nat → Int32) : Prop :=
  n ≤ 24 ∧ R ≤ 4 ∧ rn ≤ n ∧ rr ≤ R ∧ db_wf n K X Y Nm ∧ (∀ r, r < R → RV r < n) ∧ (∀ j, j < 24 → Nr j = -1) ∧ (an = 0 ∨ (an = 1 ∧ db_cv n K X Y Nm R RV Ms ((Zs, On), ch, D, ec, Rp, D2, gc))) ∧ (∀ v, rn ≤ v → Nw v = 0) ∧ (∀ v, rn ≤ v → Ns v = 0) ∧ (∀ q, Sn q = if q < rr then Nw (RV q) &&& Ms q else 0) ∧ (∀ q, Ss q = if q < rr then Ns (RV q) &&& Ms q else 0)
section DL
variable {n R rn rr : Nat} {K X Y : Nat → Nat} {Nm : Nat → Int32} {RV : Nat → Nat} {Ms : Nat → Int32} {Zs On D Rp D2 Nr : Nat → Int32} {ch ec gc an : Int32} {Nw Sn Ns Ss : Nat → Int32}
theorem dl_start {Zs On D Rp D2 Nr : Nat → Int32} {ch ec gc : Int32} (h : ∀ j, j < 24 → Nr j = -1) : dl_Inv 0 0 0 0 (fun _ => 0) (fun _ => 0) (fun _ => 0) (fun _ => 0) (fun _ => 0) (fun _ => 0) Zs On D Rp D2 Nr ch ec gc 0 (fun _ => 0) (fun _ => 0) (fun _ => 0) (fun _ => 0) :=
  ⟨by omega, by omega, by omega, by omega, fun v hv => absurd hv (Nat.not_lt_zero _), fun v hv => absurd hv (Nat.not_lt_zero _), h, Or.inl rfl, fun _ _ => rfl, fun _ _ => rfl, fun q => (if_neg (Nat.not_lt_zero _)).symm, fun q => (if_neg (Nat.not_lt_zero _)).symm⟩
theorem dl_fun (h : dl_Inv n R rn rr K X Y Nm RV Ms Zs On D Rp D2 Nr ch ec gc an Nw Sn Ns Ss) {n' : Nat} {K' X' Y' : Nat → Nat} {Nm' : Nat → Int32} (h1 : n ≤ n') (h2 : n' ≤ 24) (hw : db_wf n' K' X' Y' Nm') : dl_Inv n' R rn rr K' X' Y' Nm' RV Ms Zs On D Rp D2 Nr ch ec gc 0 Nw Sn Ns Ss := by
  obtain ⟨a1, a2, a3, a4, a5, a6, a7, a8, a9, a10, a11, a12⟩ := h
  exact ⟨h2, a2, by omega, a4, hw, fun r hr => Nat.lt_of_lt_of_le (a6 r hr) h1, a7, Or.inl rfl, a9, a10, a11, a12⟩
theorem dl_res (h : dl_Inv n R rn rr K X Y Nm RV Ms Zs On D Rp D2 Nr ch ec gc an Nw Sn Ns Ss) {v : Nat} (mk : Int32) (hv : v < n) (hR : R < 4) : dl_Inv n (R + 1) rn rr K X Y Nm (db_upN RV R v) (upd Ms R mk) Zs On D Rp D2 Nr ch ec gc 0 Nw Sn Ns Ss := by
  obtain ⟨a1, a2, a3, a4, a5, a6, a7, a8, a9, a10, a11, a12⟩ := h
  refine ⟨a1, by omega, a3, by omega, a5, fun r hr => ?_, a7, Or.inl rfl, a9, a10, fun q => ?_, fun q => ?_⟩
  · by_cases e : r = R
    · subst e; rw [db_upN_s]; exact hv
    · rw [db_upN_n e]; exact a6 r (by omega)
  · rw [a11 q]
    by_cases e : q < rr
    · rw [if_pos e, if_pos e, db_upN_n (by omega), pk_un (by omega)]
    · rw [if_neg e, if_neg e]
  · rw [a12 q]
    by_cases e : q < rr
    · rw [if_pos e, if_pos e, db_upN_n (by omega), pk_un (by omega)]
    · rw [if_neg e, if_neg e]
theorem dl_ana (h : dl_Inv n R rn rr K X Y Nm RV Ms Zs On D Rp D2 Nr ch ec gc an Nw Sn Ns Ss) {u : db_CU} (hc : db_cv n K X Y Nm R RV Ms u) : dl_Inv n R rn rr K X Y Nm RV Ms u.1.1 u.1.2 u.2.2.1 u.2.2.2.2.1 u.2.2.2.2.2.1 Nr u.2.1 u.2.2.2.1 u.2.2.2.2.2.2 1 Nw Sn Ns Ss := by
  obtain ⟨a1, a2, a3, a4, a5, a6, a7, a8, a9, a10, a11, a12⟩ := h
  exact ⟨a1, a2, a3, a4, a5, a6, a7, Or.inr ⟨rfl, hc⟩, a9, a10, a11, a12⟩
theorem db_it_ge {K X Y : Nat → Nat} {Nm B fx inp bef : Nat → Int32} {first : Prop} [Decidable first] {v : Nat} : ∀ (k : Nat) (now : Nat → Int32), k ≤ v → db_it (db_rs K X Y Nm B fx first bef inp) k now v = now v
  | 0, now, _ => rfl
  | k + 1, now, h => by
    show db_rs K X Y Nm B fx first bef inp k (db_it (db_rs K X Y Nm B fx first bef inp) k now) v = now v
    unfold db_rs
    rw [pk_un (by omega)]
    exact db_it_ge k now (by omega)
theorem db_course_ge {n : Nat} {K X Y : Nat → Nat} {Nm B fx inp : Nat → Int32} {v : Nat} (hv : n ≤ v) : ∀ (k : Nat) (now : Nat → Int32), db_course n K X Y Nm B fx inp k now v = now v
  | 0, now => rfl
  | k + 1, now => by
    show db_round n K X Y Nm B fx inp k (db_course n K X Y Nm B fx inp k now) v = now v
    unfold db_round
    rw [db_it_ge n _ hv]
    exact db_course_ge hv k now
theorem dl_run (h : dl_Inv n R rn rr K X Y Nm RV Ms Zs On D Rp D2 Nr ch ec gc an Nw Sn Ns Ss) {u : db_CU} (hc : db_cv n K X Y Nm R RV Ms u) {B1 B2 f1 f2 i1 i2 S1 S2 : Nat → Int32} {k : Nat}
    (hs : (∀ q, q < R → S1 q = (db_course n K X Y Nm B1 f1 i1 k Nw) (RV q) &&& Ms q) ∧ ∀ q, R ≤ q → S1 q = Sn q) (hs2 : (∀ q, q < R → S2 q = (db_course n K X Y Nm B2 f2 i2 k Ns) (RV q) &&& Ms q) ∧ ∀ q, R ≤ q → S2 q = Ss q) :
    dl_Inv n R n R K X Y Nm RV Ms u.1.1 u.1.2 u.2.2.1 u.2.2.2.2.1 u.2.2.2.2.2.1 Nr u.2.1 u.2.2.2.1 u.2.2.2.2.2.2 1 (db_course n K X Y Nm B1 f1 i1 k Nw) S1 (db_course n K X Y Nm B2 f2 i2 k Ns) S2 := by
  obtain ⟨a1, a2, a3, a4, a5, a6, a7, a8, a9, a10, a11, a12⟩ := h
  refine ⟨a1, a2, Nat.le_refl _, Nat.le_refl _, a5, a6, a7, Or.inr ⟨rfl, hc⟩, fun v hv => ?_, fun v hv => ?_, fun q => ?_, fun q => ?_⟩
  · rw [db_course_ge hv]; exact a9 v (by omega)
  · rw [db_course_ge hv]; exact a10 v (by omega)
  · by_cases e : q < R
    · rw [if_pos e]; exact hs.1 q e
    · rw [if_neg e, hs.2 q (by omega), a11 q, if_neg (by omega)]
  · by_cases e : q < R
    · rw [if_pos e]; exact hs2.1 q e
    · rw [if_neg e, hs2.2 q (by omega), a12 q, if_neg (by omega)]
theorem dl_val {N : Nat → Int32} (h : ∀ v, rn ≤ v → N v = 0) (v : Nat) : N v = if v < rn then N v else 0 := by
  by_cases e : v < rn
  · rw [if_pos e]
  · rw [if_neg e]; exact h v (by omega)
end DL
theorem dl_lt1 {k : Int32} (h : k < 0) : k < 1 := by
  rw [Int32.lt_iff_toInt_lt] at h ⊢
  have e0 : (0 : Int32).toInt = 0 := by decide
  have e1 : (1 : Int32).toInt = 1 := by decide
  omega
