/-! ===== asked: bits of (value, bit) pairs that came into the set ===== -/
def db_asked (A : Nat → Nat → Prop) (a u : db_Q) : Prop := db_gr (fun i => ∃ w b, b < 32 ∧ i = 32 * w + b ∧ A w b) a u ∧ ∀ w b, b < 32 → A w b → u.1 (32 * w + b) = 1
def db_ok (q : db_Q) : Prop := db_b01 q.1 ∧ q.2.2 ≤ db_sc q.1
theorem db_gr_ok {ok : Nat → Prop} {a b : db_Q} (h : db_gr ok a b) (ha : db_ok a) : db_ok b := by
  obtain ⟨h1, h2, h3, h4, h5, h6, h7, h8⟩ := h
  have := ha.2
  exact ⟨h8 ha.1, by omega⟩
theorem db_asked_1 {S P : Nat → Int32} {p v k : Nat} {u : db_Q} (hk : k < 32) (h : db_gr (fun i => i = 32 * v + k) (S, P, p) u) (h1 : u.1 (32 * v + k) = 1) : db_asked (fun w b => w = v ∧ b = k) (S, P, p) u :=
  ⟨db_gr_weak h (fun j e => ⟨v, k, hk, e, rfl, rfl⟩), fun w b _ e => by rw [e.1, e.2]; exact h1⟩
theorem db_asked_0 (A : Nat → Nat → Prop) (a : db_Q) (h : ∀ w b, b < 32 → ¬ A w b) : db_asked A a a := ⟨db_gr_refl _ _, fun w b hb q => absurd q (h w b hb)⟩
theorem db_asked_congr {A B : Nat → Nat → Prop} {a u : db_Q} (h : db_asked A a u) (e : ∀ w b, b < 32 → (A w b ↔ B w b)) : db_asked B a u :=
  ⟨db_gr_weak h.1 (fun j ⟨w, b, hb, h1, h2⟩ => ⟨w, b, hb, h1, (e w b hb).mp h2⟩), fun w b hb q => h.2 w b hb ((e w b hb).mpr q)⟩
theorem db_asked_or {A B : Nat → Nat → Prop} {a q u : db_Q} (h : db_asked A a q) (g : db_asked B q u) (hA : ∀ w b, A w b → w < 24) : db_asked (fun w b => A w b ∨ B w b) a u :=
  ⟨db_gr_trans (db_gr_weak h.1 (fun j ⟨w, b, hb, h1, h2⟩ => ⟨w, b, hb, h1, Or.inl h2⟩)) (db_gr_weak g.1 (fun j ⟨w, b, hb, h1, h2⟩ => ⟨w, b, hb, h1, Or.inr h2⟩)),
    fun w b hb z => z.elim (fun z => g.1.1 _ (by have := hA w b z; omega) (h.2 w b hb z)) (g.2 w b hb)⟩
def db_A (kd dd x y : Nat) (zx ox zy oy : Int32) (a w b : Nat) : Prop := (w = x ∧ db_rx kd dd zy oy a b) ∨ (w = y ∧ db_ry kd zx ox zy oy a b)
/-! ===== the pile's invariant ===== -/
section
variable {n : Nat} {K X Y : Nat → Nat} {Nm : Nat → Int32} {f : db_Fs} {B : Nat → Int32} {R : Nat} {RV : Nat → Nat} {RM : Nat → Int32}
theorem db_asks_A {v a w b : Nat} (h : B v = -1) : db_asks K X Y Nm f B v a w b ↔ db_A (K v) (db_dist Nm v) (X v) (Y v) (f.1 (X v)) (f.2 (X v)) (f.1 (Y v)) (f.2 (Y v)) a w b := by
  unfold db_asks db_A
  rw [h, if_neg (by decide), if_pos rfl]
theorem db_asks_F {v a w b : Nat} (h : B v = -2) : ¬ db_asks K X Y Nm f B v a w b := by
  unfold db_asks
  rw [if_pos h]
  exact id
theorem db_asks_X {v a w b x : Nat} (hx : x < 2 ^ 31) (h : B v = nI x) : db_asks K X Y Nm f B v a w b ↔ (w = x ∧ b = a) := by
  unfold db_asks
  have p := nI_pos hx
  rw [h, if_neg (fun q => by rw [q] at p; exact p (by decide)), if_neg (fun q => by rw [q] at p; exact p (by decide)), nI_clamp hx]
def db_dinv (n : Nat) (K X Y : Nat → Nat) (Nm : Nat → Int32) (f : db_Fs) (B : Nat → Int32) (R : Nat) (RV : Nat → Nat) (RM : Nat → Int32) (q : db_Q) : Prop :=
  db_ok q ∧ (∀ w b, b < 32 → 32 * w + b < 768 → q.1 (32 * w + b) = 1 → db_least n K X Y Nm f B R RV RM w b ∧ w < n) ∧ (∀ i, i < q.2.2 → ∃ j, j < 768 ∧ q.2.1 i = nI j ∧ q.1 j = 1) ∧
  ∀ w b, w < n → b < 32 → q.1 (32 * w + b) = 1 → (∃ i, i < q.2.2 ∧ q.2.1 i = nI (32 * w + b)) ∨ ∀ w' b', b' < 32 → db_asks K X Y Nm f B w b w' b' → q.1 (32 * w' + b') = 1
theorem db_dinv_grow {A : Nat → Nat → Prop} {a u : db_Q} (hn : n ≤ 24) (hr : ∀ v a w b, v < n → db_asks K X Y Nm f B v a w b → w < n) (h : db_dinv n K X Y Nm f B R RV RM a) (g : db_asked A a u) (hA : ∀ w b, b < 32 → A w b → db_least n K X Y Nm f B R RV RM w b ∧ w < n) : db_dinv n K X Y Nm f B R RV RM u := by
  obtain ⟨h1, h2, h3, h4⟩ := h
  obtain ⟨⟨g1, g2, g3, g4, g5, g6, g7, g8⟩, -⟩ := g
  refine ⟨⟨g8 h1.1, by have := h1.2; omega⟩, fun w b hb hj q => ?_, fun i hi => ?_, fun w b hw hb q => ?_⟩
  · rcases g2 _ hj q with z | ⟨w', b', hb', e, hA'⟩
    · exact h2 w b hb hj z
    · have e1 : w = w' := by omega
      have e2 : b = b' := by omega
      rw [e1, e2]
      exact hA w' b' hb' hA'
  · rcases Nat.lt_or_ge i a.2.2 with z | z
    · obtain ⟨j, k1, k2, k3⟩ := h3 i z
      exact ⟨j, k1, (g4 i z).trans k2, g1 j k1 k3⟩
    · exact g5 i z hi
  · rcases g6 _ (by omega) q with z | z
    · rcases h4 w b hw hb z with ⟨i, k1, k2⟩ | y
      · exact Or.inl ⟨i, by omega, (g4 i k1).trans k2⟩
      · exact Or.inr (fun w' b' hb' s => g1 _ (by have := hr w b w' b' hw s; omega) (y w' b' hb' s))
    · exact Or.inl z
/-- the top of the pile is taken and asks -/
theorem db_dinv_pop {S P : Nat → Int32} {p v k : Nat} {u : db_Q} (hn : n ≤ 24) (hr : ∀ v a w b, v < n → db_asks K X Y Nm f B v a w b → w < n) (h : db_dinv n K X Y Nm f B R RV RM (S, P, p + 1)) (hk : k < 32) (hv : v < n) (hp : P p = nI (32 * v + k)) (hS : S (32 * v + k) = 1) (g : db_asked (fun w b => db_asks K X Y Nm f B v k w b) (S, P, p) u) : db_dinv n K X Y Nm f B R RV RM u := by
  obtain ⟨h1, h2, h3, h4⟩ := h
  have hl := (h2 v k hk (by omega) hS).1
  obtain ⟨⟨g1, g2, g3, g4, g5, g6, g7, g8⟩, gA⟩ := g
  have hle : p + 1 ≤ db_sc S := h1.2
  have g7' : u.2.2 + db_sc S = p + db_sc u.1 := g7
  refine ⟨⟨g8 h1.1, by omega⟩, fun w b hb hj q => ?_, fun i hi => ?_, fun w b hw hb q => ?_⟩
  · rcases g2 _ hj q with z | ⟨w', b', hb', e, hA'⟩
    · exact h2 w b hb hj z
    · have e1 : w = w' := by omega
      have e2 : b = b' := by omega
      rw [e1, e2]
      exact ⟨db_least_step hv hk hb' hl hA', hr _ _ _ _ hv hA'⟩
  · rcases Nat.lt_or_ge i p with z | z
    · obtain ⟨j, k1, k2, k3⟩ := h3 i (Nat.lt_succ_of_lt z)
      exact ⟨j, k1, (g4 i z).trans k2, g1 j k1 k3⟩
    · exact g5 i z hi
  · rcases g6 _ (by omega) q with z | z
    · rcases h4 w b hw hb z with ⟨i, k1, k2⟩ | y
      · rcases Nat.lt_or_ge i p with y | y
        · exact Or.inl ⟨i, Nat.lt_of_lt_of_le y g3, (g4 i y).trans k2⟩
        · have k1' : i < p + 1 := k1
          have e : i = p := by omega
          subst e
          have k2' : P i = nI (32 * w + b) := k2
          rw [hp, nI_eq (by omega) (by omega)] at k2'
          have e1 : w = v := by omega
          have e2 : b = k := by omega
          subst e1; subst e2
          exact Or.inr (fun w' b' hb' s => gA w' b' hb' s)
      · exact Or.inr (fun w' b' hb' s => g1 _ (by have := hr w b w' b' hw s; omega) (y w' b' hb' s))
    · exact Or.inl z
theorem db_pop_lt {A : Nat → Nat → Prop} {S P : Nat → Int32} {p : Nat} {u : db_Q} (g : db_asked A (S, P, p) u) : 2 * (768 - db_sc u.1) + u.2.2 < 2 * (768 - db_sc S) + (p + 1) := by
  obtain ⟨⟨-, -, g3, -, -, -, g7, -⟩, -⟩ := g
  have a := db_sc_le S
  have b := db_sc_le u.1
  have g7' : u.2.2 + db_sc S = p + db_sc u.1 := g7
  have g3' : p ≤ u.2.2 := g3
  omega
theorem db_dinv_end {S P : Nat → Int32} (hn : n ≤ 24) (hRV : ∀ r, r < R → RV r < n) (h : db_dinv n K X Y Nm f B R RV RM (S, P, 0)) (hs : ∀ r, r < R → ∀ b, b < 32 → bt (RM r) b = true → S (32 * RV r + b) = 1) : ∀ v, v < n → db_set S v (db_D n K X Y Nm f B R RV RM v) := by
  obtain ⟨h1, h2, -, h4⟩ := h
  intro v hv k hk
  have iff : S (32 * v + k) = 1 ↔ bt (db_D n K X Y Nm f B R RV RM v) k = true := by
    unfold db_D
    rw [db_word_bt _ hk]
    constructor
    · exact fun q => (h2 v k hk (by omega) q).1
    · intro q
      refine q (fun w b => S (32 * w + b) = 1) hs (fun w hw a ha hT w' b' hb' s => ?_)
      rcases h4 w a hw ha hT with ⟨i, k1, -⟩ | y
      · exact absurd k1 (Nat.not_lt_zero i)
      · exact y w' b' hb' s
  cases hb : bt (db_D n K X Y Nm f B R RV RM v) k
  · rcases h1.1 (32 * v + k) (by omega) with z | z
    · exact z
    · have q := iff.mp z
      rw [hb] at q
      cases q
  · exact iff.mpr hb
theorem db_dinv0 (P : Nat → Int32) {S : Nat → Int32} (hS : ∀ j, j < 768 → S j = 0) (hn : n ≤ 24) : db_dinv n K X Y Nm f B R RV RM (S, P, 0) := by
  refine ⟨⟨fun j hj => Or.inl (hS j hj), Nat.zero_le _⟩, fun w b hb hj q => ?_, fun i hi => absurd hi (Nat.not_lt_zero i), fun w b hw hb q => ?_⟩
  · have z : S (32 * w + b) = 1 := q
    rw [hS _ hj] at z
    exact absurd z (by decide)
  · have z : S (32 * w + b) = 1 := q
    rw [hS _ (by omega)] at z
    exact absurd z (by decide)
end
