/-! ===== counting, and the passes' end ===== -/
def db_cn (p : Nat → Bool) : Nat → Nat
  | 0 => 0
  | k + 1 => db_cn p k + (if p k = true then 1 else 0)
theorem db_cn_le (p : Nat → Bool) : ∀ m, db_cn p m ≤ m := by
  intro m
  induction m with
  | zero => exact Nat.le_refl 0
  | succ m ih => unfold db_cn; split <;> omega
theorem db_cn_mono {p q : Nat → Bool} : ∀ m, (∀ j, j < m → p j = true → q j = true) → db_cn p m ≤ db_cn q m := by
  intro m
  induction m with
  | zero => intro _; exact Nat.le_refl 0
  | succ m ih =>
    intro h
    have a := ih (fun j hj => h j (by omega))
    have b := h m (by omega)
    unfold db_cn
    by_cases c : p m = true
    · rw [if_pos c, if_pos (b c)]; omega
    · rw [if_neg c]; omega
theorem db_cn_lt {p q : Nat → Bool} : ∀ m, (∀ j, j < m → p j = true → q j = true) → (∃ j, j < m ∧ q j = true ∧ p j = false) → db_cn p m < db_cn q m := by
  intro m
  induction m with
  | zero => rintro _ ⟨j, hj, -⟩; omega
  | succ m ih =>
    rintro h ⟨j, hj, hq, hp⟩
    have b := h m (by omega)
    rcases Nat.lt_or_ge j m with c | c
    · have a := ih (fun j hj => h j (by omega)) ⟨j, c, hq, hp⟩
      unfold db_cn
      by_cases d : p m = true
      · rw [if_pos d, if_pos (b d)]; omega
      · rw [if_neg d]; omega
    · have e : j = m := by omega
      subst e
      have a := db_cn_mono (p := p) (q := q) j (fun i hi => h i (by omega))
      unfold db_cn
      rw [if_pos hq, if_neg (by rw [hp]; decide)]
      omega
section
variable {n : Nat} {K X Y : Nat → Nat} {Nm : Nat → Int32}
theorem db_ap0 : db_ap 0 0 := fun i _ => by rw [b_0]; rfl
theorem db_F_ap' (kd : Nat) (d zx ox zy oy zv ov : Int32) (hd : db_shift kd → ∃ n, n < 32 ∧ d = nI n) (hx : db_ux kd → db_ap zx ox) (hy : db_uy kd → db_ap zy oy) (hv : 13 ≤ kd → db_ap zv ov) :
    db_ap (db_F kd d zx ox zy oy zv ov).1 (db_F kd d zx ox zy oy zv ov).2 := by
  have e : ∃ zx' ox' zy' oy' zv' ov', db_ap zx' ox' ∧ db_ap zy' oy' ∧ db_ap zv' ov' ∧ db_F kd d zx ox zy oy zv ov = db_F kd d zx' ox' zy' oy' zv' ov' := by
    by_cases a : db_ux kd <;> by_cases b : db_uy kd <;> by_cases c : 13 ≤ kd
    · exact ⟨zx, ox, zy, oy, zv, ov, hx a, hy b, hv c, rfl⟩
    · exact ⟨zx, ox, zy, oy, 0, 0, hx a, hy b, db_ap0, db_F_congr (fun _ => ⟨rfl, rfl⟩) (fun _ => ⟨rfl, rfl⟩) (fun q => absurd q c)⟩
    · exact ⟨zx, ox, 0, 0, zv, ov, hx a, db_ap0, hv c, db_F_congr (fun _ => ⟨rfl, rfl⟩) (fun q => absurd q b) (fun _ => ⟨rfl, rfl⟩)⟩
    · exact ⟨zx, ox, 0, 0, 0, 0, hx a, db_ap0, db_ap0, db_F_congr (fun _ => ⟨rfl, rfl⟩) (fun q => absurd q b) (fun q => absurd q c)⟩
    · exact ⟨0, 0, zy, oy, zv, ov, db_ap0, hy b, hv c, db_F_congr (fun q => absurd q a) (fun _ => ⟨rfl, rfl⟩) (fun _ => ⟨rfl, rfl⟩)⟩
    · exact ⟨0, 0, zy, oy, 0, 0, db_ap0, hy b, db_ap0, db_F_congr (fun q => absurd q a) (fun _ => ⟨rfl, rfl⟩) (fun q => absurd q c)⟩
    · exact ⟨0, 0, 0, 0, zv, ov, db_ap0, db_ap0, hv c, db_F_congr (fun q => absurd q a) (fun q => absurd q b) (fun _ => ⟨rfl, rfl⟩)⟩
    · exact ⟨0, 0, 0, 0, 0, 0, db_ap0, db_ap0, db_ap0, db_F_congr (fun q => absurd q a) (fun q => absurd q b) (fun q => absurd q c)⟩
  obtain ⟨zx', ox', zy', oy', zv', ov', h1, h2, h3, h4⟩ := e
  rw [h4]
  exact db_F_ap kd d _ _ _ _ _ _ hd h1 h2 h3
def db_aps (m : Nat) (f : db_Fs) : Prop := ∀ v, v < m → db_ap (f.1 v) (f.2 v)
theorem db_aps_put {m v : Nat} {f : db_Fs} {r : Int32 × Int32} (h : ∀ w, w < m → w ≠ v → db_ap (f.1 w) (f.2 w)) (hr : db_ap r.1 r.2) : db_aps m (db_put f v r) := by
  intro w hw
  by_cases e : w = v
  · subst e; rw [db_put_s1, db_put_s2]; exact hr
  · rw [db_put_n1 e, db_put_n2 e]; exact h w hw e
theorem db_aps_st (hw : db_wf n K X Y Nm) {f : db_Fs} {v : Nat} (hv : v < n) (h : db_aps n f) : db_aps n (db_st K X Y Nm v f) := by
  obtain ⟨h1, h2, h3, h4, h5, h6, -⟩ := hw v hv
  exact db_aps_put (fun w hw _ => h w hw) (db_F_ap' _ _ _ _ _ _ _ _ h6 (fun _ => h _ h2) (fun _ => h _ h3) (fun _ => h _ hv))
theorem db_aps_it (hw : db_wf n K X Y Nm) {f : db_Fs} (h : db_aps n f) : ∀ m, m ≤ n → db_aps n (db_it (db_st K X Y Nm) m f) := by
  intro m
  induction m with
  | zero => intro _; exact h
  | succ m ih => intro hm; exact db_aps_st hw (by omega) (ih (by omega))
theorem db_aps_pass (hw : db_wf n K X Y Nm) {f : db_Fs} (h : db_aps n f) : db_aps n (db_pass n K X Y Nm f) := db_aps_it hw h n (Nat.le_refl n)
theorem db_aps_p0 (hw : db_wf n K X Y Nm) (f : db_Fs) : ∀ m, m ≤ n → db_aps m (db_it (db_s0 K X Y Nm) m f) := by
  intro m
  induction m with
  | zero => intro _ v hv; omega
  | succ m ih =>
    intro hm
    have h := ih (by omega)
    obtain ⟨h1, h2, h3, h4, h5, h6, -⟩ := hw m (by omega)
    show db_aps (m + 1) (db_s0 K X Y Nm m (db_it (db_s0 K X Y Nm) m f))
    unfold db_s0
    split
    · rename_i hk
      exact db_aps_put (fun w hw hne => h w (by omega)) (h _ (h4 (by unfold db_ux; omega)))
    · rename_i hk
      exact db_aps_put (fun w hw hne => h w (by omega)) (db_F_ap' _ _ _ _ _ _ _ _ h6 (fun u => h _ (h4 u)) (fun u => h _ (h5 (by unfold db_uy at u; omega))) (fun u => by omega))
/-- what a LOOP's facts are behind a pass -/
theorem db_pass_at (f : db_Fs) {v : Nat} : ∀ m, v < m → ((db_it (db_st K X Y Nm) m f).1 v, (db_it (db_st K X Y Nm) m f).2 v) = db_val K X Y Nm v (db_it (db_st K X Y Nm) v f) := by
  intro m
  induction m with
  | zero => intro h; omega
  | succ m ih =>
    intro h
    show ((db_st K X Y Nm m (db_it (db_st K X Y Nm) m f)).1 v, (db_st K X Y Nm m (db_it (db_st K X Y Nm) m f)).2 v) = _
    rcases Nat.lt_or_ge v m with q | q
    · rw [← ih q, (db_st_n (K := K) (X := X) (Y := Y) (Nm := Nm) (by omega : v ≠ m)).1, (db_st_n (K := K) (X := X) (Y := Y) (Nm := Nm) (by omega : v ≠ m)).2]
    · have e : v = m := by omega
      subst e
      show ((db_put _ v _).1 v, (db_put _ v _).2 v) = _
      rw [db_put_s1, db_put_s2]
theorem db_loop_sub (f : db_Fs) {v : Nat} (hv : v < n) (hk : K v = 13) (i : Nat) : (bt ((db_pass n K X Y Nm f).1 v) i = true → bt (f.1 v) i = true) ∧ (bt ((db_pass n K X Y Nm f).2 v) i = true → bt (f.2 v) i = true) := by
  have h := db_pass_at (K := K) (X := X) (Y := Y) (Nm := Nm) f n hv
  have h1 : (db_pass n K X Y Nm f).1 v = _ := congrArg Prod.fst h
  have h2 : (db_pass n K X Y Nm f).2 v = _ := congrArg Prod.snd h
  have u := db_it_n (g := db_st K X Y Nm) (fun _ _ _ h => db_st_n h) f v v (Nat.le_refl v)
  rw [h1, h2]
  unfold db_val
  rw [hk]
  show (bt ((db_it (db_st K X Y Nm) v f).1 v &&& _ &&& _) i = true → _) ∧ (bt ((db_it (db_st K X Y Nm) v f).2 v &&& _ &&& _) i = true → _)
  rw [u.1, u.2, b_and, b_and, b_and, b_and]
  constructor
  · intro q
    cases hb : bt (f.1 v) i
    · rw [hb] at q; simp at q
    · rfl
  · intro q
    cases hb : bt (f.2 v) i
    · rw [hb] at q; simp at q
    · rfl
def db_mp (K : Nat → Nat) (f : db_Fs) (j : Nat) : Bool := decide (K (j / 32) = 13) && (bt (f.1 (j / 32)) (j % 32) || bt (f.2 (j / 32)) (j % 32))
def db_mu (n : Nat) (K : Nat → Nat) (f : db_Fs) : Nat := db_cn (db_mp K f) (32 * n)
theorem db_mu_lt {f : db_Fs} (ha : db_aps n f) (h : ∃ v, v < n ∧ K v = 13 ∧ ((db_pass n K X Y Nm f).1 v, (db_pass n K X Y Nm f).2 v) ≠ (f.1 v, f.2 v)) : db_mu n K (db_pass n K X Y Nm f) < db_mu n K f := by
  unfold db_mu
  refine db_cn_lt (32 * n) ?_ ?_
  · intro j hj
    unfold db_mp
    by_cases hk : K (j / 32) = 13
    · have s := db_loop_sub (n := n) (K := K) (X := X) (Y := Y) (Nm := Nm) f (v := j / 32) (by omega) hk (j % 32)
      rw [decide_eq_true hk, Bool.true_and, Bool.true_and, Bool.or_eq_true, Bool.or_eq_true]
      exact fun q => q.elim (fun q => Or.inl (s.1 q)) (fun q => Or.inr (s.2 q))
    · rw [decide_eq_false hk, Bool.false_and]; intro q; cases q
  · obtain ⟨v, hv, hk, hne⟩ := h
    have key : ∃ i, i < 32 ∧ (bt (f.1 v) i || bt (f.2 v) i) = true ∧ (bt ((db_pass n K X Y Nm f).1 v) i || bt ((db_pass n K X Y Nm f).2 v) i) = false := by
      rcases Classical.em (∃ i, i < 32 ∧ (bt (f.1 v) i || bt (f.2 v) i) = true ∧ (bt ((db_pass n K X Y Nm f).1 v) i || bt ((db_pass n K X Y Nm f).2 v) i) = false) with q | q
      · exact q
      · exfalso
        apply hne
        have s : ∀ i, i < 32 → bt ((db_pass n K X Y Nm f).1 v) i = bt (f.1 v) i ∧ bt ((db_pass n K X Y Nm f).2 v) i = bt (f.2 v) i := by
          intro i hi
          have l := db_loop_sub (n := n) (K := K) (X := X) (Y := Y) (Nm := Nm) f hv hk i
          have a := ha v hv i hi
          have z : ¬ ((bt (f.1 v) i || bt (f.2 v) i) = true ∧ (bt ((db_pass n K X Y Nm f).1 v) i || bt ((db_pass n K X Y Nm f).2 v) i) = false) := fun z => q ⟨i, hi, z⟩
          revert l a z
          cases bt (f.1 v) i <;> cases bt (f.2 v) i <;> cases bt ((db_pass n K X Y Nm f).1 v) i <;> cases bt ((db_pass n K X Y Nm f).2 v) i <;> simp
        rw [b_ext (fun i hi => (s i hi).1), b_ext (fun i hi => (s i hi).2)]
    obtain ⟨i, hi, h1, h2⟩ := key
    refine ⟨32 * v + i, by omega, ?_, ?_⟩
    · unfold db_mp
      rw [show (32 * v + i) / 32 = v by omega, show (32 * v + i) % 32 = i by omega, decide_eq_true hk, h1]; rfl
    · unfold db_mp
      rw [show (32 * v + i) / 32 = v by omega, show (32 * v + i) % 32 = i by omega, decide_eq_true hk, h2]; rfl
def db_P (n : Nat) (K X Y : Nat → Nat) (Nm : Nat → Int32) : Nat → db_Fs → db_Fs
  | 0, f => db_p0 n K X Y Nm f
  | i + 1, f => db_pass n K X Y Nm (db_P n K X Y Nm i f)
theorem db_P_cons (hw : db_wf n K X Y Nm) (f : db_Fs) (i : Nat) : db_cons K X Y Nm n (db_P n K X Y Nm i f) := by
  cases i with
  | zero => exact db_cons_p0 hw f
  | succ i => exact db_cons_pass hw _
theorem db_P_aps (hw : db_wf n K X Y Nm) (f : db_Fs) (i : Nat) : db_aps n (db_P n K X Y Nm i f) := by
  induction i with
  | zero => exact db_aps_p0 hw f n (Nat.le_refl n)
  | succ i ih => exact db_aps_pass hw ih
/-- a pass that changes anything changes a LOOP -/
theorem db_changes {f : db_Fs} (hc : db_cons K X Y Nm n f) (h : db_pass n K X Y Nm f ≠ f) : ∃ v, v < n ∧ K v = 13 ∧ ((db_pass n K X Y Nm f).1 v, (db_pass n K X Y Nm f).2 v) ≠ (f.1 v, f.2 v) := by
  rcases Classical.em (∃ v, v < n ∧ K v = 13 ∧ ((db_pass n K X Y Nm f).1 v, (db_pass n K X Y Nm f).2 v) ≠ (f.1 v, f.2 v)) with q | q
  · exact q
  · exact absurd (db_stable hc (fun v hv hk => Classical.byContradiction (fun z => q ⟨v, hv, hk, z⟩))) h
theorem db_P_few (hw : db_wf n K X Y Nm) (f : db_Fs) : ∀ i, (∀ j, j < i → db_P n K X Y Nm (j + 1) f ≠ db_P n K X Y Nm j f) → db_mu n K (db_P n K X Y Nm i f) + i ≤ 32 * n := by
  intro i
  induction i with
  | zero => intro _; exact db_cn_le _ _
  | succ i ih =>
    intro h
    have a := ih (fun j hj => h j (by omega))
    have b : db_mu n K (db_P n K X Y Nm (i + 1) f) < db_mu n K (db_P n K X Y Nm i f) := db_mu_lt (db_P_aps hw f i) (db_changes (db_P_cons hw f i) (h i (by omega)))
    omega
theorem db_P_stay (f : db_Fs) {i : Nat} (h : db_P n K X Y Nm (i + 1) f = db_P n K X Y Nm i f) : ∀ j, i ≤ j → db_P n K X Y Nm j f = db_P n K X Y Nm i f := by
  intro j
  induction j with
  | zero => intro hj; rw [show i = 0 by omega]
  | succ j ih =>
    intro hj
    rcases Nat.lt_or_ge i (j + 1) with q | q
    · show db_pass n K X Y Nm (db_P n K X Y Nm j f) = _
      rw [ih (by omega)]
      exact h
    · rw [show i = j + 1 by omega]
/-- agreeing starts give agreeing facts -/
def db_agree (n : Nat) (f g : db_Fs) : Prop := ∀ w, w < n → f.1 w = g.1 w ∧ f.2 w = g.2 w
theorem db_agree_put {m v : Nat} {f g : db_Fs} {r r' : Int32 × Int32} (h : ∀ w, w < m → w ≠ v → f.1 w = g.1 w ∧ f.2 w = g.2 w) (e : r = r') : db_agree m (db_put f v r) (db_put g v r') := by
  subst e
  intro w hw
  by_cases q : w = v
  · subst q; rw [db_put_s1, db_put_s2, db_put_s1, db_put_s2]; exact ⟨rfl, rfl⟩
  · rw [db_put_n1 q, db_put_n2 q, db_put_n1 q, db_put_n2 q]; exact h w hw q
theorem db_agree_p0 (hw : db_wf n K X Y Nm) (f g : db_Fs) : ∀ m, m ≤ n → db_agree m (db_it (db_s0 K X Y Nm) m f) (db_it (db_s0 K X Y Nm) m g) := by
  intro m
  induction m with
  | zero => intro _ w hw; omega
  | succ m ih =>
    intro hm
    have h := ih (by omega)
    obtain ⟨h1, h2, h3, h4, h5, h6, -⟩ := hw m (by omega)
    show db_agree (m + 1) (db_s0 K X Y Nm m _) (db_s0 K X Y Nm m _)
    unfold db_s0
    by_cases hk : K m = 13
    · rw [if_pos hk, if_pos hk]
      have q := h (X m) (h4 (by unfold db_ux; omega))
      exact db_agree_put (fun w _ _ => h w (by omega)) (Prod.ext q.1 q.2)
    · rw [if_neg hk, if_neg hk]
      exact db_agree_put (fun w _ _ => h w (by omega)) (db_val_congr hw (by omega) hk (fun w hwm => h w hwm))
theorem db_agree_pass (hw : db_wf n K X Y Nm) {f g : db_Fs} (h : db_agree n f g) : ∀ m, m ≤ n → db_agree n (db_it (db_st K X Y Nm) m f) (db_it (db_st K X Y Nm) m g) := by
  intro m
  induction m with
  | zero => intro _; exact h
  | succ m ih =>
    intro hm
    have q := ih (by omega)
    obtain ⟨h1, h2, h3, h4, h5, h6, -⟩ := hw m (by omega)
    exact db_agree_put (fun w hw _ => q w hw) (db_F_congr (fun _ => q _ h2) (fun _ => q _ h3) (fun _ => q _ (by omega)))
theorem db_agree_P (hw : db_wf n K X Y Nm) (f g : db_Fs) (i : Nat) : db_agree n (db_P n K X Y Nm i f) (db_P n K X Y Nm i g) := by
  induction i with
  | zero => exact db_agree_p0 hw f g n (Nat.le_refl n)
  | succ i ih => exact db_agree_pass hw ih n (Nat.le_refl n)
end
/-- the facts of a function -/
def db_facts (n : Nat) (K X Y : Nat → Nat) (Nm : Nat → Int32) : db_Fs := db_P n K X Y Nm 769 (fun _ => 0, fun _ => 0)
/-- both loops of passes end here: i passes went, and the last one changed nothing -/
theorem db_facts_of {n : Nat} {K X Y : Nat → Nat} {Nm : Nat → Int32} (hw : db_wf n K X Y Nm) (f : db_Fs) {i : Nat} (hi : i ≤ 769) (h : db_P n K X Y Nm (i + 1) f = db_P n K X Y Nm i f) : db_agree n (db_P n K X Y Nm i f) (db_facts n K X Y Nm) := by
  have e := db_P_stay f h 769 hi
  rw [← e]
  exact db_agree_P hw f _ 769
