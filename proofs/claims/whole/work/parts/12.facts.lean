/-! ===== facts: what one value's facts are, of those of its operands ===== -/
theorem db_i2b (x : Int32) {i : Nat} (hi : i < 32) : bt x.toInt8.toInt32 i = bt x (if 7 < i then 7 else i) := by
  unfold bt
  rw [Int8.toBitVec_toInt32, BitVec.getLsbD_signExtend, BitVec.msb_eq_getLsbD_last, Int32.toBitVec_toInt8, BitVec.getLsbD_signExtend, BitVec.getLsbD_signExtend]
  rcases Nat.lt_or_ge i 8 with h | h
  · rw [if_neg (by omega : ¬ 7 < i)]
    simp [hi, h]
  · rw [if_pos (by omega : 7 < i)]
    simp [hi, Nat.not_lt.mpr h]
theorem db_i2s (x : Int32) {i : Nat} (hi : i < 32) : bt x.toInt16.toInt32 i = bt x (if 15 < i then 15 else i) := by
  unfold bt
  rw [Int16.toBitVec_toInt32, BitVec.getLsbD_signExtend, BitVec.msb_eq_getLsbD_last, Int32.toBitVec_toInt16, BitVec.getLsbD_signExtend, BitVec.getLsbD_signExtend]
  rcases Nat.lt_or_ge i 16 with h | h
  · rw [if_neg (by omega : ¬ 15 < i)]
    simp [hi, h]
  · rw [if_pos (by omega : 15 < i)]
    simp [hi, Nat.not_lt.mpr h]
def db_ushr (x d : Int32) : Int32 := (x.toUInt32 >>> (d.toUInt32 &&& Int32.toUInt32 31)).toInt32
theorem db_ushr_bit (x : Int32) {n : Nat} (hn : n < 32) (i : Nat) : bt (db_ushr x (nI n)) i = bt x (n + i) := b_ushr n hn x i
/-- kinds, by the class's numbers: 0 ADD 1 SUB 2 MUL 3 AND 4 OR 5 XOR 6 << 7 >> 8 >>> 9 INPUT 10 CONSTANT 11 BYTE 12 SHORT 13 LOOP -/
def db_F (kd : Nat) (d zx ox zy oy zv ov : Int32) : Int32 × Int32 := match kd with
  | 0 => (db_sumZ zx ox zy oy 0, db_sumO zx ox zy oy 0)
  | 1 => (db_sumZ zx ox oy zy 1, db_sumO zx ox oy zy 1)
  | 2 => (db_mulZ zx ox zy oy, db_mulO zx ox zy oy)
  | 3 => (zx ||| zy, ox &&& oy)
  | 4 => (zx &&& zy, ox ||| oy)
  | 5 => (zx &&& zy ||| ox &&& oy, zx &&& oy ||| ox &&& zy)
  | 6 => (zx <<< (d &&& 31) ||| (((-1 : Int32) <<< (d &&& 31)) ^^^ (-1)), ox <<< (d &&& 31))
  | 7 => (zx >>> (d &&& 31), ox >>> (d &&& 31))
  | 8 => (db_ushr zx d ||| ((db_ushr (-1) d) ^^^ (-1)), db_ushr ox d)
  | 9 => (0, 0)
  | 10 => (d ^^^ (-1), d)
  | 11 => (zx.toInt8.toInt32, ox.toInt8.toInt32)
  | 12 => (zx.toInt16.toInt32, ox.toInt16.toInt32)
  | _ => (zv &&& zx &&& zy, ov &&& ox &&& oy)
def db_shift (k : Nat) : Prop := 6 ≤ k ∧ k ≤ 8
theorem db_ap_swap {z o : Int32} (h : db_ap z o) : db_ap o z := fun i hi => by rw [Bool.and_comm]; exact h i hi
theorem db_F_ap (kd : Nat) (d zx ox zy oy zv ov : Int32) (hd : db_shift kd → ∃ n, n < 32 ∧ d = nI n) (hx : db_ap zx ox) (hy : db_ap zy oy) (hv : db_ap zv ov) :
    db_ap (db_F kd d zx ox zy oy zv ov).1 (db_F kd d zx ox zy oy zv ov).2 := by
  match kd, hd with
  | 0, _ => exact db_sum_ap _ _ _ _ _
  | 1, _ => exact db_sum_ap _ _ _ _ _
  | 2, _ => exact db_mul_ap hx hy
  | 3, _ =>
    intro i hi
    have a := hx i hi; have b := hy i hi
    show (bt (zx ||| zy) i && bt (ox &&& oy) i) = false
    rw [b_or, b_and]
    revert a b
    cases bt zx i <;> cases bt ox i <;> cases bt zy i <;> cases bt oy i <;> simp
  | 4, _ =>
    intro i hi
    have a := hx i hi; have b := hy i hi
    show (bt (zx &&& zy) i && bt (ox ||| oy) i) = false
    rw [b_or, b_and]
    revert a b
    cases bt zx i <;> cases bt ox i <;> cases bt zy i <;> cases bt oy i <;> simp
  | 5, _ =>
    intro i hi
    have a := hx i hi; have b := hy i hi
    show (bt (zx &&& zy ||| ox &&& oy) i && bt (zx &&& oy ||| ox &&& zy) i) = false
    rw [b_or, b_or, b_and, b_and, b_and, b_and]
    revert a b
    cases bt zx i <;> cases bt ox i <;> cases bt zy i <;> cases bt oy i <;> simp
  | 6, hd =>
    obtain ⟨n, hn, rfl⟩ := hd ⟨by omega, by omega⟩
    intro i hi
    show (bt (zx <<< (nI n &&& 31) ||| (((-1 : Int32) <<< (nI n &&& 31)) ^^^ (-1))) i && bt (ox <<< (nI n &&& 31)) i) = false
    rw [b_or, db_not _ hi, b_shl n hn _ hi, b_shl n hn _ hi, b_shl n hn _ hi]
    by_cases h : n ≤ i
    · rw [decide_eq_true h, b_m1 _ (by omega)]
      have a := hx (i - n) (by omega)
      revert a
      cases bt zx (i - n) <;> cases bt ox (i - n) <;> simp
    · rw [decide_eq_false h]; simp
  | 7, hd =>
    obtain ⟨n, hn, rfl⟩ := hd ⟨by omega, by omega⟩
    intro i hi
    show (bt (zx >>> (nI n &&& 31)) i && bt (ox >>> (nI n &&& 31)) i) = false
    rw [b_sshr n hn _ hi, b_sshr n hn _ hi]
    split
    · exact hx _ (by assumption)
    · exact hx _ (by omega)
  | 8, hd =>
    obtain ⟨n, hn, rfl⟩ := hd ⟨by omega, by omega⟩
    intro i hi
    show (bt (db_ushr zx (nI n) ||| ((db_ushr (-1) (nI n)) ^^^ (-1))) i && bt (db_ushr ox (nI n)) i) = false
    rw [b_or, db_not _ hi, db_ushr_bit _ hn, db_ushr_bit _ hn, db_ushr_bit _ hn]
    rcases Nat.lt_or_ge (n + i) 32 with h | h
    · rw [b_m1 _ h]
      have a := hx _ h
      revert a
      cases bt zx (n + i) <;> cases bt ox (n + i) <;> simp
    · rw [b_big h, b_big (x := ox) h]; simp
  | 9, _ =>
    intro i hi
    show (bt 0 i && bt 0 i) = false
    rw [b_0]; rfl
  | 10, _ =>
    intro i hi
    show (bt (d ^^^ (-1)) i && bt d i) = false
    rw [db_not _ hi]
    cases bt d i <;> rfl
  | 11, _ =>
    intro i hi
    show (bt zx.toInt8.toInt32 i && bt ox.toInt8.toInt32 i) = false
    rw [db_i2b _ hi, db_i2b _ hi]
    exact hx _ (by split <;> omega)
  | 12, _ =>
    intro i hi
    show (bt zx.toInt16.toInt32 i && bt ox.toInt16.toInt32 i) = false
    rw [db_i2s _ hi, db_i2s _ hi]
    exact hx _ (by split <;> omega)
  | k + 13, _ =>
    intro i hi
    have a := hv i hi
    show (bt (zv &&& zx &&& zy) i && bt (ov &&& ox &&& oy) i) = false
    rw [b_and, b_and, b_and, b_and]
    revert a
    cases bt zv i <;> cases bt ov i <;> simp
/-- which kinds have an operand x, y -/
def db_ux (k : Nat) : Prop := k ≠ 9 ∧ k ≠ 10
def db_uy (k : Nat) : Prop := k ≤ 5 ∨ 13 ≤ k
theorem db_F_congr {kd : Nat} {d zx ox zy oy zv ov zx' ox' zy' oy' zv' ov' : Int32} (hx : db_ux kd → zx = zx' ∧ ox = ox') (hy : db_uy kd → zy = zy' ∧ oy = oy') (hv : 13 ≤ kd → zv = zv' ∧ ov = ov') :
    db_F kd d zx ox zy oy zv ov = db_F kd d zx' ox' zy' oy' zv' ov' := by
  rcases (by omega : kd = 0 ∨ kd = 1 ∨ kd = 2 ∨ kd = 3 ∨ kd = 4 ∨ kd = 5 ∨ kd = 6 ∨ kd = 7 ∨ kd = 8 ∨ kd = 9 ∨ kd = 10 ∨ kd = 11 ∨ kd = 12 ∨ 13 ≤ kd) with e | e | e | e | e | e | e | e | e | e | e | e | e | e
  · subst e
    obtain ⟨e1, e2⟩ := hx (by unfold db_ux; omega)
    rw [e1, e2]
    obtain ⟨e3, e4⟩ := hy (by unfold db_uy; omega)
    rw [e3, e4]
    simp only [db_F]
  · subst e
    obtain ⟨e1, e2⟩ := hx (by unfold db_ux; omega)
    rw [e1, e2]
    obtain ⟨e3, e4⟩ := hy (by unfold db_uy; omega)
    rw [e3, e4]
    simp only [db_F]
  · subst e
    obtain ⟨e1, e2⟩ := hx (by unfold db_ux; omega)
    rw [e1, e2]
    obtain ⟨e3, e4⟩ := hy (by unfold db_uy; omega)
    rw [e3, e4]
    simp only [db_F]
  · subst e
    obtain ⟨e1, e2⟩ := hx (by unfold db_ux; omega)
    rw [e1, e2]
    obtain ⟨e3, e4⟩ := hy (by unfold db_uy; omega)
    rw [e3, e4]
    simp only [db_F]
  · subst e
    obtain ⟨e1, e2⟩ := hx (by unfold db_ux; omega)
    rw [e1, e2]
    obtain ⟨e3, e4⟩ := hy (by unfold db_uy; omega)
    rw [e3, e4]
    simp only [db_F]
  · subst e
    obtain ⟨e1, e2⟩ := hx (by unfold db_ux; omega)
    rw [e1, e2]
    obtain ⟨e3, e4⟩ := hy (by unfold db_uy; omega)
    rw [e3, e4]
    simp only [db_F]
  · subst e
    obtain ⟨e1, e2⟩ := hx (by unfold db_ux; omega)
    rw [e1, e2]
    simp only [db_F]
  · subst e
    obtain ⟨e1, e2⟩ := hx (by unfold db_ux; omega)
    rw [e1, e2]
    simp only [db_F]
  · subst e
    obtain ⟨e1, e2⟩ := hx (by unfold db_ux; omega)
    rw [e1, e2]
    simp only [db_F]
  · subst e
    simp only [db_F]
  · subst e
    simp only [db_F]
  · subst e
    obtain ⟨e1, e2⟩ := hx (by unfold db_ux; omega)
    rw [e1, e2]
    simp only [db_F]
  · subst e
    obtain ⟨e1, e2⟩ := hx (by unfold db_ux; omega)
    rw [e1, e2]
    simp only [db_F]
  · obtain ⟨e1, e2⟩ := hx (by unfold db_ux; omega)
    obtain ⟨e3, e4⟩ := hy (by unfold db_uy; omega)
    obtain ⟨e5, e6⟩ := hv e
    rw [e1, e2, e3, e4, e5, e6]
/-! ===== passes ===== -/
def db_it {σ : Type} (f : Nat → σ → σ) : Nat → σ → σ
  | 0, s => s
  | n + 1, s => f n (db_it f n s)
abbrev db_Fs : Type := (Nat → Int32) × (Nat → Int32)
def db_val (K X Y : Nat → Nat) (Nm : Nat → Int32) (v : Nat) (f : db_Fs) : Int32 × Int32 :=
  db_F (K v) (Nm v) (f.1 (X v)) (f.2 (X v)) (f.1 (Y v)) (f.2 (Y v)) (f.1 v) (f.2 v)
def db_put (f : db_Fs) (v : Nat) (r : Int32 × Int32) : db_Fs := (upd f.1 v r.1, upd f.2 v r.2)
def db_st (K X Y : Nat → Nat) (Nm : Nat → Int32) (v : Nat) (f : db_Fs) : db_Fs := db_put f v (db_val K X Y Nm v f)
def db_s0 (K X Y : Nat → Nat) (Nm : Nat → Int32) (v : Nat) (f : db_Fs) : db_Fs :=
  if K v = 13 then db_put f v (f.1 (X v), f.2 (X v)) else db_st K X Y Nm v f
/-- well made: operands in range, those of a value that isn't a LOOP before it -/
def db_wf (n : Nat) (K X Y : Nat → Nat) (Nm : Nat → Int32) : Prop := ∀ v, v < n → K v ≤ 13 ∧ X v < n ∧ Y v < n ∧ (db_ux (K v) → X v < v) ∧ (K v ≤ 5 → Y v < v) ∧ (db_shift (K v) → ∃ d, d < 32 ∧ Nm v = nI d) ∧ (K v = 9 → ∃ d, d < 3 ∧ Nm v = nI d)
theorem db_put_s1 (f : db_Fs) (v : Nat) (r : Int32 × Int32) : (db_put f v r).1 v = r.1 := pk_us
theorem db_put_s2 (f : db_Fs) (v : Nat) (r : Int32 × Int32) : (db_put f v r).2 v = r.2 := pk_us
theorem db_put_n1 {f : db_Fs} {v w : Nat} {r : Int32 × Int32} (h : w ≠ v) : (db_put f v r).1 w = f.1 w := pk_un h
theorem db_put_n2 {f : db_Fs} {v w : Nat} {r : Int32 × Int32} (h : w ≠ v) : (db_put f v r).2 w = f.2 w := pk_un h
section
variable {n : Nat} {K X Y : Nat → Nat} {Nm : Nat → Int32}
theorem db_s0_n {f : db_Fs} {v w : Nat} (h : w ≠ v) : (db_s0 K X Y Nm v f).1 w = f.1 w ∧ (db_s0 K X Y Nm v f).2 w = f.2 w := by
  unfold db_s0
  split
  · exact ⟨db_put_n1 h, db_put_n2 h⟩
  · exact ⟨db_put_n1 h, db_put_n2 h⟩
theorem db_it_n {g : Nat → db_Fs → db_Fs} (hg : ∀ v f w, w ≠ v → (g v f).1 w = f.1 w ∧ (g v f).2 w = f.2 w) (f : db_Fs) : ∀ m w, m ≤ w → (db_it g m f).1 w = f.1 w ∧ (db_it g m f).2 w = f.2 w := by
  intro m
  induction m with
  | zero => intro w _; exact ⟨rfl, rfl⟩
  | succ m ih =>
    intro w hw
    have a := hg m (db_it g m f) w (by omega)
    have b := ih w (by omega)
    exact ⟨a.1.trans b.1, a.2.trans b.2⟩
theorem db_st_n {f : db_Fs} {v w : Nat} (h : w ≠ v) : (db_st K X Y Nm v f).1 w = f.1 w ∧ (db_st K X Y Nm v f).2 w = f.2 w := ⟨db_put_n1 h, db_put_n2 h⟩
def db_cons (K X Y : Nat → Nat) (Nm : Nat → Int32) (m : Nat) (f : db_Fs) : Prop := ∀ v, v < m → K v ≠ 13 → (f.1 v, f.2 v) = db_val K X Y Nm v f
theorem db_val_congr (hw : db_wf n K X Y Nm) {v : Nat} (hv : v < n) (hk : K v ≠ 13) {f g : db_Fs} (h : ∀ w, w < v → f.1 w = g.1 w ∧ f.2 w = g.2 w) : db_val K X Y Nm v f = db_val K X Y Nm v g := by
  obtain ⟨h1, h2, h3, h4, h5, -, -⟩ := hw v hv
  refine db_F_congr (fun u => h _ (h4 u)) (fun u => h _ (h5 ?_)) (fun u => ?_)
  · unfold db_uy at u; omega
  · omega
theorem db_cons_it (hw : db_wf n K X Y Nm) {g : Nat → db_Fs → db_Fs} (hg : ∀ v f w, w ≠ v → (g v f).1 w = f.1 w ∧ (g v f).2 w = f.2 w) (hs : ∀ v f, K v ≠ 13 → g v f = db_st K X Y Nm v f) (f : db_Fs) : ∀ m, m ≤ n → db_cons K X Y Nm m (db_it g m f) := by
  intro m
  induction m with
  | zero => intro _ v hv; omega
  | succ m ih =>
    intro hm v hv hk
    show ((g m (db_it g m f)).1 v, (g m (db_it g m f)).2 v) = db_val K X Y Nm v (g m (db_it g m f))
    have e : db_val K X Y Nm v (g m (db_it g m f)) = db_val K X Y Nm v (db_it g m f) := db_val_congr hw (by omega) hk (fun w hwv => hg m _ w (by omega))
    rw [e]
    rcases Nat.lt_or_ge v m with q | q
    · rw [← ih (by omega) v q hk, (hg m (db_it g m f) v (by omega)).1, (hg m (db_it g m f) v (by omega)).2]
    · have e2 : v = m := by omega
      subst e2
      rw [hs v _ hk]
      show ((db_put _ v _).1 v, (db_put _ v _).2 v) = _
      rw [db_put_s1, db_put_s2]
def db_pass (n : Nat) (K X Y : Nat → Nat) (Nm : Nat → Int32) (f : db_Fs) : db_Fs := db_it (db_st K X Y Nm) n f
def db_p0 (n : Nat) (K X Y : Nat → Nat) (Nm : Nat → Int32) (f : db_Fs) : db_Fs := db_it (db_s0 K X Y Nm) n f
theorem db_cons_pass (hw : db_wf n K X Y Nm) (f : db_Fs) : db_cons K X Y Nm n (db_pass n K X Y Nm f) := db_cons_it hw (fun _ _ _ h => db_st_n h) (fun _ _ _ => rfl) f n (Nat.le_refl n)
theorem db_cons_p0 (hw : db_wf n K X Y Nm) (f : db_Fs) : db_cons K X Y Nm n (db_p0 n K X Y Nm f) := db_cons_it hw (fun _ _ _ h => db_s0_n h) (fun v f h => if_neg h) f n (Nat.le_refl n)
theorem db_put_same {f : db_Fs} {v : Nat} {r : Int32 × Int32} (h : r = (f.1 v, f.2 v)) : db_put f v r = f := by
  subst h
  unfold db_put upd
  refine Prod.ext (funext fun j => ?_) (funext fun j => ?_)
  · show (if j = v then f.1 v else f.1 j) = f.1 j
    split
    · rename_i q; rw [q]
    · rfl
  · show (if j = v then f.2 v else f.2 j) = f.2 j
    split
    · rename_i q; rw [q]
    · rfl
/-- behind a pass of which no LOOP came out otherwise, nothing came out otherwise -/
theorem db_stable {f : db_Fs} (hc : db_cons K X Y Nm n f) (hl : ∀ v, v < n → K v = 13 → ((db_pass n K X Y Nm f).1 v, (db_pass n K X Y Nm f).2 v) = (f.1 v, f.2 v)) : db_pass n K X Y Nm f = f := by
  have key : ∀ m, m ≤ n → db_it (db_st K X Y Nm) m f = f := by
    intro m
    induction m with
    | zero => intro _; rfl
    | succ m ih =>
      intro hm
      show db_st K X Y Nm m (db_it (db_st K X Y Nm) m f) = f
      rw [ih (by omega)]
      refine db_put_same ?_
      by_cases hk : K m = 13
      · rw [← hl m (by omega) hk]
        have e : ∀ m', m + 1 ≤ m' → m' ≤ n → ((db_it (db_st K X Y Nm) m' f).1 m, (db_it (db_st K X Y Nm) m' f).2 m) = db_val K X Y Nm m f := by
          intro m'
          induction m' with
          | zero => intro h _; omega
          | succ m' ih' =>
            intro h1 h2
            rcases Nat.lt_or_ge m m' with q | q
            · rw [← ih' (by omega) (by omega)]
              show ((db_st K X Y Nm m' (db_it (db_st K X Y Nm) m' f)).1 m, (db_st K X Y Nm m' (db_it (db_st K X Y Nm) m' f)).2 m) = _
              rw [(db_st_n (K := K) (X := X) (Y := Y) (Nm := Nm) (by omega : m ≠ m')).1, (db_st_n (K := K) (X := X) (Y := Y) (Nm := Nm) (by omega : m ≠ m')).2]
            · have e3 : m' = m := by omega
              subst e3
              show ((db_st K X Y Nm m' (db_it (db_st K X Y Nm) m' f)).1 m', (db_st K X Y Nm m' (db_it (db_st K X Y Nm) m' f)).2 m') = _
              rw [ih (by omega)]
              show ((db_put f m' _).1 m', (db_put f m' _).2 m') = _
              rw [db_put_s1, db_put_s2]
        exact (e n (by omega) (Nat.le_refl n)).symm
      · exact (hc m (by omega) hk).symm
  exact key n (Nat.le_refl n)
end
