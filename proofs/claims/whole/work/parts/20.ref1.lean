set_option maxRecDepth 100000 in
set_option maxHeartbeats 4000000 in
theorem rf_bit (l : Launch) (dC : Nat → ClassId) (dI : Nat → Nat → Nat) (cI cZ : ClassId) (x k : Int32) (sz : Nat)  : Met l yM_bit wsM_bit { frames := 0, cells := 0, slots := 0, locals := 0 } (va_Pc [.int (x), .int (k)] (dw_pre (dC, dI) vwCl [] [(cI, .int), (cZ, .boolean)] sz)) (va_Qi (fun (r : Int32) (u : Unit) => r = (x >>> (k &&& 31)) &&& 1) (fun u t => dw_post (dC, dI) vwCl [] [(cI, .int), (cZ, .boolean)] (va_A [] sz) t) (va_A [] sz)) 0 0 (va_A [] sz) := by
  refine Met.ofW (cc := cM_bit) (maxL := 2) (ret := (some .int)) (by decide) rfl ?_
  intro p e s m args below meth c s₁ B hml hv0
  have hx := B.exec
  have hb := B.bytes
  have hr := B.returns
  have hts := atoms_spec (ws := wsM_bit) B.pre
  have hown : s.vm.findClass RM = some m.cls := findClass_of_methodNamed B.named
  have hlocks := B.notSynchronized
  obtain ⟨rfl, hsz, hG⟩ := dw_enter hv0
  generalize va_A [] sz = A at hG ⊢
  have hl := lv_entry ([.int (x), .int (k)]) (n := 2) (Nat.le_of_ble_eq_true rfl)
  rw [lg_entry_eq]
  generalize (lg_sl ([.int (x), .int (k)]) ++ List.replicate (2 - (lg_sl ([.int (x), .int (k)])).length) Slot.unset).toArray = ls at hl ⊢
  have hl : lv_has ls 2 [(0, .int (x)), (1, .int (k))] := hl
  refine dw_Q (fun Q hQ => ?_)
  suffices hgo : ∀ (H : Heap) (locs : List Loc), dw_G (dC, dI) vwCl [(cI, .int), (cZ, .boolean)] A s.heap s [] H locs → W p l e (headSpec wsM_bit { frames := 0, cells := 0, slots := 0, locals := 0 }).room s m [.int (x), .int (k)].toArray below meth c H locs 0 0 Q (F0 m 0 ls []) from hgo _ _ hG
  clear hG
  intro H locs hG
  refine lv_iload_n hx hb dM_bit_0 rfl (lv_at hl 0 rfl) ?_
  refine lv_iload_n hx hb dM_bit_1 rfl (lv_at hl 1 rfl) ?_
  refine lv_ishr hx hb dM_bit_2 ?_
  refine lv_iconst (v := 1) hx hb dM_bit_3 (by decide) ?_
  refine lv_iand hx hb dM_bit_4 ?_
  subst hQ
  exact dw_iret hx hb hr hG (()) rfl rfl dM_bit_5 hlocks

set_option maxRecDepth 100000 in
set_option maxHeartbeats 4000000 in
theorem rf_turned (l : Launch) (dC : Nat → ClassId) (dI : Nat → Nat → Nat) (cI cZ : ClassId) (a : Int32) (sz : Nat)  : Met l yM_turned wsM_turned { frames := 0, cells := 0, slots := 0, locals := 0 } (va_Pc [.int (a)] (dw_pre (dC, dI) vwCl [] [(cI, .int), (cZ, .boolean)] sz)) (va_Qi (fun (r : Int32) (u : Unit) => r = db_turn a) (fun u t => dw_post (dC, dI) vwCl [] [(cI, .int), (cZ, .boolean)] (va_A [] sz) t) (va_A [] sz)) 0 0 (va_A [] sz) := by
  refine Met.ofW (cc := cM_turned) (maxL := 1) (ret := (some .int)) (by decide) rfl ?_
  intro p e s m args below meth c s₁ B hml hv0
  have hx := B.exec
  have hb := B.bytes
  have hr := B.returns
  have hts := atoms_spec (ws := wsM_turned) B.pre
  have hown : s.vm.findClass RM = some m.cls := findClass_of_methodNamed B.named
  have hlocks := B.notSynchronized
  obtain ⟨rfl, hsz, hG⟩ := dw_enter hv0
  generalize va_A [] sz = A at hG ⊢
  have hl := lv_entry ([.int (a)]) (n := 1) (Nat.le_of_ble_eq_true rfl)
  rw [lg_entry_eq]
  generalize (lg_sl ([.int (a)]) ++ List.replicate (1 - (lg_sl ([.int (a)])).length) Slot.unset).toArray = ls at hl ⊢
  have hl : lv_has ls 1 [(0, .int (a))] := hl
  refine dw_Q (fun Q hQ => ?_)
  suffices hgo : ∀ (H : Heap) (locs : List Loc), dw_G (dC, dI) vwCl [(cI, .int), (cZ, .boolean)] A s.heap s [] H locs → W p l e (headSpec wsM_turned { frames := 0, cells := 0, slots := 0, locals := 0 }).room s m [.int (a)].toArray below meth c H locs 0 0 Q (F0 m 0 ls []) from hgo _ _ hG
  clear hG
  intro H locs hG
  refine lv_iload_n hx hb dM_turned_0 rfl (lv_at hl 0 rfl) ?_
  refine lv_iconst (v := 2) hx hb dM_turned_1 (by decide) ?_
  refine lv_icmp_ne (tgt := 9) hx hb dM_turned_2 (by decide) (fun h2 => ?_) (fun h2 => ?_)
  · skip
    refine lv_iconst (v := 1) hx hb dM_turned_9 (by decide) ?_
    refine lv_iload_n hx hb dM_turned_10 rfl (lv_at hl 0 rfl) ?_
    refine lv_isub hx hb dM_turned_11 ?_
    subst hQ
    exact dw_iret hx hb hr hG (()) rfl (by unfold db_turn; simp_all) dM_turned_12 hlocks
  refine lv_iconst (v := 2) hx hb dM_turned_5 (by decide) ?_
  refine lv_goto (tgt := 12) hx hb dM_turned_6 (by decide) ?_
  subst hQ
  exact dw_iret hx hb hr hG (()) rfl (by unfold db_turn; simp_all) dM_turned_12 hlocks

set_option maxRecDepth 100000 in
set_option maxHeartbeats 4000000 in
theorem rf_and (l : Launch) (dC : Nat → ClassId) (dI : Nat → Nat → Nat) (cI cZ : ClassId) (a b : Int32) (sz : Nat)  : Met l yM_and wsM_and { frames := 0, cells := 0, slots := 0, locals := 0 } (va_Pc [.int (a), .int (b)] (dw_pre (dC, dI) vwCl [] [(cI, .int), (cZ, .boolean)] sz)) (va_Qi (fun (r : Int32) (u : Unit) => r = db_and3 a b) (fun u t => dw_post (dC, dI) vwCl [] [(cI, .int), (cZ, .boolean)] (va_A [] sz) t) (va_A [] sz)) 0 0 (va_A [] sz) := by
  refine Met.ofW (cc := cM_and) (maxL := 2) (ret := (some .int)) (by decide) rfl ?_
  intro p e s m args below meth c s₁ B hml hv0
  have hx := B.exec
  have hb := B.bytes
  have hr := B.returns
  have hts := atoms_spec (ws := wsM_and) B.pre
  have hown : s.vm.findClass RM = some m.cls := findClass_of_methodNamed B.named
  have hlocks := B.notSynchronized
  obtain ⟨rfl, hsz, hG⟩ := dw_enter hv0
  generalize va_A [] sz = A at hG ⊢
  have hl := lv_entry ([.int (a), .int (b)]) (n := 2) (Nat.le_of_ble_eq_true rfl)
  rw [lg_entry_eq]
  generalize (lg_sl ([.int (a), .int (b)]) ++ List.replicate (2 - (lg_sl ([.int (a), .int (b)])).length) Slot.unset).toArray = ls at hl ⊢
  have hl : lv_has ls 2 [(0, .int (a)), (1, .int (b))] := hl
  refine dw_Q (fun Q hQ => ?_)
  suffices hgo : ∀ (H : Heap) (locs : List Loc), dw_G (dC, dI) vwCl [(cI, .int), (cZ, .boolean)] A s.heap s [] H locs → W p l e (headSpec wsM_and { frames := 0, cells := 0, slots := 0, locals := 0 }).room s m [.int (a), .int (b)].toArray below meth c H locs 0 0 Q (F0 m 0 ls []) from hgo _ _ hG
  clear hG
  intro H locs hG
  refine lv_iload_n hx hb dM_and_0 rfl (lv_at hl 0 rfl) ?_
  refine lv_if_eq (tgt := 8) hx hb dM_and_1 (by decide) (fun h1 => ?_) (fun h1 => ?_)
  · skip
    refine lv_iconst (v := 0) hx hb dM_and_8 (by decide) ?_
    refine lv_goto (tgt := 27) hx hb dM_and_9 (by decide) ?_
    subst hQ
    exact dw_iret hx hb hr hG (()) rfl (by unfold db_and3; simp_all) dM_and_27 hlocks
  refine lv_iload_n hx hb dM_and_4 rfl (lv_at hl 1 rfl) ?_
  refine lv_if_ne (tgt := 12) hx hb dM_and_5 (by decide) (fun h5 => ?_) (fun h5 => ?_)
  · skip
    refine lv_iload_n hx hb dM_and_12 rfl (lv_at hl 0 rfl) ?_
    refine lv_iconst (v := 1) hx hb dM_and_13 (by decide) ?_
    refine lv_icmp_ne (tgt := 26) hx hb dM_and_14 (by decide) (fun h14 => ?_) (fun h14 => ?_)
    · skip
      refine lv_iconst (v := 2) hx hb dM_and_26 (by decide) ?_
      subst hQ
      exact dw_iret hx hb hr hG (()) rfl (by unfold db_and3; simp_all) dM_and_27 hlocks
    refine lv_iload_n hx hb dM_and_17 rfl (lv_at hl 1 rfl) ?_
    refine lv_iconst (v := 1) hx hb dM_and_18 (by decide) ?_
    refine lv_icmp_ne (tgt := 26) hx hb dM_and_19 (by decide) (fun h19 => ?_) (fun h19 => ?_)
    · skip
      refine lv_iconst (v := 2) hx hb dM_and_26 (by decide) ?_
      subst hQ
      exact dw_iret hx hb hr hG (()) rfl (by unfold db_and3; simp_all) dM_and_27 hlocks
    refine lv_iconst (v := 1) hx hb dM_and_22 (by decide) ?_
    refine lv_goto (tgt := 27) hx hb dM_and_23 (by decide) ?_
    subst hQ
    exact dw_iret hx hb hr hG (()) rfl (by unfold db_and3; simp_all) dM_and_27 hlocks
  refine lv_iconst (v := 0) hx hb dM_and_8 (by decide) ?_
  refine lv_goto (tgt := 27) hx hb dM_and_9 (by decide) ?_
  subst hQ
  exact dw_iret hx hb hr hG (()) rfl (by unfold db_and3; simp_all) dM_and_27 hlocks

set_option maxRecDepth 100000 in
set_option maxHeartbeats 4000000 in
theorem rf_sum (l : Launch) (dC : Nat → ClassId) (dI : Nat → Nat → Nat) (cI cZ : ClassId) (a b c9 : Int32) (sz : Nat)  : Met l yM_sum wsM_sum { frames := 0, cells := 0, slots := 0, locals := 0 } (va_Pc [.int (a), .int (b), .int (c9)] (dw_pre (dC, dI) vwCl [] [(cI, .int), (cZ, .boolean)] sz)) (va_Qi (fun (r : Int32) (u : Unit) => r = db_sum3 a b c9) (fun u t => dw_post (dC, dI) vwCl [] [(cI, .int), (cZ, .boolean)] (va_A [] sz) t) (va_A [] sz)) 0 0 (va_A [] sz) := by
  refine Met.ofW (cc := cM_sum) (maxL := 3) (ret := (some .int)) (by decide) rfl ?_
  intro p e s m args below meth c s₁ B hml hv0
  have hx := B.exec
  have hb := B.bytes
  have hr := B.returns
  have hts := atoms_spec (ws := wsM_sum) B.pre
  have hown : s.vm.findClass RM = some m.cls := findClass_of_methodNamed B.named
  have hlocks := B.notSynchronized
  obtain ⟨rfl, hsz, hG⟩ := dw_enter hv0
  generalize va_A [] sz = A at hG ⊢
  have hl := lv_entry ([.int (a), .int (b), .int (c9)]) (n := 3) (Nat.le_of_ble_eq_true rfl)
  rw [lg_entry_eq]
  generalize (lg_sl ([.int (a), .int (b), .int (c9)]) ++ List.replicate (3 - (lg_sl ([.int (a), .int (b), .int (c9)])).length) Slot.unset).toArray = ls at hl ⊢
  have hl : lv_has ls 3 [(0, .int (a)), (1, .int (b)), (2, .int (c9))] := hl
  refine dw_Q (fun Q hQ => ?_)
  suffices hgo : ∀ (H : Heap) (locs : List Loc), dw_G (dC, dI) vwCl [(cI, .int), (cZ, .boolean)] A s.heap s [] H locs → W p l e (headSpec wsM_sum { frames := 0, cells := 0, slots := 0, locals := 0 }).room s m [.int (a), .int (b), .int (c9)].toArray below meth c H locs 0 0 Q (F0 m 0 ls []) from hgo _ _ hG
  clear hG
  intro H locs hG
  refine lv_iload_n hx hb dM_sum_0 rfl (lv_at hl 0 rfl) ?_
  refine lv_iconst (v := 2) hx hb dM_sum_1 (by decide) ?_
  refine lv_icmp_eq (tgt := 15) hx hb dM_sum_2 (by decide) (fun h2 => ?_) (fun h2 => ?_)
  · skip
    refine lv_iconst (v := 2) hx hb dM_sum_15 (by decide) ?_
    refine lv_goto (tgt := 26) hx hb dM_sum_16 (by decide) ?_
    subst hQ
    exact dw_iret hx hb hr hG (()) rfl (by unfold db_sum3; simp_all) dM_sum_26 hlocks
  refine lv_iload_n hx hb dM_sum_5 rfl (lv_at hl 1 rfl) ?_
  refine lv_iconst (v := 2) hx hb dM_sum_6 (by decide) ?_
  refine lv_icmp_eq (tgt := 15) hx hb dM_sum_7 (by decide) (fun h7 => ?_) (fun h7 => ?_)
  · skip
    refine lv_iconst (v := 2) hx hb dM_sum_15 (by decide) ?_
    refine lv_goto (tgt := 26) hx hb dM_sum_16 (by decide) ?_
    subst hQ
    exact dw_iret hx hb hr hG (()) rfl (by unfold db_sum3; simp_all) dM_sum_26 hlocks
  refine lv_iload_n hx hb dM_sum_10 rfl (lv_at hl 2 rfl) ?_
  refine lv_iconst (v := 2) hx hb dM_sum_11 (by decide) ?_
  refine lv_icmp_ne (tgt := 19) hx hb dM_sum_12 (by decide) (fun h12 => ?_) (fun h12 => ?_)
  · skip
    refine lv_iload_n hx hb dM_sum_19 rfl (lv_at hl 0 rfl) ?_
    refine lv_iload_n hx hb dM_sum_20 rfl (lv_at hl 1 rfl) ?_
    refine lv_iadd hx hb dM_sum_21 ?_
    refine lv_iload_n hx hb dM_sum_22 rfl (lv_at hl 2 rfl) ?_
    refine lv_iadd hx hb dM_sum_23 ?_
    refine lv_iconst (v := 2) hx hb dM_sum_24 (by decide) ?_
    refine lv_irem hx hb dM_sum_25 (by decide) ?_
    subst hQ
    exact dw_iret hx hb hr hG (()) rfl (by unfold db_sum3; simp_all) dM_sum_26 hlocks
  refine lv_iconst (v := 2) hx hb dM_sum_15 (by decide) ?_
  refine lv_goto (tgt := 26) hx hb dM_sum_16 (by decide) ?_
  subst hQ
  exact dw_iret hx hb hr hG (()) rfl (by unfold db_sum3; simp_all) dM_sum_26 hlocks

set_option maxRecDepth 100000 in
set_option maxHeartbeats 4000000 in
theorem rf_carry (l : Launch) (dC : Nat → ClassId) (dI : Nat → Nat → Nat) (cI cZ : ClassId) (a b c9 : Int32) (sz : Nat)  : Met l yM_carry wsM_carry { frames := 0, cells := 0, slots := 0, locals := 0 } (va_Pc [.int (a), .int (b), .int (c9)] (dw_pre (dC, dI) vwCl [] [(cI, .int), (cZ, .boolean)] sz)) (va_Qi (fun (r : Int32) (u : Unit) => r = db_car3 a b c9) (fun u t => dw_post (dC, dI) vwCl [] [(cI, .int), (cZ, .boolean)] (va_A [] sz) t) (va_A [] sz)) 0 0 (va_A [] sz) := by
  refine Met.ofW (cc := cM_carry) (maxL := 5) (ret := (some .int)) (by decide) rfl ?_
  intro p e s m args below meth c s₁ B hml hv0
  have hx := B.exec
  have hb := B.bytes
  have hr := B.returns
  have hts := atoms_spec (ws := wsM_carry) B.pre
  have hown : s.vm.findClass RM = some m.cls := findClass_of_methodNamed B.named
  have hlocks := B.notSynchronized
  obtain ⟨rfl, hsz, hG⟩ := dw_enter hv0
  generalize va_A [] sz = A at hG ⊢
  have hl := lv_entry ([.int (a), .int (b), .int (c9)]) (n := 5) (Nat.le_of_ble_eq_true rfl)
  rw [lg_entry_eq]
  generalize (lg_sl ([.int (a), .int (b), .int (c9)]) ++ List.replicate (5 - (lg_sl ([.int (a), .int (b), .int (c9)])).length) Slot.unset).toArray = ls at hl ⊢
  have hl : lv_has ls 5 [(0, .int (a)), (1, .int (b)), (2, .int (c9))] := hl
  refine dw_Q (fun Q hQ => ?_)
  suffices hgo : ∀ (H : Heap) (locs : List Loc), dw_G (dC, dI) vwCl [(cI, .int), (cZ, .boolean)] A s.heap s [] H locs → W p l e (headSpec wsM_carry { frames := 0, cells := 0, slots := 0, locals := 0 }).room s m [.int (a), .int (b), .int (c9)].toArray below meth c H locs 0 0 Q (F0 m 0 ls []) from hgo _ _ hG
  clear hG
  intro H locs hG
  refine lv_iload_n hx hb dM_carry_0 rfl (lv_at hl 0 rfl) ?_
  suffices hj : W p l e (headSpec wsM_carry { frames := 0, cells := 0, slots := 0, locals := 0 }).room s m [.int (a), .int (b), .int (c9)].toArray below meth c H locs 0 0 Q (F0 m 9 ls [.int (if a = 0 then (1 : Int32) else 0)]) by
    refine lv_if_ne (tgt := 8) hx hb dM_carry_1 (by decide) (fun hc => ?_) (fun hc => ?_)
    · rw [if_neg hc] at hj
      refine lv_iconst (v := 0) hx hb dM_carry_8 (by decide) ?_
      exact hj
    · rw [if_pos hc] at hj
      refine lv_iconst (v := 1) hx hb dM_carry_4 (by decide) ?_
      refine lv_goto (tgt := 9) hx hb dM_carry_5 (by decide) ?_
      exact hj
  refine lv_iload_n hx hb dM_carry_9 rfl (lv_at hl 1 rfl) ?_
  suffices hj : W p l e (headSpec wsM_carry { frames := 0, cells := 0, slots := 0, locals := 0 }).room s m [.int (a), .int (b), .int (c9)].toArray below meth c H locs 0 0 Q (F0 m 18 ls [.int (if b = 0 then (1 : Int32) else 0), .int (if a = 0 then (1 : Int32) else 0)]) by
    refine lv_if_ne (tgt := 17) hx hb dM_carry_10 (by decide) (fun hc => ?_) (fun hc => ?_)
    · rw [if_neg hc] at hj
      refine lv_iconst (v := 0) hx hb dM_carry_17 (by decide) ?_
      exact hj
    · rw [if_pos hc] at hj
      refine lv_iconst (v := 1) hx hb dM_carry_13 (by decide) ?_
      refine lv_goto (tgt := 18) hx hb dM_carry_14 (by decide) ?_
      exact hj
  refine lv_iadd hx hb dM_carry_18 ?_
  refine lv_iload_n hx hb dM_carry_19 rfl (lv_at hl 2 rfl) ?_
  suffices hj : W p l e (headSpec wsM_carry { frames := 0, cells := 0, slots := 0, locals := 0 }).room s m [.int (a), .int (b), .int (c9)].toArray below meth c H locs 0 0 Q (F0 m 28 ls [.int (if c9 = 0 then (1 : Int32) else 0), .int ((if a = 0 then (1 : Int32) else 0) + (if b = 0 then (1 : Int32) else 0))]) by
    refine lv_if_ne (tgt := 27) hx hb dM_carry_20 (by decide) (fun hc => ?_) (fun hc => ?_)
    · rw [if_neg hc] at hj
      refine lv_iconst (v := 0) hx hb dM_carry_27 (by decide) ?_
      exact hj
    · rw [if_pos hc] at hj
      refine lv_iconst (v := 1) hx hb dM_carry_23 (by decide) ?_
      refine lv_goto (tgt := 28) hx hb dM_carry_24 (by decide) ?_
      exact hj
  refine lv_iadd hx hb dM_carry_28 ?_
  refine lv_istore_n (lv' := [(3, .int (((if a = 0 then (1 : Int32) else 0) + (if b = 0 then (1 : Int32) else 0)) + (if c9 = 0 then (1 : Int32) else 0))), (0, .int (a)), (1, .int (b)), (2, .int (c9))]) hx hb dM_carry_29 rfl hl (by decide) rfl (fun ls hl => ?_)
  refine lv_iload_n hx hb dM_carry_30 rfl (lv_at hl 1 rfl) ?_
  refine lv_iconst (v := 1) hx hb dM_carry_31 (by decide) ?_
  suffices hj : W p l e (headSpec wsM_carry { frames := 0, cells := 0, slots := 0, locals := 0 }).room s m [.int (a), .int (b), .int (c9)].toArray below meth c H locs 0 0 Q (F0 m 40 ls [.int (if a = 1 then (1 : Int32) else 0)]) by
    refine lv_icmp_ne (tgt := 39) hx hb dM_carry_32 (by decide) (fun hc => ?_) (fun hc => ?_)
    · rw [if_neg hc] at hj
      refine lv_iconst (v := 0) hx hb dM_carry_39 (by decide) ?_
      exact hj
    · rw [if_pos hc] at hj
      refine lv_iconst (v := 1) hx hb dM_carry_35 (by decide) ?_
      refine lv_goto (tgt := 40) hx hb dM_carry_36 (by decide) ?_
      exact hj
  refine lv_iload_n hx hb dM_carry_40 rfl (lv_at hl 2 rfl) ?_
  refine lv_iconst (v := 1) hx hb dM_carry_41 (by decide) ?_
  suffices hj : W p l e (headSpec wsM_carry { frames := 0, cells := 0, slots := 0, locals := 0 }).room s m [.int (a), .int (b), .int (c9)].toArray below meth c H locs 0 0 Q (F0 m 50 ls [.int (if b = 1 then (1 : Int32) else 0), .int (if a = 1 then (1 : Int32) else 0)]) by
    refine lv_icmp_ne (tgt := 49) hx hb dM_carry_42 (by decide) (fun hc => ?_) (fun hc => ?_)
    · rw [if_neg hc] at hj
      refine lv_iconst (v := 0) hx hb dM_carry_49 (by decide) ?_
      exact hj
    · rw [if_pos hc] at hj
      refine lv_iconst (v := 1) hx hb dM_carry_45 (by decide) ?_
      refine lv_goto (tgt := 50) hx hb dM_carry_46 (by decide) ?_
      exact hj
  refine lv_iadd hx hb dM_carry_50 ?_
  refine lv_iload_n hx hb dM_carry_51 rfl (lv_at hl 3 rfl) ?_
  refine lv_iconst (v := 1) hx hb dM_carry_52 (by decide) ?_
  suffices hj : W p l e (headSpec wsM_carry { frames := 0, cells := 0, slots := 0, locals := 0 }).room s m [.int (a), .int (b), .int (c9)].toArray below meth c H locs 0 0 Q (F0 m 61 ls [.int (if c9 = 1 then (1 : Int32) else 0), .int ((if a = 1 then (1 : Int32) else 0) + (if b = 1 then (1 : Int32) else 0))]) by
    refine lv_icmp_ne (tgt := 60) hx hb dM_carry_53 (by decide) (fun hc => ?_) (fun hc => ?_)
    · rw [if_neg hc] at hj
      refine lv_iconst (v := 0) hx hb dM_carry_60 (by decide) ?_
      exact hj
    · rw [if_pos hc] at hj
      refine lv_iconst (v := 1) hx hb dM_carry_56 (by decide) ?_
      refine lv_goto (tgt := 61) hx hb dM_carry_57 (by decide) ?_
      exact hj
  refine lv_iadd hx hb dM_carry_61 ?_
  refine lv_istore (lv' := [(4, .int (((if a = 1 then (1 : Int32) else 0) + (if b = 1 then (1 : Int32) else 0)) + (if c9 = 1 then (1 : Int32) else 0))), (3, .int (((if a = 0 then (1 : Int32) else 0) + (if b = 0 then (1 : Int32) else 0)) + (if c9 = 0 then (1 : Int32) else 0))), (0, .int (a)), (1, .int (b)), (2, .int (c9))]) hx hb dM_carry_62 hl (by decide) rfl (fun ls hl => ?_)
  refine lv_iload_n hx hb dM_carry_64 rfl (lv_at hl 1 rfl) ?_
  refine lv_iconst (v := 1) hx hb dM_carry_65 (by decide) ?_
  refine lv_icmp_le (tgt := 73) hx hb dM_carry_66 (by decide) (fun h66 => ?_) (fun h66 => ?_)
  · skip
    refine lv_iload hx hb dM_carry_73 (lv_at hl 0 rfl) ?_
    refine lv_iconst (v := 1) hx hb dM_carry_75 (by decide) ?_
    refine lv_icmp_le (tgt := 83) hx hb dM_carry_76 (by decide) (fun h76 => ?_) (fun h76 => ?_)
    · skip
      refine lv_iconst (v := 2) hx hb dM_carry_83 (by decide) ?_
      subst hQ
      exact dw_iret hx hb hr hG (()) rfl (by unfold db_car3; exact ((if_neg (Int32.not_lt.mpr h66)).trans (if_neg (Int32.not_lt.mpr h76))).symm) dM_carry_84 hlocks
    refine lv_iconst (v := 1) hx hb dM_carry_79 (by decide) ?_
    refine lv_goto (tgt := 84) hx hb dM_carry_80 (by decide) ?_
    subst hQ
    exact dw_iret hx hb hr hG (()) rfl (by unfold db_car3; exact ((if_neg (Int32.not_lt.mpr h66)).trans (if_pos (Int32.not_le.mp h76))).symm) dM_carry_84 hlocks
  refine lv_iconst (v := 0) hx hb dM_carry_69 (by decide) ?_
  refine lv_goto (tgt := 84) hx hb dM_carry_70 (by decide) ?_
  subst hQ
  exact dw_iret hx hb hr hG (()) rfl (by unfold db_car3; exact (if_pos (Int32.not_le.mp h66)).symm) dM_carry_84 hlocks

set_option maxRecDepth 100000 in
set_option maxHeartbeats 4000000 in
theorem rf_thrown (l : Launch) (dC : Nat → ClassId) (dI : Nat → Nat → Nat) (cI cZ : ClassId) (m0 aMd aO1 aT2 aSh aMk aFa aDe aNe aBy aPi aNw aNs aBf : Nat) (ft vl rs pd rn rr : Int32) (sz : Nat)  : Met l yM_thrown wsM_thrown { frames := 0, cells := 0, slots := 0, locals := 0 } (va_Pc [.ref m0] (dw_pre (dC, dI) vwCl [(m0, .inr (5, [.int (ft), .int (vl), .ref aMd, .ref aO1, .ref aT2, .int (rs), .ref aSh, .ref aMk, .ref aFa, .ref aDe, .ref aNe, .ref aBy, .ref aPi, .int (pd), .ref aNw, .ref aNs, .ref aBf, .int (rn), .int (rr)]))] [(cI, .int), (cZ, .boolean)] sz)) (va_Qi (fun (r : Int32) (u : Unit) => r = ft) (fun u t => dw_post (dC, dI) vwCl [(m0, .inr (5, [.int (ft), .int (vl), .ref aMd, .ref aO1, .ref aT2, .int (rs), .ref aSh, .ref aMk, .ref aFa, .ref aDe, .ref aNe, .ref aBy, .ref aPi, .int (pd), .ref aNw, .ref aNs, .ref aBf, .int (rn), .int (rr)]))] [(cI, .int), (cZ, .boolean)] (va_A [(m0, .inr (5, [.int (ft), .int (vl), .ref aMd, .ref aO1, .ref aT2, .int (rs), .ref aSh, .ref aMk, .ref aFa, .ref aDe, .ref aNe, .ref aBy, .ref aPi, .int (pd), .ref aNw, .ref aNs, .ref aBf, .int (rn), .int (rr)]))] sz) t) (va_A [(m0, .inr (5, [.int (ft), .int (vl), .ref aMd, .ref aO1, .ref aT2, .int (rs), .ref aSh, .ref aMk, .ref aFa, .ref aDe, .ref aNe, .ref aBy, .ref aPi, .int (pd), .ref aNw, .ref aNs, .ref aBf, .int (rn), .int (rr)]))] sz)) 0 0 (va_A [(m0, .inr (5, [.int (ft), .int (vl), .ref aMd, .ref aO1, .ref aT2, .int (rs), .ref aSh, .ref aMk, .ref aFa, .ref aDe, .ref aNe, .ref aBy, .ref aPi, .int (pd), .ref aNw, .ref aNs, .ref aBf, .int (rn), .int (rr)]))] sz) := by
  refine Met.ofW (cc := cM_thrown) (maxL := 1) (ret := (some .int)) (by decide) rfl ?_
  intro p e s m args below meth c s₁ B hml hv0
  have hx := B.exec
  have hb := B.bytes
  have hr := B.returns
  have hts := atoms_spec (ws := wsM_thrown) B.pre
  have hown : s.vm.findClass RM = some m.cls := findClass_of_methodNamed B.named
  have hlocks := B.notSynchronized
  obtain ⟨rfl, hsz, hG⟩ := dw_enter hv0
  generalize va_A [(m0, .inr (5, [.int (ft), .int (vl), .ref aMd, .ref aO1, .ref aT2, .int (rs), .ref aSh, .ref aMk, .ref aFa, .ref aDe, .ref aNe, .ref aBy, .ref aPi, .int (pd), .ref aNw, .ref aNs, .ref aBf, .int (rn), .int (rr)]))] sz = A at hG ⊢
  have hl := lv_entry ([.ref m0]) (n := 1) (Nat.le_of_ble_eq_true rfl)
  rw [lg_entry_eq]
  generalize (lg_sl ([.ref m0]) ++ List.replicate (1 - (lg_sl ([.ref m0])).length) Slot.unset).toArray = ls at hl ⊢
  have hl : lv_has ls 1 [(0, .ref m0)] := hl
  have hw494 := hts _ (List.mem_cons_of_mem _ tw_494)
  refine dw_Q (fun Q hQ => ?_)
  suffices hgo : ∀ (H : Heap) (locs : List Loc), dw_G (dC, dI) vwCl [(cI, .int), (cZ, .boolean)] A s.heap s [(m0, .inr (5, [.int (ft), .int (vl), .ref aMd, .ref aO1, .ref aT2, .int (rs), .ref aSh, .ref aMk, .ref aFa, .ref aDe, .ref aNe, .ref aBy, .ref aPi, .int (pd), .ref aNw, .ref aNs, .ref aBf, .int (rn), .int (rr)]))] H locs → W p l e (headSpec wsM_thrown { frames := 0, cells := 0, slots := 0, locals := 0 }).room s m [.ref m0].toArray below meth c H locs 0 0 Q (F0 m 0 ls []) from hgo _ _ hG
  clear hG
  intro H locs hG
  refine lv_aload_n hx hb dM_thrown_0 rfl (lv_at hl 0 rfl) ?_
  refine dw_get hx hb hts inMc hown hG 0 0 rfl rfl (by decide) hw494 rfl rfl dM_thrown_1 ?_
  subst hQ
  exact dw_iret hx hb hr hG (()) rfl rfl dM_thrown_4 hlocks

set_option maxRecDepth 100000 in
set_option maxHeartbeats 4000000 in
theorem rf_isValue (l : Launch) (dC : Nat → ClassId) (dI : Nat → Nat → Nat) (cI cZ : ClassId) (m0 aMd aO1 aT2 aSh aMk aFa aDe aNe aBy aPi aNw aNs aBf : Nat) (ft vl rs pd rn rr : Int32) (v : Int32) (sz : Nat)  : Met l yM_isValue wsM_isValue { frames := 0, cells := 0, slots := 0, locals := 0 } (va_Pc [.ref m0, .int (v)] (dw_pre (dC, dI) vwCl [(m0, .inr (5, [.int (ft), .int (vl), .ref aMd, .ref aO1, .ref aT2, .int (rs), .ref aSh, .ref aMk, .ref aFa, .ref aDe, .ref aNe, .ref aBy, .ref aPi, .int (pd), .ref aNw, .ref aNs, .ref aBf, .int (rn), .int (rr)]))] [(cI, .int), (cZ, .boolean)] sz)) (va_Qi (fun (r : Int32) (u : Unit) => r = db_isv v vl) (fun u t => dw_post (dC, dI) vwCl [(m0, .inr (5, [.int (ft), .int (vl), .ref aMd, .ref aO1, .ref aT2, .int (rs), .ref aSh, .ref aMk, .ref aFa, .ref aDe, .ref aNe, .ref aBy, .ref aPi, .int (pd), .ref aNw, .ref aNs, .ref aBf, .int (rn), .int (rr)]))] [(cI, .int), (cZ, .boolean)] (va_A [(m0, .inr (5, [.int (ft), .int (vl), .ref aMd, .ref aO1, .ref aT2, .int (rs), .ref aSh, .ref aMk, .ref aFa, .ref aDe, .ref aNe, .ref aBy, .ref aPi, .int (pd), .ref aNw, .ref aNs, .ref aBf, .int (rn), .int (rr)]))] sz) t) (va_A [(m0, .inr (5, [.int (ft), .int (vl), .ref aMd, .ref aO1, .ref aT2, .int (rs), .ref aSh, .ref aMk, .ref aFa, .ref aDe, .ref aNe, .ref aBy, .ref aPi, .int (pd), .ref aNw, .ref aNs, .ref aBf, .int (rn), .int (rr)]))] sz)) 0 0 (va_A [(m0, .inr (5, [.int (ft), .int (vl), .ref aMd, .ref aO1, .ref aT2, .int (rs), .ref aSh, .ref aMk, .ref aFa, .ref aDe, .ref aNe, .ref aBy, .ref aPi, .int (pd), .ref aNw, .ref aNs, .ref aBf, .int (rn), .int (rr)]))] sz) := by
  refine Met.ofW (cc := cM_isValue) (maxL := 2) (ret := (some .boolean)) (by decide) rfl ?_
  intro p e s m args below meth c s₁ B hml hv0
  have hx := B.exec
  have hb := B.bytes
  have hr := B.returns
  have hts := atoms_spec (ws := wsM_isValue) B.pre
  have hown : s.vm.findClass RM = some m.cls := findClass_of_methodNamed B.named
  have hlocks := B.notSynchronized
  obtain ⟨rfl, hsz, hG⟩ := dw_enter hv0
  generalize va_A [(m0, .inr (5, [.int (ft), .int (vl), .ref aMd, .ref aO1, .ref aT2, .int (rs), .ref aSh, .ref aMk, .ref aFa, .ref aDe, .ref aNe, .ref aBy, .ref aPi, .int (pd), .ref aNw, .ref aNs, .ref aBf, .int (rn), .int (rr)]))] sz = A at hG ⊢
  have hl := lv_entry ([.ref m0, .int (v)]) (n := 2) (Nat.le_of_ble_eq_true rfl)
  rw [lg_entry_eq]
  generalize (lg_sl ([.ref m0, .int (v)]) ++ List.replicate (2 - (lg_sl ([.ref m0, .int (v)])).length) Slot.unset).toArray = ls at hl ⊢
  have hl : lv_has ls 2 [(0, .ref m0), (1, .int (v))] := hl
  have hw495 := hts _ (List.mem_cons_of_mem _ tw_495)
  refine dw_Q (fun Q hQ => ?_)
  suffices hgo : ∀ (H : Heap) (locs : List Loc), dw_G (dC, dI) vwCl [(cI, .int), (cZ, .boolean)] A s.heap s [(m0, .inr (5, [.int (ft), .int (vl), .ref aMd, .ref aO1, .ref aT2, .int (rs), .ref aSh, .ref aMk, .ref aFa, .ref aDe, .ref aNe, .ref aBy, .ref aPi, .int (pd), .ref aNw, .ref aNs, .ref aBf, .int (rn), .int (rr)]))] H locs → W p l e (headSpec wsM_isValue { frames := 0, cells := 0, slots := 0, locals := 0 }).room s m [.ref m0, .int (v)].toArray below meth c H locs 0 0 Q (F0 m 0 ls []) from hgo _ _ hG
  clear hG
  intro H locs hG
  refine lv_iload_n hx hb dM_isValue_0 rfl (lv_at hl 1 rfl) ?_
  refine lv_if_lt (tgt := 16) hx hb dM_isValue_1 (by decide) (fun h1 => ?_) (fun h1 => ?_)
  · skip
    refine lv_iconst (v := 0) hx hb dM_isValue_16 (by decide) ?_
    subst hQ
    exact dw_zret hx hb hr rfl hG (()) rfl (by unfold db_isv; simp_all) dM_isValue_17 hlocks
  refine lv_iload_n hx hb dM_isValue_4 rfl (lv_at hl 1 rfl) ?_
  refine lv_aload_n hx hb dM_isValue_5 rfl (lv_at hl 0 rfl) ?_
  refine dw_get hx hb hts inMc hown hG 0 1 rfl rfl (by decide) hw495 rfl rfl dM_isValue_6 ?_
  refine lv_icmp_ge (tgt := 16) hx hb dM_isValue_9 (by decide) (fun h9 => ?_) (fun h9 => ?_)
  · skip
    refine lv_iconst (v := 0) hx hb dM_isValue_16 (by decide) ?_
    subst hQ
    exact dw_zret hx hb hr rfl hG (()) rfl (by unfold db_isv; simp_all) dM_isValue_17 hlocks
  refine lv_iconst (v := 1) hx hb dM_isValue_12 (by decide) ?_
  refine lv_goto (tgt := 17) hx hb dM_isValue_13 (by decide) ?_
  subst hQ
  exact dw_zret hx hb hr rfl hG (()) rfl (by unfold db_isv; simp_all) dM_isValue_17 hlocks

