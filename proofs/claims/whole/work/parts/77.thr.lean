/-! ===== rows of the throwing methods ===== -/
theorem dx_IA : ∀ a ∈ Bundle.ownAtoms "DemandedBits" 63 xIA xUp, a ∈ dx_ws := fun _ h => List.mem_append_right _ (List.mem_append_left _ h)
theorem dx_IS : ∀ a ∈ Bundle.ownAtoms "DemandedBits" 103 xIS xUp, a ∈ dx_ws := fun _ h => List.mem_append_right _ (List.mem_append_right _ (List.mem_append_left _ h))
theorem dx_IO : ∀ a ∈ Bundle.ownAtoms "DemandedBits" 140 xIO xUp, a ∈ dx_ws := fun _ h => List.mem_append_right _ (List.mem_append_right _ (List.mem_append_right _ h))
theorem dx_o {w : Cond} (i : Nat) (h : dx_own[i]? = some w) : w ∈ dx_ws := List.mem_append_left _ (List.mem_of_getElem? h)
theorem dx_l3 {k : Int32} (h : k < nI 3) : ¬ (2 : Int32) < k := by
  have h1 : k.toInt < 3 := by have := Int32.lt_iff_toInt_lt.mp h; exact this
  intro h2
  have h3 : 2 < k.toInt := by have := Int32.lt_iff_toInt_lt.mp h2; exact this
  omega
def dx_Qq : Array Value → State → Outcome → State → Prop := fun _ st oc t => oc = .returned none ∧ t.heap = st.heap
section DX2
variable {p : Program} {l : Launch} {e : Env} {R : Room} {s : State} {m : MethodId} {args : Array Value} {below : List Frame} {meth : Method} {c : Code} {cells slots : Nat} {Q : State → Prop}
variable {pc : Nat} {ls : Array Slot} {rest st0 : List Value}
theorem dx_callq {H : Heap} {av : Array Value} (hr : va_Run p l e R s m args below meth c H [] cells slots 0 0 (F0 m pc ls st0) rest (dx_Qq av) (fun _ => False)) (kk : W p l e R s m args below meth c H [] cells slots Q (F0 m (pc + 3) ls rest)) : W p l e R s m args below meth c H [] cells slots Q (F0 m pc ls st0) := by
  intro T hT X
  obtain ⟨v, st₀, t, T', L, h0, X', hL, e1, e2, ⟨hv, hk⟩, st⟩ := hr T hT X
  cases hv
  have hL0 : L = [] := List.eq_nil_iff_forall_not_mem.mpr (fun q hq => hL q hq)
  subst hL0
  obtain ⟨t2, a1, b1⟩ := kk T' (by rw [e1, hk, h0]) X'
  exact ⟨t2, st t2 a1, b1⟩
end DX2

set_option maxRecDepth 100000 in
set_option maxHeartbeats 4000000 in
theorem cq_req (l : Launch) (dC : Nat → ClassId) (dI : Nat → Nat → Nat) (cI cZ : ClassId) (b0 u0 aK aX aY aN aV aM f0 e0 g0 aRp aNr aI c0 h0 n R : Nat) (an : Int32) (v : Nat) (sz : Nat) (hn : n ≤ 24) (hv : v < n) : Met l yB_requireValue wsB_requireValue { frames := 0, cells := 0, slots := 0, locals := 0 } (va_Pc [.ref b0, .int (nI (v))] (dw_pre (dC, dI) vwCl [(b0, .inr (0, [.ref u0, .ref f0, .ref e0, .ref g0, .ref aRp, .ref aNr, .ref aI, .ref c0, .ref h0, .int (an)])), (u0, .inr (1, [.ref aK, .ref aX, .ref aY, .ref aN, .ref aV, .ref aM, .int (nI (n)), .int (nI (R))]))] [(cI, .int), (cZ, .boolean)] sz)) dx_Qq 0 0 (fun _ => False) := by
  refine Met.ofW (cc := cB_requireValue) (maxL := 2) (ret := none) (by decide) rfl ?_
  intro p e s m args below meth c s₁ B hml hv0
  have hx := B.exec
  have hb := B.bytes
  have hr := B.returns
  have hts := atoms_spec (ws := wsB_requireValue) B.pre
  have hown : s.vm.findClass RB = some m.cls := findClass_of_methodNamed B.named
  have hlocks := B.notSynchronized
  obtain ⟨rfl, hsz, hG⟩ := dw_enter hv0
  generalize va_A [(b0, .inr (0, [.ref u0, .ref f0, .ref e0, .ref g0, .ref aRp, .ref aNr, .ref aI, .ref c0, .ref h0, .int (an)])), (u0, .inr (1, [.ref aK, .ref aX, .ref aY, .ref aN, .ref aV, .ref aM, .int (nI (n)), .int (nI (R))]))] sz = A at hG ⊢
  have hl := lv_entry ([.ref b0, .int (nI (v))]) (n := 2) (Nat.le_of_ble_eq_true rfl)
  rw [lg_entry_eq]
  generalize (lg_sl ([.ref b0, .int (nI (v))]) ++ List.replicate (2 - (lg_sl ([.ref b0, .int (nI (v))])).length) Slot.unset).toArray = ls at hl ⊢
  have hl : lv_has ls 2 [(0, .ref b0), (1, .int (nI (v)))] := hl
  have hw138 := hts _ (List.mem_cons_of_mem _ tw_138)
  have hw60 := hts _ (List.mem_cons_of_mem _ tw_60)
  refine dw_Q (fun Q hQ => ?_)
  suffices hgo : ∀ (H : Heap), H = s.heap → dw_G (dC, dI) vwCl [(cI, .int), (cZ, .boolean)] A s.heap s [(b0, .inr (0, [.ref u0, .ref f0, .ref e0, .ref g0, .ref aRp, .ref aNr, .ref aI, .ref c0, .ref h0, .int (an)])), (u0, .inr (1, [.ref aK, .ref aX, .ref aY, .ref aN, .ref aV, .ref aM, .int (nI (n)), .int (nI (R))]))] H [] → W p l e (headSpec wsB_requireValue { frames := 0, cells := 0, slots := 0, locals := 0 }).room s m [.ref b0, .int (nI (v))].toArray below meth c H [] 0 0 Q (F0 m 0 ls []) from hgo _ rfl hG
  clear hG
  intro H hH hG
  refine lv_iload_n hx hb dB_requireValue_0 rfl (lv_at hl 1 rfl) ?_
  refine lv_if_lt (tgt := 15) hx hb dB_requireValue_1 (by decide) (fun h1 => ?_) (fun h1 => ?_)
  · skip
    replace h1 := (nI_ltI (a := v) (b := 0) (by omega) (by omega)).mp h1
    (exfalso; omega)
  replace h1 : ¬ v < 0 := fun hq0 => h1 ((nI_ltI (a := v) (b := 0) (by omega) (by omega)).mpr hq0)
  refine lv_iload_n hx hb dB_requireValue_4 rfl (lv_at hl 1 rfl) ?_
  refine lv_aload_n hx hb dB_requireValue_5 rfl (lv_at hl 0 rfl) ?_
  refine dw_get hx hb hts inBc hown hG 0 0 rfl rfl (by decide) hw138 rfl rfl dB_requireValue_6 ?_
  refine dw_get hx hb hts inUc hown hG 1 6 rfl rfl (by decide) hw60 rfl rfl dB_requireValue_9 ?_
  refine lv_icmp_lt (tgt := 25) hx hb dB_requireValue_12 (by decide) (fun h12 => ?_) (fun h12 => ?_)
  · skip
    replace h12 := (nI_ltI (a := v) (b := n) (by omega) (by omega)).mp h12
    subst hQ
    exact W.vret hx hb hr (fun t ht hW => ⟨rfl, ht.trans hH⟩) (fun q hq => nomatch hq) dB_requireValue_25 hlocks
  replace h12 : ¬ v < n := fun hq0 => h12 ((nI_ltI (a := v) (b := n) (by omega) (by omega)).mpr hq0)
  (exfalso; omega)

set_option maxRecDepth 100000 in
set_option maxHeartbeats 4000000 in
theorem cx_req (l : Launch) (dC : Nat → ClassId) (dI : Nat → Nat → Nat) (cI cZ : ClassId) (htr : l.stackTraces = false) (b0 u0 aK aX aY aN aV aM f0 e0 g0 aRp aNr aI c0 h0 n R : Nat) (an : Int32) (v : Int32) (sz : Nat) (hinv : v < 0 ∨ nI n ≤ v) : dx_Met l yB_requireValue wsB_requireValue { frames := 6, cells := 1, slots := 6, locals := 100 } (fun a U => va_Pc [.ref b0, .int (v)] (dw_pre (dC, dI) vwCl [(b0, .inr (0, [.ref u0, .ref f0, .ref e0, .ref g0, .ref aRp, .ref aNr, .ref aI, .ref c0, .ref h0, .int (an)])), (u0, .inr (1, [.ref aK, .ref aX, .ref aY, .ref aN, .ref aV, .ref aM, .int (nI (n)), .int (nI (R))]))] [(cI, .int), (cZ, .boolean)] sz) a U ∧ dx_N U) xIO := by
  refine dx_ofW (cc := cB_requireValue) (maxL := 2) (ret := none) (by decide) rfl ?_
  intro p e s m args below meth c s₁ B hml hv0
  obtain ⟨hv0, hNx⟩ := hv0
  have hx := B.exec
  have hb := B.bytes
  have hr := B.returns
  have hts := atoms_spec (ws := wsB_requireValue) B.pre
  have hown : s.vm.findClass RB = some m.cls := findClass_of_methodNamed B.named
  have hlocks := B.notSynchronized
  have hno := B.noHandlers (hts _ List.mem_cons_self)
  obtain ⟨rfl, hsz, hG⟩ := dw_enter hv0
  generalize va_A [(b0, .inr (0, [.ref u0, .ref f0, .ref e0, .ref g0, .ref aRp, .ref aNr, .ref aI, .ref c0, .ref h0, .int (an)])), (u0, .inr (1, [.ref aK, .ref aX, .ref aY, .ref aN, .ref aV, .ref aM, .int (nI (n)), .int (nI (R))]))] sz = A at hG ⊢
  have hl := lv_entry ([.ref b0, .int (v)]) (n := 2) (Nat.le_of_ble_eq_true rfl)
  rw [lg_entry_eq]
  generalize (lg_sl ([.ref b0, .int (v)]) ++ List.replicate (2 - (lg_sl ([.ref b0, .int (v)])).length) Slot.unset).toArray = ls at hl ⊢
  have hl : lv_has ls 2 [(0, .ref b0), (1, .int (v))] := hl
  have hw138 := hts _ (List.mem_cons_of_mem _ tw_138)
  have hw60 := hts _ (List.mem_cons_of_mem _ tw_60)
  refine dw_Q (fun Q hQ => ?_)
  suffices hgo : ∀ (H : Heap), H = s.heap → dw_G (dC, dI) vwCl [(cI, .int), (cZ, .boolean)] A s.heap s [(b0, .inr (0, [.ref u0, .ref f0, .ref e0, .ref g0, .ref aRp, .ref aNr, .ref aI, .ref c0, .ref h0, .int (an)])), (u0, .inr (1, [.ref aK, .ref aX, .ref aY, .ref aN, .ref aV, .ref aM, .int (nI (n)), .int (nI (R))]))] H [] → W p l e (headSpec wsB_requireValue { frames := 6, cells := 1, slots := 6, locals := 100 }).room s m [.ref b0, .int (v)].toArray below meth c H [] 0 0 Q (F0 m 0 ls []) from hgo _ rfl hG
  clear hG
  intro H hH hG
  refine lv_iload_n hx hb dB_requireValue_0 rfl (lv_at hl 1 rfl) ?_
  refine lv_if_lt (tgt := 15) hx hb dB_requireValue_1 (by decide) (fun h1 => ?_) (fun h1 => ?_)
  · skip
    subst hQ
    exact dx_throw (names := xUp) hx hb htr hno hlocks (hl.1.trans hml.symm) hH hown hNx (dx_o 2 rfl) (dx_o 5 rfl) (dx_o 9 rfl) dx_IO (by decide +kernel) (by decide +kernel) (Nat.le_of_ble_eq_true rfl) (Nat.le_of_ble_eq_true rfl) (Nat.le_of_ble_eq_true rfl) (Nat.le_of_ble_eq_true rfl) dB_requireValue_15 dB_requireValue_18 dB_requireValue_19 dB_requireValue_21 dB_requireValue_24
  refine lv_iload_n hx hb dB_requireValue_4 rfl (lv_at hl 1 rfl) ?_
  refine lv_aload_n hx hb dB_requireValue_5 rfl (lv_at hl 0 rfl) ?_
  refine dw_get hx hb hts inBc hown hG 0 0 rfl rfl (by decide) hw138 rfl rfl dB_requireValue_6 ?_
  refine dw_get hx hb hts inUc hown hG 1 6 rfl rfl (by decide) hw60 rfl rfl dB_requireValue_9 ?_
  refine lv_icmp_lt (tgt := 25) hx hb dB_requireValue_12 (by decide) (fun h12 => ?_) (fun h12 => ?_)
  · skip
    exact absurd hinv (fun q => q.elim h1 (fun z => Int32.not_le.mpr h12 z))
  subst hQ
  exact dx_throw (names := xUp) hx hb htr hno hlocks (hl.1.trans hml.symm) hH hown hNx (dx_o 2 rfl) (dx_o 5 rfl) (dx_o 9 rfl) dx_IO (by decide +kernel) (by decide +kernel) (Nat.le_of_ble_eq_true rfl) (Nat.le_of_ble_eq_true rfl) (Nat.le_of_ble_eq_true rfl) (Nat.le_of_ble_eq_true rfl) dB_requireValue_15 dB_requireValue_18 dB_requireValue_19 dB_requireValue_21 dB_requireValue_24

set_option maxRecDepth 100000 in
set_option maxHeartbeats 4000000 in
theorem cx_append (l : Launch) (dC : Nat → ClassId) (dI : Nat → Nat → Nat) (cI cZ : ClassId) (htr : l.stackTraces = false) (b0 u0 aK aX aY aN aV aM f0 e0 g0 aRp aNr aI c0 h0 n R : Nat) (an : Int32) (k9 x9 y9 z9 : Int32) (sz : Nat) (hn : n = 24) : dx_Met l yB_append wsB_append { frames := 6, cells := 1, slots := 6, locals := 100 } (fun a U => va_Pc [.ref b0, .int (k9), .int (x9), .int (y9), .int (z9)] (dw_pre (dC, dI) vwCl [(b0, .inr (0, [.ref u0, .ref f0, .ref e0, .ref g0, .ref aRp, .ref aNr, .ref aI, .ref c0, .ref h0, .int (an)])), (u0, .inr (1, [.ref aK, .ref aX, .ref aY, .ref aN, .ref aV, .ref aM, .int (nI (n)), .int (nI (R))]))] [(cI, .int), (cZ, .boolean)] sz) a U ∧ dx_N U) xIS := by
  refine dx_ofW (cc := cB_append) (maxL := 5) (ret := (some .int)) (by decide) rfl ?_
  intro p e s m args below meth c s₁ B hml hv0
  obtain ⟨hv0, hNx⟩ := hv0
  have hx := B.exec
  have hb := B.bytes
  have hr := B.returns
  have hts := atoms_spec (ws := wsB_append) B.pre
  have hown : s.vm.findClass RB = some m.cls := findClass_of_methodNamed B.named
  have hlocks := B.notSynchronized
  have hno := B.noHandlers (hts _ List.mem_cons_self)
  obtain ⟨rfl, hsz, hG⟩ := dw_enter hv0
  generalize va_A [(b0, .inr (0, [.ref u0, .ref f0, .ref e0, .ref g0, .ref aRp, .ref aNr, .ref aI, .ref c0, .ref h0, .int (an)])), (u0, .inr (1, [.ref aK, .ref aX, .ref aY, .ref aN, .ref aV, .ref aM, .int (nI (n)), .int (nI (R))]))] sz = A at hG ⊢
  have hl := lv_entry ([.ref b0, .int (k9), .int (x9), .int (y9), .int (z9)]) (n := 5) (Nat.le_of_ble_eq_true rfl)
  rw [lg_entry_eq]
  generalize (lg_sl ([.ref b0, .int (k9), .int (x9), .int (y9), .int (z9)]) ++ List.replicate (5 - (lg_sl ([.ref b0, .int (k9), .int (x9), .int (y9), .int (z9)])).length) Slot.unset).toArray = ls at hl ⊢
  have hl : lv_has ls 5 [(0, .ref b0), (1, .int (k9)), (2, .int (x9)), (3, .int (y9)), (4, .int (z9))] := hl
  have hw138 := hts _ (List.mem_cons_of_mem _ tw_138)
  have hw60 := hts _ (List.mem_cons_of_mem _ tw_60)
  refine dw_Q (fun Q hQ => ?_)
  suffices hgo : ∀ (H : Heap), H = s.heap → dw_G (dC, dI) vwCl [(cI, .int), (cZ, .boolean)] A s.heap s [(b0, .inr (0, [.ref u0, .ref f0, .ref e0, .ref g0, .ref aRp, .ref aNr, .ref aI, .ref c0, .ref h0, .int (an)])), (u0, .inr (1, [.ref aK, .ref aX, .ref aY, .ref aN, .ref aV, .ref aM, .int (nI (n)), .int (nI (R))]))] H [] → W p l e (headSpec wsB_append { frames := 6, cells := 1, slots := 6, locals := 100 }).room s m [.ref b0, .int (k9), .int (x9), .int (y9), .int (z9)].toArray below meth c H [] 0 0 Q (F0 m 0 ls []) from hgo _ rfl hG
  clear hG
  intro H hH hG
  refine lv_aload_n hx hb dB_append_0 rfl (lv_at hl 0 rfl) ?_
  refine dw_get hx hb hts inBc hown hG 0 0 rfl rfl (by decide) hw138 rfl rfl dB_append_1 ?_
  refine dw_get hx hb hts inUc hown hG 1 6 rfl rfl (by decide) hw60 rfl rfl dB_append_4 ?_
  refine lv_bipush (v := 24) hx hb dB_append_7 (by decide) ?_
  refine lv_icmp_lt (tgt := 22) hx hb dB_append_9 (by decide) (fun h9 => ?_) (fun h9 => ?_)
  · skip
    replace h9 := (nI_ltI (a := n) (b := 24) (by omega) (by omega)).mp h9
    (exfalso; omega)
  replace h9 : ¬ n < 24 := fun hq0 => h9 ((nI_ltI (a := n) (b := 24) (by omega) (by omega)).mpr hq0)
  subst hQ
  exact dx_throw (names := xUp) hx hb htr hno hlocks (hl.1.trans hml.symm) hH hown hNx (dx_o 1 rfl) (dx_o 4 rfl) (dx_o 7 rfl) dx_IS (by decide +kernel) (by decide +kernel) (Nat.le_of_ble_eq_true rfl) (Nat.le_of_ble_eq_true rfl) (Nat.le_of_ble_eq_true rfl) (Nat.le_of_ble_eq_true rfl) dB_append_12 dB_append_15 dB_append_16 dB_append_18 dB_append_21

set_option maxRecDepth 100000 in
set_option maxHeartbeats 4000000 in
theorem cx_input_1 (l : Launch) (dC : Nat → ClassId) (dI : Nat → Nat → Nat) (cI cZ : ClassId) (htr : l.stackTraces = false) (b0 u0 aK aX aY aN aV aM f0 e0 g0 aRp aNr aI c0 h0 n R : Nat) (an : Int32) (k : Int32) (sz : Nat) (hbad : k < 0 ∨ 2 < k) : dx_Met l yB_input wsB_input { frames := 7, cells := 1, slots := 6, locals := 150 } (fun a U => va_Pc [.ref b0, .int (k)] (dw_pre (dC, dI) vwCl [(b0, .inr (0, [.ref u0, .ref f0, .ref e0, .ref g0, .ref aRp, .ref aNr, .ref aI, .ref c0, .ref h0, .int (an)])), (u0, .inr (1, [.ref aK, .ref aX, .ref aY, .ref aN, .ref aV, .ref aM, .int (nI (n)), .int (nI (R))]))] [(cI, .int), (cZ, .boolean)] sz) a U ∧ dx_N U) xIA := by
  refine dx_ofW (cc := cB_input) (maxL := 2) (ret := (some .int)) (by decide) rfl ?_
  intro p e s m args below meth c s₁ B hml hv0
  obtain ⟨hv0, hNx⟩ := hv0
  have hx := B.exec
  have hb := B.bytes
  have hr := B.returns
  have hts := atoms_spec (ws := wsB_input) B.pre
  have hown : s.vm.findClass RB = some m.cls := findClass_of_methodNamed B.named
  have hlocks := B.notSynchronized
  have hno := B.noHandlers (hts _ List.mem_cons_self)
  obtain ⟨rfl, hsz, hG⟩ := dw_enter hv0
  generalize va_A [(b0, .inr (0, [.ref u0, .ref f0, .ref e0, .ref g0, .ref aRp, .ref aNr, .ref aI, .ref c0, .ref h0, .int (an)])), (u0, .inr (1, [.ref aK, .ref aX, .ref aY, .ref aN, .ref aV, .ref aM, .int (nI (n)), .int (nI (R))]))] sz = A at hG ⊢
  have hl := lv_entry ([.ref b0, .int (k)]) (n := 2) (Nat.le_of_ble_eq_true rfl)
  rw [lg_entry_eq]
  generalize (lg_sl ([.ref b0, .int (k)]) ++ List.replicate (2 - (lg_sl ([.ref b0, .int (k)])).length) Slot.unset).toArray = ls at hl ⊢
  have hl : lv_has ls 2 [(0, .ref b0), (1, .int (k))] := hl
  refine dw_Q (fun Q hQ => ?_)
  suffices hgo : ∀ (H : Heap), H = s.heap → dw_G (dC, dI) vwCl [(cI, .int), (cZ, .boolean)] A s.heap s [(b0, .inr (0, [.ref u0, .ref f0, .ref e0, .ref g0, .ref aRp, .ref aNr, .ref aI, .ref c0, .ref h0, .int (an)])), (u0, .inr (1, [.ref aK, .ref aX, .ref aY, .ref aN, .ref aV, .ref aM, .int (nI (n)), .int (nI (R))]))] H [] → W p l e (headSpec wsB_input { frames := 7, cells := 1, slots := 6, locals := 150 }).room s m [.ref b0, .int (k)].toArray below meth c H [] 0 0 Q (F0 m 0 ls []) from hgo _ rfl hG
  clear hG
  intro H hH hG
  refine lv_iload_n hx hb dB_input_0 rfl (lv_at hl 1 rfl) ?_
  refine lv_if_lt (tgt := 9) hx hb dB_input_1 (by decide) (fun h1 => ?_) (fun h1 => ?_)
  · skip
    subst hQ
    exact dx_throw (names := xUp) hx hb htr hno hlocks (hl.1.trans hml.symm) hH hown hNx (dx_o 0 rfl) (dx_o 3 rfl) (dx_o 6 rfl) dx_IA (by decide +kernel) (by decide +kernel) (Nat.le_of_ble_eq_true rfl) (Nat.le_of_ble_eq_true rfl) (Nat.le_of_ble_eq_true rfl) (Nat.le_of_ble_eq_true rfl) dB_input_9 dB_input_12 dB_input_13 dB_input_15 dB_input_18
  refine lv_iload_n hx hb dB_input_4 rfl (lv_at hl 1 rfl) ?_
  refine lv_iconst (v := 3) hx hb dB_input_5 (by decide) ?_
  refine lv_icmp_lt (tgt := 19) hx hb dB_input_6 (by decide) (fun h6 => ?_) (fun h6 => ?_)
  · skip
    exact absurd hbad (fun q => q.elim h1 (fun z => dx_l3 h6 z))
  subst hQ
  exact dx_throw (names := xUp) hx hb htr hno hlocks (hl.1.trans hml.symm) hH hown hNx (dx_o 0 rfl) (dx_o 3 rfl) (dx_o 6 rfl) dx_IA (by decide +kernel) (by decide +kernel) (Nat.le_of_ble_eq_true rfl) (Nat.le_of_ble_eq_true rfl) (Nat.le_of_ble_eq_true rfl) (Nat.le_of_ble_eq_true rfl) dB_input_9 dB_input_12 dB_input_13 dB_input_15 dB_input_18

set_option maxRecDepth 100000 in
set_option maxHeartbeats 4000000 in
theorem cx_input_2 (l : Launch) (dC : Nat → ClassId) (dI : Nat → Nat → Nat) (cI cZ : ClassId) (htr : l.stackTraces = false) (b0 u0 aK aX aY aN aV aM f0 e0 g0 aRp aNr aI c0 h0 n R : Nat) (an : Int32) (d : Nat) (sz : Nat) (hd : d < 3) (hn : n = 24) : dx_Met l yB_input wsB_input { frames := 7, cells := 1, slots := 6, locals := 150 } (fun a U => va_Pc [.ref b0, .int (nI (d))] (dw_pre (dC, dI) vwCl [(b0, .inr (0, [.ref u0, .ref f0, .ref e0, .ref g0, .ref aRp, .ref aNr, .ref aI, .ref c0, .ref h0, .int (an)])), (u0, .inr (1, [.ref aK, .ref aX, .ref aY, .ref aN, .ref aV, .ref aM, .int (nI (n)), .int (nI (R))]))] [(cI, .int), (cZ, .boolean)] sz) a U ∧ dx_N U) xIS := by
  refine dx_ofW (cc := cB_input) (maxL := 2) (ret := (some .int)) (by decide) rfl ?_
  intro p e s m args below meth c s₁ B hml hv0
  obtain ⟨hv0, hNx⟩ := hv0
  have hx := B.exec
  have hb := B.bytes
  have hr := B.returns
  have hts := atoms_spec (ws := wsB_input) B.pre
  have hown : s.vm.findClass RB = some m.cls := findClass_of_methodNamed B.named
  have hlocks := B.notSynchronized
  have hno := B.noHandlers (hts _ List.mem_cons_self)
  obtain ⟨rfl, hsz, hG⟩ := dw_enter hv0
  generalize va_A [(b0, .inr (0, [.ref u0, .ref f0, .ref e0, .ref g0, .ref aRp, .ref aNr, .ref aI, .ref c0, .ref h0, .int (an)])), (u0, .inr (1, [.ref aK, .ref aX, .ref aY, .ref aN, .ref aV, .ref aM, .int (nI (n)), .int (nI (R))]))] sz = A at hG ⊢
  have hl := lv_entry ([.ref b0, .int (nI (d))]) (n := 2) (Nat.le_of_ble_eq_true rfl)
  rw [lg_entry_eq]
  generalize (lg_sl ([.ref b0, .int (nI (d))]) ++ List.replicate (2 - (lg_sl ([.ref b0, .int (nI (d))])).length) Slot.unset).toArray = ls at hl ⊢
  have hl : lv_has ls 2 [(0, .ref b0), (1, .int (nI (d)))] := hl
  refine dw_Q (fun Q hQ => ?_)
  suffices hgo : ∀ (H : Heap), H = s.heap → dw_G (dC, dI) vwCl [(cI, .int), (cZ, .boolean)] A s.heap s [(b0, .inr (0, [.ref u0, .ref f0, .ref e0, .ref g0, .ref aRp, .ref aNr, .ref aI, .ref c0, .ref h0, .int (an)])), (u0, .inr (1, [.ref aK, .ref aX, .ref aY, .ref aN, .ref aV, .ref aM, .int (nI (n)), .int (nI (R))]))] H [] → W p l e (headSpec wsB_input { frames := 7, cells := 1, slots := 6, locals := 150 }).room s m [.ref b0, .int (nI (d))].toArray below meth c H [] 0 0 Q (F0 m 0 ls []) from hgo _ rfl hG
  clear hG
  intro H hH hG
  refine lv_iload_n hx hb dB_input_0 rfl (lv_at hl 1 rfl) ?_
  refine lv_if_lt (tgt := 9) hx hb dB_input_1 (by decide) (fun h1 => ?_) (fun h1 => ?_)
  · skip
    replace h1 := (nI_ltI (a := d) (b := 0) (by omega) (by omega)).mp h1
    (exfalso; omega)
  replace h1 : ¬ d < 0 := fun hq0 => h1 ((nI_ltI (a := d) (b := 0) (by omega) (by omega)).mpr hq0)
  refine lv_iload_n hx hb dB_input_4 rfl (lv_at hl 1 rfl) ?_
  refine lv_iconst (v := 3) hx hb dB_input_5 (by decide) ?_
  refine lv_icmp_lt (tgt := 19) hx hb dB_input_6 (by decide) (fun h6 => ?_) (fun h6 => ?_)
  · skip
    replace h6 := (nI_ltI (a := d) (b := 3) (by omega) (by omega)).mp h6
    refine lv_aload_n hx hb dB_input_19 rfl (lv_at hl 0 rfl) ?_
    refine lv_bipush (v := 9) hx hb dB_input_20 (by decide) ?_
    refine lv_iconst (v := 0) hx hb dB_input_22 (by decide) ?_
    refine lv_iconst (v := 0) hx hb dB_input_23 (by decide) ?_
    refine lv_iload_n hx hb dB_input_24 rfl (lv_at hl 1 rfl) ?_
    subst hQ
    exact dx_callT (As := [.int (9), .int (0), .int (0), .int (nI (d))]) (rest := []) ⟨hx, hb, hml, hown, hts⟩ (cx_append l dC dI cI cZ htr b0 u0 aK aX aY aN aV aM f0 e0 g0 aRp aNr aI c0 h0 n R (an) (9) (0) (0) (nI (d)) H.size hn) (dc_V 4 hts tw_330 tw_332 tp_B_append tw_1 tw_333 rfl rfl (by decide +kernel) ⟨Nat.le_of_ble_eq_true rfl, Nat.le_of_ble_eq_true rfl⟩) (dw_preV (ci := 0) (wc := [(b0, .inr (0, [.ref u0, .ref f0, .ref e0, .ref g0, .ref aRp, .ref aNr, .ref aI, .ref c0, .ref h0, .int (an)])), (u0, .inr (1, [.ref aK, .ref aX, .ref aY, .ref aN, .ref aV, .ref aM, .int (nI (n)), .int (nI (R))]))]) hG [0, 1] [0, 1] rfl rfl (by decide) rfl rfl (q0 := 0) rfl) hH hNx hno hlocks rfl hl.1 rfl (Nat.le_of_ble_eq_true rfl) dB_input_25 ⟨Nat.le_of_ble_eq_true rfl, Nat.le_of_ble_eq_true rfl⟩
  replace h6 : ¬ d < 3 := fun hq0 => h6 ((nI_ltI (a := d) (b := 3) (by omega) (by omega)).mpr hq0)
  (exfalso; omega)

set_option maxRecDepth 100000 in
set_option maxHeartbeats 4000000 in
theorem cx_constant_1 (l : Launch) (dC : Nat → ClassId) (dI : Nat → Nat → Nat) (cI cZ : ClassId) (htr : l.stackTraces = false) (b0 u0 aK aX aY aN aV aM f0 e0 g0 aRp aNr aI c0 h0 n R : Nat) (an : Int32) (c9 : Int32) (sz : Nat) (hn : n = 24) : dx_Met l yB_constant wsB_constant { frames := 7, cells := 1, slots := 6, locals := 150 } (fun a U => va_Pc [.ref b0, .int (c9)] (dw_pre (dC, dI) vwCl [(b0, .inr (0, [.ref u0, .ref f0, .ref e0, .ref g0, .ref aRp, .ref aNr, .ref aI, .ref c0, .ref h0, .int (an)])), (u0, .inr (1, [.ref aK, .ref aX, .ref aY, .ref aN, .ref aV, .ref aM, .int (nI (n)), .int (nI (R))]))] [(cI, .int), (cZ, .boolean)] sz) a U ∧ dx_N U) xIS := by
  refine dx_ofW (cc := cB_constant) (maxL := 2) (ret := (some .int)) (by decide) rfl ?_
  intro p e s m args below meth c s₁ B hml hv0
  obtain ⟨hv0, hNx⟩ := hv0
  have hx := B.exec
  have hb := B.bytes
  have hr := B.returns
  have hts := atoms_spec (ws := wsB_constant) B.pre
  have hown : s.vm.findClass RB = some m.cls := findClass_of_methodNamed B.named
  have hlocks := B.notSynchronized
  have hno := B.noHandlers (hts _ List.mem_cons_self)
  obtain ⟨rfl, hsz, hG⟩ := dw_enter hv0
  generalize va_A [(b0, .inr (0, [.ref u0, .ref f0, .ref e0, .ref g0, .ref aRp, .ref aNr, .ref aI, .ref c0, .ref h0, .int (an)])), (u0, .inr (1, [.ref aK, .ref aX, .ref aY, .ref aN, .ref aV, .ref aM, .int (nI (n)), .int (nI (R))]))] sz = A at hG ⊢
  have hl := lv_entry ([.ref b0, .int (c9)]) (n := 2) (Nat.le_of_ble_eq_true rfl)
  rw [lg_entry_eq]
  generalize (lg_sl ([.ref b0, .int (c9)]) ++ List.replicate (2 - (lg_sl ([.ref b0, .int (c9)])).length) Slot.unset).toArray = ls at hl ⊢
  have hl : lv_has ls 2 [(0, .ref b0), (1, .int (c9))] := hl
  refine dw_Q (fun Q hQ => ?_)
  suffices hgo : ∀ (H : Heap), H = s.heap → dw_G (dC, dI) vwCl [(cI, .int), (cZ, .boolean)] A s.heap s [(b0, .inr (0, [.ref u0, .ref f0, .ref e0, .ref g0, .ref aRp, .ref aNr, .ref aI, .ref c0, .ref h0, .int (an)])), (u0, .inr (1, [.ref aK, .ref aX, .ref aY, .ref aN, .ref aV, .ref aM, .int (nI (n)), .int (nI (R))]))] H [] → W p l e (headSpec wsB_constant { frames := 7, cells := 1, slots := 6, locals := 150 }).room s m [.ref b0, .int (c9)].toArray below meth c H [] 0 0 Q (F0 m 0 ls []) from hgo _ rfl hG
  clear hG
  intro H hH hG
  refine lv_aload_n hx hb dB_constant_0 rfl (lv_at hl 0 rfl) ?_
  refine lv_bipush (v := 10) hx hb dB_constant_1 (by decide) ?_
  refine lv_iconst (v := 0) hx hb dB_constant_3 (by decide) ?_
  refine lv_iconst (v := 0) hx hb dB_constant_4 (by decide) ?_
  refine lv_iload_n hx hb dB_constant_5 rfl (lv_at hl 1 rfl) ?_
  subst hQ
  exact dx_callT (As := [.int (10), .int (0), .int (0), .int (c9)]) (rest := []) ⟨hx, hb, hml, hown, hts⟩ (cx_append l dC dI cI cZ htr b0 u0 aK aX aY aN aV aM f0 e0 g0 aRp aNr aI c0 h0 n R (an) (10) (0) (0) (c9) H.size hn) (dc_V 4 hts tw_330 tw_332 tp_B_append tw_1 tw_333 rfl rfl (by decide +kernel) ⟨Nat.le_of_ble_eq_true rfl, Nat.le_of_ble_eq_true rfl⟩) (dw_preV (ci := 0) (wc := [(b0, .inr (0, [.ref u0, .ref f0, .ref e0, .ref g0, .ref aRp, .ref aNr, .ref aI, .ref c0, .ref h0, .int (an)])), (u0, .inr (1, [.ref aK, .ref aX, .ref aY, .ref aN, .ref aV, .ref aM, .int (nI (n)), .int (nI (R))]))]) hG [0, 1] [0, 1] rfl rfl (by decide) rfl rfl (q0 := 0) rfl) hH hNx hno hlocks rfl hl.1 rfl (Nat.le_of_ble_eq_true rfl) dB_constant_6 ⟨Nat.le_of_ble_eq_true rfl, Nat.le_of_ble_eq_true rfl⟩

set_option maxRecDepth 100000 in
set_option maxHeartbeats 4000000 in
theorem cx_binary_1 (l : Launch) (dC : Nat → ClassId) (dI : Nat → Nat → Nat) (cI cZ : ClassId) (htr : l.stackTraces = false) (b0 u0 aK aX aY aN aV aM f0 e0 g0 aRp aNr aI c0 h0 n R : Nat) (an : Int32) (op x y : Int32) (sz : Nat) (hbad : op < 0 ∨ 5 < op) : dx_Met l yB_binary wsB_binary { frames := 7, cells := 1, slots := 6, locals := 150 } (fun a U => va_Pc [.ref b0, .int (op), .int (x), .int (y)] (dw_pre (dC, dI) vwCl [(b0, .inr (0, [.ref u0, .ref f0, .ref e0, .ref g0, .ref aRp, .ref aNr, .ref aI, .ref c0, .ref h0, .int (an)])), (u0, .inr (1, [.ref aK, .ref aX, .ref aY, .ref aN, .ref aV, .ref aM, .int (nI (n)), .int (nI (R))]))] [(cI, .int), (cZ, .boolean)] sz) a U ∧ dx_N U) xIA := by
  refine dx_ofW (cc := cB_binary) (maxL := 4) (ret := (some .int)) (by decide) rfl ?_
  intro p e s m args below meth c s₁ B hml hv0
  obtain ⟨hv0, hNx⟩ := hv0
  have hx := B.exec
  have hb := B.bytes
  have hr := B.returns
  have hts := atoms_spec (ws := wsB_binary) B.pre
  have hown : s.vm.findClass RB = some m.cls := findClass_of_methodNamed B.named
  have hlocks := B.notSynchronized
  have hno := B.noHandlers (hts _ List.mem_cons_self)
  obtain ⟨rfl, hsz, hG⟩ := dw_enter hv0
  generalize va_A [(b0, .inr (0, [.ref u0, .ref f0, .ref e0, .ref g0, .ref aRp, .ref aNr, .ref aI, .ref c0, .ref h0, .int (an)])), (u0, .inr (1, [.ref aK, .ref aX, .ref aY, .ref aN, .ref aV, .ref aM, .int (nI (n)), .int (nI (R))]))] sz = A at hG ⊢
  have hl := lv_entry ([.ref b0, .int (op), .int (x), .int (y)]) (n := 4) (Nat.le_of_ble_eq_true rfl)
  rw [lg_entry_eq]
  generalize (lg_sl ([.ref b0, .int (op), .int (x), .int (y)]) ++ List.replicate (4 - (lg_sl ([.ref b0, .int (op), .int (x), .int (y)])).length) Slot.unset).toArray = ls at hl ⊢
  have hl : lv_has ls 4 [(0, .ref b0), (1, .int (op)), (2, .int (x)), (3, .int (y))] := hl
  refine dw_Q (fun Q hQ => ?_)
  suffices hgo : ∀ (H : Heap), H = s.heap → dw_G (dC, dI) vwCl [(cI, .int), (cZ, .boolean)] A s.heap s [(b0, .inr (0, [.ref u0, .ref f0, .ref e0, .ref g0, .ref aRp, .ref aNr, .ref aI, .ref c0, .ref h0, .int (an)])), (u0, .inr (1, [.ref aK, .ref aX, .ref aY, .ref aN, .ref aV, .ref aM, .int (nI (n)), .int (nI (R))]))] H [] → W p l e (headSpec wsB_binary { frames := 7, cells := 1, slots := 6, locals := 150 }).room s m [.ref b0, .int (op), .int (x), .int (y)].toArray below meth c H [] 0 0 Q (F0 m 0 ls []) from hgo _ rfl hG
  clear hG
  intro H hH hG
  refine lv_iload_n hx hb dB_binary_0 rfl (lv_at hl 1 rfl) ?_
  refine lv_if_lt (tgt := 9) hx hb dB_binary_1 (by decide) (fun h1 => ?_) (fun h1 => ?_)
  · skip
    subst hQ
    exact dx_throw (names := xUp) hx hb htr hno hlocks (hl.1.trans hml.symm) hH hown hNx (dx_o 0 rfl) (dx_o 3 rfl) (dx_o 8 rfl) dx_IA (by decide +kernel) (by decide +kernel) (Nat.le_of_ble_eq_true rfl) (Nat.le_of_ble_eq_true rfl) (Nat.le_of_ble_eq_true rfl) (Nat.le_of_ble_eq_true rfl) dB_binary_9 dB_binary_12 dB_binary_13 dB_binary_15 dB_binary_18
  refine lv_iload_n hx hb dB_binary_4 rfl (lv_at hl 1 rfl) ?_
  refine lv_iconst (v := 5) hx hb dB_binary_5 (by decide) ?_
  refine lv_icmp_le (tgt := 19) hx hb dB_binary_6 (by decide) (fun h6 => ?_) (fun h6 => ?_)
  · skip
    exact absurd hbad (fun q => q.elim h1 (fun z => Int32.not_lt.mpr h6 z))
  subst hQ
  exact dx_throw (names := xUp) hx hb htr hno hlocks (hl.1.trans hml.symm) hH hown hNx (dx_o 0 rfl) (dx_o 3 rfl) (dx_o 8 rfl) dx_IA (by decide +kernel) (by decide +kernel) (Nat.le_of_ble_eq_true rfl) (Nat.le_of_ble_eq_true rfl) (Nat.le_of_ble_eq_true rfl) (Nat.le_of_ble_eq_true rfl) dB_binary_9 dB_binary_12 dB_binary_13 dB_binary_15 dB_binary_18

set_option maxRecDepth 100000 in
set_option maxHeartbeats 4000000 in
theorem cx_binary_2x (l : Launch) (dC : Nat → ClassId) (dI : Nat → Nat → Nat) (cI cZ : ClassId) (htr : l.stackTraces = false) (b0 u0 aK aX aY aN aV aM f0 e0 g0 aRp aNr aI c0 h0 n R : Nat) (an : Int32) (op : Nat) (x y : Int32) (sz : Nat) (ho : op ≤ 5) (hinv : x < 0 ∨ nI n ≤ x) : dx_Met l yB_binary wsB_binary { frames := 7, cells := 1, slots := 6, locals := 150 } (fun a U => va_Pc [.ref b0, .int (nI (op)), .int (x), .int (y)] (dw_pre (dC, dI) vwCl [(b0, .inr (0, [.ref u0, .ref f0, .ref e0, .ref g0, .ref aRp, .ref aNr, .ref aI, .ref c0, .ref h0, .int (an)])), (u0, .inr (1, [.ref aK, .ref aX, .ref aY, .ref aN, .ref aV, .ref aM, .int (nI (n)), .int (nI (R))]))] [(cI, .int), (cZ, .boolean)] sz) a U ∧ dx_N U) xIO := by
  refine dx_ofW (cc := cB_binary) (maxL := 4) (ret := (some .int)) (by decide) rfl ?_
  intro p e s m args below meth c s₁ B hml hv0
  obtain ⟨hv0, hNx⟩ := hv0
  have hx := B.exec
  have hb := B.bytes
  have hr := B.returns
  have hts := atoms_spec (ws := wsB_binary) B.pre
  have hown : s.vm.findClass RB = some m.cls := findClass_of_methodNamed B.named
  have hlocks := B.notSynchronized
  have hno := B.noHandlers (hts _ List.mem_cons_self)
  obtain ⟨rfl, hsz, hG⟩ := dw_enter hv0
  generalize va_A [(b0, .inr (0, [.ref u0, .ref f0, .ref e0, .ref g0, .ref aRp, .ref aNr, .ref aI, .ref c0, .ref h0, .int (an)])), (u0, .inr (1, [.ref aK, .ref aX, .ref aY, .ref aN, .ref aV, .ref aM, .int (nI (n)), .int (nI (R))]))] sz = A at hG ⊢
  have hl := lv_entry ([.ref b0, .int (nI (op)), .int (x), .int (y)]) (n := 4) (Nat.le_of_ble_eq_true rfl)
  rw [lg_entry_eq]
  generalize (lg_sl ([.ref b0, .int (nI (op)), .int (x), .int (y)]) ++ List.replicate (4 - (lg_sl ([.ref b0, .int (nI (op)), .int (x), .int (y)])).length) Slot.unset).toArray = ls at hl ⊢
  have hl : lv_has ls 4 [(0, .ref b0), (1, .int (nI (op))), (2, .int (x)), (3, .int (y))] := hl
  refine dw_Q (fun Q hQ => ?_)
  suffices hgo : ∀ (H : Heap), H = s.heap → dw_G (dC, dI) vwCl [(cI, .int), (cZ, .boolean)] A s.heap s [(b0, .inr (0, [.ref u0, .ref f0, .ref e0, .ref g0, .ref aRp, .ref aNr, .ref aI, .ref c0, .ref h0, .int (an)])), (u0, .inr (1, [.ref aK, .ref aX, .ref aY, .ref aN, .ref aV, .ref aM, .int (nI (n)), .int (nI (R))]))] H [] → W p l e (headSpec wsB_binary { frames := 7, cells := 1, slots := 6, locals := 150 }).room s m [.ref b0, .int (nI (op)), .int (x), .int (y)].toArray below meth c H [] 0 0 Q (F0 m 0 ls []) from hgo _ rfl hG
  clear hG
  intro H hH hG
  refine lv_iload_n hx hb dB_binary_0 rfl (lv_at hl 1 rfl) ?_
  refine lv_if_lt (tgt := 9) hx hb dB_binary_1 (by decide) (fun h1 => ?_) (fun h1 => ?_)
  · skip
    replace h1 := (nI_ltI (a := op) (b := 0) (by omega) (by omega)).mp h1
    (exfalso; omega)
  replace h1 : ¬ op < 0 := fun hq0 => h1 ((nI_ltI (a := op) (b := 0) (by omega) (by omega)).mpr hq0)
  refine lv_iload_n hx hb dB_binary_4 rfl (lv_at hl 1 rfl) ?_
  refine lv_iconst (v := 5) hx hb dB_binary_5 (by decide) ?_
  refine lv_icmp_le (tgt := 19) hx hb dB_binary_6 (by decide) (fun h6 => ?_) (fun h6 => ?_)
  · skip
    replace h6 := (nI_leI (a := op) (b := 5) (by omega) (by omega)).mp h6
    refine lv_aload_n hx hb dB_binary_19 rfl (lv_at hl 0 rfl) ?_
    refine lv_iload_n hx hb dB_binary_20 rfl (lv_at hl 2 rfl) ?_
    subst hQ
    exact dx_callT (As := [.int (x)]) (rest := []) ⟨hx, hb, hml, hown, hts⟩ (cx_req l dC dI cI cZ htr b0 u0 aK aX aY aN aV aM f0 e0 g0 aRp aNr aI c0 h0 n R (an) (x) H.size hinv) (dc_V 1 hts tw_370 tw_372 tp_B_requireValue tw_1 tw_373 rfl rfl (by decide +kernel) ⟨Nat.le_of_ble_eq_true rfl, Nat.le_of_ble_eq_true rfl⟩) (dw_preV (ci := 0) (wc := [(b0, .inr (0, [.ref u0, .ref f0, .ref e0, .ref g0, .ref aRp, .ref aNr, .ref aI, .ref c0, .ref h0, .int (an)])), (u0, .inr (1, [.ref aK, .ref aX, .ref aY, .ref aN, .ref aV, .ref aM, .int (nI (n)), .int (nI (R))]))]) hG [0, 1] [0, 1] rfl rfl (by decide) rfl rfl (q0 := 0) rfl) hH hNx hno hlocks rfl hl.1 rfl (Nat.le_of_ble_eq_true rfl) dB_binary_21 ⟨Nat.le_of_ble_eq_true rfl, Nat.le_of_ble_eq_true rfl⟩
  replace h6 : ¬ op ≤ 5 := fun hq0 => h6 ((nI_leI (a := op) (b := 5) (by omega) (by omega)).mpr hq0)
  (exfalso; omega)

set_option maxRecDepth 100000 in
set_option maxHeartbeats 4000000 in
theorem cx_binary_2y (l : Launch) (dC : Nat → ClassId) (dI : Nat → Nat → Nat) (cI cZ : ClassId) (htr : l.stackTraces = false) (b0 u0 aK aX aY aN aV aM f0 e0 g0 aRp aNr aI c0 h0 n R : Nat) (an : Int32) (op x : Nat) (y : Int32) (sz : Nat) (ho : op ≤ 5) (hn : n ≤ 24) (hx9 : x < n) (hinv : y < 0 ∨ nI n ≤ y) : dx_Met l yB_binary wsB_binary { frames := 7, cells := 1, slots := 6, locals := 150 } (fun a U => va_Pc [.ref b0, .int (nI (op)), .int (nI (x)), .int (y)] (dw_pre (dC, dI) vwCl [(b0, .inr (0, [.ref u0, .ref f0, .ref e0, .ref g0, .ref aRp, .ref aNr, .ref aI, .ref c0, .ref h0, .int (an)])), (u0, .inr (1, [.ref aK, .ref aX, .ref aY, .ref aN, .ref aV, .ref aM, .int (nI (n)), .int (nI (R))]))] [(cI, .int), (cZ, .boolean)] sz) a U ∧ dx_N U) xIO := by
  refine dx_ofW (cc := cB_binary) (maxL := 4) (ret := (some .int)) (by decide) rfl ?_
  intro p e s m args below meth c s₁ B hml hv0
  obtain ⟨hv0, hNx⟩ := hv0
  have hx := B.exec
  have hb := B.bytes
  have hr := B.returns
  have hts := atoms_spec (ws := wsB_binary) B.pre
  have hown : s.vm.findClass RB = some m.cls := findClass_of_methodNamed B.named
  have hlocks := B.notSynchronized
  have hno := B.noHandlers (hts _ List.mem_cons_self)
  obtain ⟨rfl, hsz, hG⟩ := dw_enter hv0
  generalize va_A [(b0, .inr (0, [.ref u0, .ref f0, .ref e0, .ref g0, .ref aRp, .ref aNr, .ref aI, .ref c0, .ref h0, .int (an)])), (u0, .inr (1, [.ref aK, .ref aX, .ref aY, .ref aN, .ref aV, .ref aM, .int (nI (n)), .int (nI (R))]))] sz = A at hG ⊢
  have hl := lv_entry ([.ref b0, .int (nI (op)), .int (nI (x)), .int (y)]) (n := 4) (Nat.le_of_ble_eq_true rfl)
  rw [lg_entry_eq]
  generalize (lg_sl ([.ref b0, .int (nI (op)), .int (nI (x)), .int (y)]) ++ List.replicate (4 - (lg_sl ([.ref b0, .int (nI (op)), .int (nI (x)), .int (y)])).length) Slot.unset).toArray = ls at hl ⊢
  have hl : lv_has ls 4 [(0, .ref b0), (1, .int (nI (op))), (2, .int (nI (x))), (3, .int (y))] := hl
  refine dw_Q (fun Q hQ => ?_)
  suffices hgo : ∀ (H : Heap), H = s.heap → dw_G (dC, dI) vwCl [(cI, .int), (cZ, .boolean)] A s.heap s [(b0, .inr (0, [.ref u0, .ref f0, .ref e0, .ref g0, .ref aRp, .ref aNr, .ref aI, .ref c0, .ref h0, .int (an)])), (u0, .inr (1, [.ref aK, .ref aX, .ref aY, .ref aN, .ref aV, .ref aM, .int (nI (n)), .int (nI (R))]))] H [] → W p l e (headSpec wsB_binary { frames := 7, cells := 1, slots := 6, locals := 150 }).room s m [.ref b0, .int (nI (op)), .int (nI (x)), .int (y)].toArray below meth c H [] 0 0 Q (F0 m 0 ls []) from hgo _ rfl hG
  clear hG
  intro H hH hG
  refine lv_iload_n hx hb dB_binary_0 rfl (lv_at hl 1 rfl) ?_
  refine lv_if_lt (tgt := 9) hx hb dB_binary_1 (by decide) (fun h1 => ?_) (fun h1 => ?_)
  · skip
    replace h1 := (nI_ltI (a := op) (b := 0) (by omega) (by omega)).mp h1
    (exfalso; omega)
  replace h1 : ¬ op < 0 := fun hq0 => h1 ((nI_ltI (a := op) (b := 0) (by omega) (by omega)).mpr hq0)
  refine lv_iload_n hx hb dB_binary_4 rfl (lv_at hl 1 rfl) ?_
  refine lv_iconst (v := 5) hx hb dB_binary_5 (by decide) ?_
  refine lv_icmp_le (tgt := 19) hx hb dB_binary_6 (by decide) (fun h6 => ?_) (fun h6 => ?_)
  · skip
    replace h6 := (nI_leI (a := op) (b := 5) (by omega) (by omega)).mp h6
    refine lv_aload_n hx hb dB_binary_19 rfl (lv_at hl 0 rfl) ?_
    refine lv_iload_n hx hb dB_binary_20 rfl (lv_at hl 2 rfl) ?_
    refine dx_callq (va_runV (As := [.int (nI (x))]) (rest := []) ⟨hx, hb, hml, hown, hts⟩ (cq_req l dC dI cI cZ b0 u0 aK aX aY aN aV aM f0 e0 g0 aRp aNr aI c0 h0 n R (an) (x) H.size (by omega) (by omega)) (dc_V 1 hts tw_370 tw_372 tp_B_requireValue tw_1 tw_373 rfl rfl (by decide +kernel) ⟨Nat.le_of_ble_eq_true rfl, Nat.le_of_ble_eq_true rfl⟩) (dw_preV (ci := 0) (wc := [(b0, .inr (0, [.ref u0, .ref f0, .ref e0, .ref g0, .ref aRp, .ref aNr, .ref aI, .ref c0, .ref h0, .int (an)])), (u0, .inr (1, [.ref aK, .ref aX, .ref aY, .ref aN, .ref aV, .ref aM, .int (nI (n)), .int (nI (R))]))]) hG [0, 1] [0, 1] rfl rfl (by decide) rfl rfl (q0 := 0) rfl) rfl rfl hl.1 rfl (lv_room (Nat.le_of_ble_eq_true rfl)) dB_binary_21 ⟨Nat.zero_le _, Nat.zero_le _⟩) ?_
    refine lv_aload_n hx hb dB_binary_24 rfl (lv_at hl 0 rfl) ?_
    refine lv_iload_n hx hb dB_binary_25 rfl (lv_at hl 3 rfl) ?_
    subst hQ
    exact dx_callT (As := [.int (y)]) (rest := []) ⟨hx, hb, hml, hown, hts⟩ (cx_req l dC dI cI cZ htr b0 u0 aK aX aY aN aV aM f0 e0 g0 aRp aNr aI c0 h0 n R (an) (y) H.size hinv) (dc_V 1 hts tw_370 tw_372 tp_B_requireValue tw_1 tw_373 rfl rfl (by decide +kernel) ⟨Nat.le_of_ble_eq_true rfl, Nat.le_of_ble_eq_true rfl⟩) (dw_preV (ci := 0) (wc := [(b0, .inr (0, [.ref u0, .ref f0, .ref e0, .ref g0, .ref aRp, .ref aNr, .ref aI, .ref c0, .ref h0, .int (an)])), (u0, .inr (1, [.ref aK, .ref aX, .ref aY, .ref aN, .ref aV, .ref aM, .int (nI (n)), .int (nI (R))]))]) hG [0, 1] [0, 1] rfl rfl (by decide) rfl rfl (q0 := 0) rfl) hH hNx hno hlocks rfl hl.1 rfl (Nat.le_of_ble_eq_true rfl) dB_binary_26 ⟨Nat.le_of_ble_eq_true rfl, Nat.le_of_ble_eq_true rfl⟩
  replace h6 : ¬ op ≤ 5 := fun hq0 => h6 ((nI_leI (a := op) (b := 5) (by omega) (by omega)).mpr hq0)
  (exfalso; omega)

set_option maxRecDepth 100000 in
set_option maxHeartbeats 4000000 in
theorem cx_binary_3 (l : Launch) (dC : Nat → ClassId) (dI : Nat → Nat → Nat) (cI cZ : ClassId) (htr : l.stackTraces = false) (b0 u0 aK aX aY aN aV aM f0 e0 g0 aRp aNr aI c0 h0 n R : Nat) (an : Int32) (op x y : Nat) (sz : Nat) (ho : op ≤ 5) (hx9 : x < n) (hy9 : y < n) (hn : n = 24) : dx_Met l yB_binary wsB_binary { frames := 7, cells := 1, slots := 6, locals := 150 } (fun a U => va_Pc [.ref b0, .int (nI (op)), .int (nI (x)), .int (nI (y))] (dw_pre (dC, dI) vwCl [(b0, .inr (0, [.ref u0, .ref f0, .ref e0, .ref g0, .ref aRp, .ref aNr, .ref aI, .ref c0, .ref h0, .int (an)])), (u0, .inr (1, [.ref aK, .ref aX, .ref aY, .ref aN, .ref aV, .ref aM, .int (nI (n)), .int (nI (R))]))] [(cI, .int), (cZ, .boolean)] sz) a U ∧ dx_N U) xIS := by
  refine dx_ofW (cc := cB_binary) (maxL := 4) (ret := (some .int)) (by decide) rfl ?_
  intro p e s m args below meth c s₁ B hml hv0
  obtain ⟨hv0, hNx⟩ := hv0
  have hx := B.exec
  have hb := B.bytes
  have hr := B.returns
  have hts := atoms_spec (ws := wsB_binary) B.pre
  have hown : s.vm.findClass RB = some m.cls := findClass_of_methodNamed B.named
  have hlocks := B.notSynchronized
  have hno := B.noHandlers (hts _ List.mem_cons_self)
  obtain ⟨rfl, hsz, hG⟩ := dw_enter hv0
  generalize va_A [(b0, .inr (0, [.ref u0, .ref f0, .ref e0, .ref g0, .ref aRp, .ref aNr, .ref aI, .ref c0, .ref h0, .int (an)])), (u0, .inr (1, [.ref aK, .ref aX, .ref aY, .ref aN, .ref aV, .ref aM, .int (nI (n)), .int (nI (R))]))] sz = A at hG ⊢
  have hl := lv_entry ([.ref b0, .int (nI (op)), .int (nI (x)), .int (nI (y))]) (n := 4) (Nat.le_of_ble_eq_true rfl)
  rw [lg_entry_eq]
  generalize (lg_sl ([.ref b0, .int (nI (op)), .int (nI (x)), .int (nI (y))]) ++ List.replicate (4 - (lg_sl ([.ref b0, .int (nI (op)), .int (nI (x)), .int (nI (y))])).length) Slot.unset).toArray = ls at hl ⊢
  have hl : lv_has ls 4 [(0, .ref b0), (1, .int (nI (op))), (2, .int (nI (x))), (3, .int (nI (y)))] := hl
  refine dw_Q (fun Q hQ => ?_)
  suffices hgo : ∀ (H : Heap), H = s.heap → dw_G (dC, dI) vwCl [(cI, .int), (cZ, .boolean)] A s.heap s [(b0, .inr (0, [.ref u0, .ref f0, .ref e0, .ref g0, .ref aRp, .ref aNr, .ref aI, .ref c0, .ref h0, .int (an)])), (u0, .inr (1, [.ref aK, .ref aX, .ref aY, .ref aN, .ref aV, .ref aM, .int (nI (n)), .int (nI (R))]))] H [] → W p l e (headSpec wsB_binary { frames := 7, cells := 1, slots := 6, locals := 150 }).room s m [.ref b0, .int (nI (op)), .int (nI (x)), .int (nI (y))].toArray below meth c H [] 0 0 Q (F0 m 0 ls []) from hgo _ rfl hG
  clear hG
  intro H hH hG
  refine lv_iload_n hx hb dB_binary_0 rfl (lv_at hl 1 rfl) ?_
  refine lv_if_lt (tgt := 9) hx hb dB_binary_1 (by decide) (fun h1 => ?_) (fun h1 => ?_)
  · skip
    replace h1 := (nI_ltI (a := op) (b := 0) (by omega) (by omega)).mp h1
    (exfalso; omega)
  replace h1 : ¬ op < 0 := fun hq0 => h1 ((nI_ltI (a := op) (b := 0) (by omega) (by omega)).mpr hq0)
  refine lv_iload_n hx hb dB_binary_4 rfl (lv_at hl 1 rfl) ?_
  refine lv_iconst (v := 5) hx hb dB_binary_5 (by decide) ?_
  refine lv_icmp_le (tgt := 19) hx hb dB_binary_6 (by decide) (fun h6 => ?_) (fun h6 => ?_)
  · skip
    replace h6 := (nI_leI (a := op) (b := 5) (by omega) (by omega)).mp h6
    refine lv_aload_n hx hb dB_binary_19 rfl (lv_at hl 0 rfl) ?_
    refine lv_iload_n hx hb dB_binary_20 rfl (lv_at hl 2 rfl) ?_
    refine dx_callq (va_runV (As := [.int (nI (x))]) (rest := []) ⟨hx, hb, hml, hown, hts⟩ (cq_req l dC dI cI cZ b0 u0 aK aX aY aN aV aM f0 e0 g0 aRp aNr aI c0 h0 n R (an) (x) H.size (by omega) (by omega)) (dc_V 1 hts tw_370 tw_372 tp_B_requireValue tw_1 tw_373 rfl rfl (by decide +kernel) ⟨Nat.le_of_ble_eq_true rfl, Nat.le_of_ble_eq_true rfl⟩) (dw_preV (ci := 0) (wc := [(b0, .inr (0, [.ref u0, .ref f0, .ref e0, .ref g0, .ref aRp, .ref aNr, .ref aI, .ref c0, .ref h0, .int (an)])), (u0, .inr (1, [.ref aK, .ref aX, .ref aY, .ref aN, .ref aV, .ref aM, .int (nI (n)), .int (nI (R))]))]) hG [0, 1] [0, 1] rfl rfl (by decide) rfl rfl (q0 := 0) rfl) rfl rfl hl.1 rfl (lv_room (Nat.le_of_ble_eq_true rfl)) dB_binary_21 ⟨Nat.zero_le _, Nat.zero_le _⟩) ?_
    refine lv_aload_n hx hb dB_binary_24 rfl (lv_at hl 0 rfl) ?_
    refine lv_iload_n hx hb dB_binary_25 rfl (lv_at hl 3 rfl) ?_
    refine dx_callq (va_runV (As := [.int (nI (y))]) (rest := []) ⟨hx, hb, hml, hown, hts⟩ (cq_req l dC dI cI cZ b0 u0 aK aX aY aN aV aM f0 e0 g0 aRp aNr aI c0 h0 n R (an) (y) H.size (by omega) (by omega)) (dc_V 1 hts tw_370 tw_372 tp_B_requireValue tw_1 tw_373 rfl rfl (by decide +kernel) ⟨Nat.le_of_ble_eq_true rfl, Nat.le_of_ble_eq_true rfl⟩) (dw_preV (ci := 0) (wc := [(b0, .inr (0, [.ref u0, .ref f0, .ref e0, .ref g0, .ref aRp, .ref aNr, .ref aI, .ref c0, .ref h0, .int (an)])), (u0, .inr (1, [.ref aK, .ref aX, .ref aY, .ref aN, .ref aV, .ref aM, .int (nI (n)), .int (nI (R))]))]) hG [0, 1] [0, 1] rfl rfl (by decide) rfl rfl (q0 := 0) rfl) rfl rfl hl.1 rfl (lv_room (Nat.le_of_ble_eq_true rfl)) dB_binary_26 ⟨Nat.zero_le _, Nat.zero_le _⟩) ?_
    refine lv_aload_n hx hb dB_binary_29 rfl (lv_at hl 0 rfl) ?_
    refine lv_iload_n hx hb dB_binary_30 rfl (lv_at hl 1 rfl) ?_
    refine lv_iload_n hx hb dB_binary_31 rfl (lv_at hl 2 rfl) ?_
    refine lv_iload_n hx hb dB_binary_32 rfl (lv_at hl 3 rfl) ?_
    refine lv_iconst (v := 0) hx hb dB_binary_33 (by decide) ?_
    subst hQ
    exact dx_callT (As := [.int (nI (op)), .int (nI (x)), .int (nI (y)), .int (0)]) (rest := []) ⟨hx, hb, hml, hown, hts⟩ (cx_append l dC dI cI cZ htr b0 u0 aK aX aY aN aV aM f0 e0 g0 aRp aNr aI c0 h0 n R (an) (nI (op)) (nI (x)) (nI (y)) (0) H.size hn) (dc_V 4 hts tw_330 tw_332 tp_B_append tw_1 tw_333 rfl rfl (by decide +kernel) ⟨Nat.le_of_ble_eq_true rfl, Nat.le_of_ble_eq_true rfl⟩) (dw_preV (ci := 0) (wc := [(b0, .inr (0, [.ref u0, .ref f0, .ref e0, .ref g0, .ref aRp, .ref aNr, .ref aI, .ref c0, .ref h0, .int (an)])), (u0, .inr (1, [.ref aK, .ref aX, .ref aY, .ref aN, .ref aV, .ref aM, .int (nI (n)), .int (nI (R))]))]) hG [0, 1] [0, 1] rfl rfl (by decide) rfl rfl (q0 := 0) rfl) hH hNx hno hlocks rfl hl.1 rfl (Nat.le_of_ble_eq_true rfl) dB_binary_34 ⟨Nat.le_of_ble_eq_true rfl, Nat.le_of_ble_eq_true rfl⟩
  replace h6 : ¬ op ≤ 5 := fun hq0 => h6 ((nI_leI (a := op) (b := 5) (by omega) (by omega)).mpr hq0)
  (exfalso; omega)

set_option maxRecDepth 100000 in
set_option maxHeartbeats 4000000 in
theorem cx_shift_1o (l : Launch) (dC : Nat → ClassId) (dI : Nat → Nat → Nat) (cI cZ : ClassId) (htr : l.stackTraces = false) (b0 u0 aK aX aY aN aV aM f0 e0 g0 aRp aNr aI c0 h0 n R : Nat) (an : Int32) (op x d : Int32) (sz : Nat) (hbad : op < 0 ∨ 2 < op) : dx_Met l yB_shift wsB_shift { frames := 7, cells := 1, slots := 6, locals := 150 } (fun a U => va_Pc [.ref b0, .int (op), .int (x), .int (d)] (dw_pre (dC, dI) vwCl [(b0, .inr (0, [.ref u0, .ref f0, .ref e0, .ref g0, .ref aRp, .ref aNr, .ref aI, .ref c0, .ref h0, .int (an)])), (u0, .inr (1, [.ref aK, .ref aX, .ref aY, .ref aN, .ref aV, .ref aM, .int (nI (n)), .int (nI (R))]))] [(cI, .int), (cZ, .boolean)] sz) a U ∧ dx_N U) xIA := by
  refine dx_ofW (cc := cB_shift) (maxL := 4) (ret := (some .int)) (by decide) rfl ?_
  intro p e s m args below meth c s₁ B hml hv0
  obtain ⟨hv0, hNx⟩ := hv0
  have hx := B.exec
  have hb := B.bytes
  have hr := B.returns
  have hts := atoms_spec (ws := wsB_shift) B.pre
  have hown : s.vm.findClass RB = some m.cls := findClass_of_methodNamed B.named
  have hlocks := B.notSynchronized
  have hno := B.noHandlers (hts _ List.mem_cons_self)
  obtain ⟨rfl, hsz, hG⟩ := dw_enter hv0
  generalize va_A [(b0, .inr (0, [.ref u0, .ref f0, .ref e0, .ref g0, .ref aRp, .ref aNr, .ref aI, .ref c0, .ref h0, .int (an)])), (u0, .inr (1, [.ref aK, .ref aX, .ref aY, .ref aN, .ref aV, .ref aM, .int (nI (n)), .int (nI (R))]))] sz = A at hG ⊢
  have hl := lv_entry ([.ref b0, .int (op), .int (x), .int (d)]) (n := 4) (Nat.le_of_ble_eq_true rfl)
  rw [lg_entry_eq]
  generalize (lg_sl ([.ref b0, .int (op), .int (x), .int (d)]) ++ List.replicate (4 - (lg_sl ([.ref b0, .int (op), .int (x), .int (d)])).length) Slot.unset).toArray = ls at hl ⊢
  have hl : lv_has ls 4 [(0, .ref b0), (1, .int (op)), (2, .int (x)), (3, .int (d))] := hl
  refine dw_Q (fun Q hQ => ?_)
  suffices hgo : ∀ (H : Heap), H = s.heap → dw_G (dC, dI) vwCl [(cI, .int), (cZ, .boolean)] A s.heap s [(b0, .inr (0, [.ref u0, .ref f0, .ref e0, .ref g0, .ref aRp, .ref aNr, .ref aI, .ref c0, .ref h0, .int (an)])), (u0, .inr (1, [.ref aK, .ref aX, .ref aY, .ref aN, .ref aV, .ref aM, .int (nI (n)), .int (nI (R))]))] H [] → W p l e (headSpec wsB_shift { frames := 7, cells := 1, slots := 6, locals := 150 }).room s m [.ref b0, .int (op), .int (x), .int (d)].toArray below meth c H [] 0 0 Q (F0 m 0 ls []) from hgo _ rfl hG
  clear hG
  intro H hH hG
  refine lv_iload_n hx hb dB_shift_0 rfl (lv_at hl 1 rfl) ?_
  refine lv_if_lt (tgt := 9) hx hb dB_shift_1 (by decide) (fun h1 => ?_) (fun h1 => ?_)
  · skip
    subst hQ
    exact dx_throw (names := xUp) hx hb htr hno hlocks (hl.1.trans hml.symm) hH hown hNx (dx_o 0 rfl) (dx_o 3 rfl) (dx_o 10 rfl) dx_IA (by decide +kernel) (by decide +kernel) (Nat.le_of_ble_eq_true rfl) (Nat.le_of_ble_eq_true rfl) (Nat.le_of_ble_eq_true rfl) (Nat.le_of_ble_eq_true rfl) dB_shift_9 dB_shift_12 dB_shift_13 dB_shift_15 dB_shift_18
  refine lv_iload_n hx hb dB_shift_4 rfl (lv_at hl 1 rfl) ?_
  refine lv_iconst (v := 2) hx hb dB_shift_5 (by decide) ?_
  refine lv_icmp_le (tgt := 19) hx hb dB_shift_6 (by decide) (fun h6 => ?_) (fun h6 => ?_)
  · skip
    exact absurd hbad (fun q => q.elim h1 (fun z => Int32.not_lt.mpr h6 z))
  subst hQ
  exact dx_throw (names := xUp) hx hb htr hno hlocks (hl.1.trans hml.symm) hH hown hNx (dx_o 0 rfl) (dx_o 3 rfl) (dx_o 10 rfl) dx_IA (by decide +kernel) (by decide +kernel) (Nat.le_of_ble_eq_true rfl) (Nat.le_of_ble_eq_true rfl) (Nat.le_of_ble_eq_true rfl) (Nat.le_of_ble_eq_true rfl) dB_shift_9 dB_shift_12 dB_shift_13 dB_shift_15 dB_shift_18

set_option maxRecDepth 100000 in
set_option maxHeartbeats 4000000 in
theorem cx_shift_1d (l : Launch) (dC : Nat → ClassId) (dI : Nat → Nat → Nat) (cI cZ : ClassId) (htr : l.stackTraces = false) (b0 u0 aK aX aY aN aV aM f0 e0 g0 aRp aNr aI c0 h0 n R : Nat) (an : Int32) (op : Nat) (x d : Int32) (sz : Nat) (ho : op ≤ 2) (hbad : d < 0 ∨ 31 < d) : dx_Met l yB_shift wsB_shift { frames := 7, cells := 1, slots := 6, locals := 150 } (fun a U => va_Pc [.ref b0, .int (nI (op)), .int (x), .int (d)] (dw_pre (dC, dI) vwCl [(b0, .inr (0, [.ref u0, .ref f0, .ref e0, .ref g0, .ref aRp, .ref aNr, .ref aI, .ref c0, .ref h0, .int (an)])), (u0, .inr (1, [.ref aK, .ref aX, .ref aY, .ref aN, .ref aV, .ref aM, .int (nI (n)), .int (nI (R))]))] [(cI, .int), (cZ, .boolean)] sz) a U ∧ dx_N U) xIA := by
  refine dx_ofW (cc := cB_shift) (maxL := 4) (ret := (some .int)) (by decide) rfl ?_
  intro p e s m args below meth c s₁ B hml hv0
  obtain ⟨hv0, hNx⟩ := hv0
  have hx := B.exec
  have hb := B.bytes
  have hr := B.returns
  have hts := atoms_spec (ws := wsB_shift) B.pre
  have hown : s.vm.findClass RB = some m.cls := findClass_of_methodNamed B.named
  have hlocks := B.notSynchronized
  have hno := B.noHandlers (hts _ List.mem_cons_self)
  obtain ⟨rfl, hsz, hG⟩ := dw_enter hv0
  generalize va_A [(b0, .inr (0, [.ref u0, .ref f0, .ref e0, .ref g0, .ref aRp, .ref aNr, .ref aI, .ref c0, .ref h0, .int (an)])), (u0, .inr (1, [.ref aK, .ref aX, .ref aY, .ref aN, .ref aV, .ref aM, .int (nI (n)), .int (nI (R))]))] sz = A at hG ⊢
  have hl := lv_entry ([.ref b0, .int (nI (op)), .int (x), .int (d)]) (n := 4) (Nat.le_of_ble_eq_true rfl)
  rw [lg_entry_eq]
  generalize (lg_sl ([.ref b0, .int (nI (op)), .int (x), .int (d)]) ++ List.replicate (4 - (lg_sl ([.ref b0, .int (nI (op)), .int (x), .int (d)])).length) Slot.unset).toArray = ls at hl ⊢
  have hl : lv_has ls 4 [(0, .ref b0), (1, .int (nI (op))), (2, .int (x)), (3, .int (d))] := hl
  refine dw_Q (fun Q hQ => ?_)
  suffices hgo : ∀ (H : Heap), H = s.heap → dw_G (dC, dI) vwCl [(cI, .int), (cZ, .boolean)] A s.heap s [(b0, .inr (0, [.ref u0, .ref f0, .ref e0, .ref g0, .ref aRp, .ref aNr, .ref aI, .ref c0, .ref h0, .int (an)])), (u0, .inr (1, [.ref aK, .ref aX, .ref aY, .ref aN, .ref aV, .ref aM, .int (nI (n)), .int (nI (R))]))] H [] → W p l e (headSpec wsB_shift { frames := 7, cells := 1, slots := 6, locals := 150 }).room s m [.ref b0, .int (nI (op)), .int (x), .int (d)].toArray below meth c H [] 0 0 Q (F0 m 0 ls []) from hgo _ rfl hG
  clear hG
  intro H hH hG
  refine lv_iload_n hx hb dB_shift_0 rfl (lv_at hl 1 rfl) ?_
  refine lv_if_lt (tgt := 9) hx hb dB_shift_1 (by decide) (fun h1 => ?_) (fun h1 => ?_)
  · skip
    replace h1 := (nI_ltI (a := op) (b := 0) (by omega) (by omega)).mp h1
    (exfalso; omega)
  replace h1 : ¬ op < 0 := fun hq0 => h1 ((nI_ltI (a := op) (b := 0) (by omega) (by omega)).mpr hq0)
  refine lv_iload_n hx hb dB_shift_4 rfl (lv_at hl 1 rfl) ?_
  refine lv_iconst (v := 2) hx hb dB_shift_5 (by decide) ?_
  refine lv_icmp_le (tgt := 19) hx hb dB_shift_6 (by decide) (fun h6 => ?_) (fun h6 => ?_)
  · skip
    replace h6 := (nI_leI (a := op) (b := 2) (by omega) (by omega)).mp h6
    refine lv_iload_n hx hb dB_shift_19 rfl (lv_at hl 3 rfl) ?_
    refine lv_if_lt (tgt := 29) hx hb dB_shift_20 (by decide) (fun h20 => ?_) (fun h20 => ?_)
    · skip
      subst hQ
      exact dx_throw (names := xUp) hx hb htr hno hlocks (hl.1.trans hml.symm) hH hown hNx (dx_o 0 rfl) (dx_o 3 rfl) (dx_o 11 rfl) dx_IA (by decide +kernel) (by decide +kernel) (Nat.le_of_ble_eq_true rfl) (Nat.le_of_ble_eq_true rfl) (Nat.le_of_ble_eq_true rfl) (Nat.le_of_ble_eq_true rfl) dB_shift_29 dB_shift_32 dB_shift_33 dB_shift_35 dB_shift_38
    refine lv_iload_n hx hb dB_shift_23 rfl (lv_at hl 3 rfl) ?_
    refine lv_bipush (v := 31) hx hb dB_shift_24 (by decide) ?_
    refine lv_icmp_le (tgt := 39) hx hb dB_shift_26 (by decide) (fun h26 => ?_) (fun h26 => ?_)
    · skip
      exact absurd hbad (fun q => q.elim h20 (fun z => Int32.not_lt.mpr h26 z))
    subst hQ
    exact dx_throw (names := xUp) hx hb htr hno hlocks (hl.1.trans hml.symm) hH hown hNx (dx_o 0 rfl) (dx_o 3 rfl) (dx_o 11 rfl) dx_IA (by decide +kernel) (by decide +kernel) (Nat.le_of_ble_eq_true rfl) (Nat.le_of_ble_eq_true rfl) (Nat.le_of_ble_eq_true rfl) (Nat.le_of_ble_eq_true rfl) dB_shift_29 dB_shift_32 dB_shift_33 dB_shift_35 dB_shift_38
  replace h6 : ¬ op ≤ 2 := fun hq0 => h6 ((nI_leI (a := op) (b := 2) (by omega) (by omega)).mpr hq0)
  (exfalso; omega)

set_option maxRecDepth 100000 in
set_option maxHeartbeats 4000000 in
theorem cx_shift_2 (l : Launch) (dC : Nat → ClassId) (dI : Nat → Nat → Nat) (cI cZ : ClassId) (htr : l.stackTraces = false) (b0 u0 aK aX aY aN aV aM f0 e0 g0 aRp aNr aI c0 h0 n R : Nat) (an : Int32) (op d : Nat) (x : Int32) (sz : Nat) (ho : op ≤ 2) (hd : d ≤ 31) (hinv : x < 0 ∨ nI n ≤ x) : dx_Met l yB_shift wsB_shift { frames := 7, cells := 1, slots := 6, locals := 150 } (fun a U => va_Pc [.ref b0, .int (nI (op)), .int (x), .int (nI (d))] (dw_pre (dC, dI) vwCl [(b0, .inr (0, [.ref u0, .ref f0, .ref e0, .ref g0, .ref aRp, .ref aNr, .ref aI, .ref c0, .ref h0, .int (an)])), (u0, .inr (1, [.ref aK, .ref aX, .ref aY, .ref aN, .ref aV, .ref aM, .int (nI (n)), .int (nI (R))]))] [(cI, .int), (cZ, .boolean)] sz) a U ∧ dx_N U) xIO := by
  refine dx_ofW (cc := cB_shift) (maxL := 4) (ret := (some .int)) (by decide) rfl ?_
  intro p e s m args below meth c s₁ B hml hv0
  obtain ⟨hv0, hNx⟩ := hv0
  have hx := B.exec
  have hb := B.bytes
  have hr := B.returns
  have hts := atoms_spec (ws := wsB_shift) B.pre
  have hown : s.vm.findClass RB = some m.cls := findClass_of_methodNamed B.named
  have hlocks := B.notSynchronized
  have hno := B.noHandlers (hts _ List.mem_cons_self)
  obtain ⟨rfl, hsz, hG⟩ := dw_enter hv0
  generalize va_A [(b0, .inr (0, [.ref u0, .ref f0, .ref e0, .ref g0, .ref aRp, .ref aNr, .ref aI, .ref c0, .ref h0, .int (an)])), (u0, .inr (1, [.ref aK, .ref aX, .ref aY, .ref aN, .ref aV, .ref aM, .int (nI (n)), .int (nI (R))]))] sz = A at hG ⊢
  have hl := lv_entry ([.ref b0, .int (nI (op)), .int (x), .int (nI (d))]) (n := 4) (Nat.le_of_ble_eq_true rfl)
  rw [lg_entry_eq]
  generalize (lg_sl ([.ref b0, .int (nI (op)), .int (x), .int (nI (d))]) ++ List.replicate (4 - (lg_sl ([.ref b0, .int (nI (op)), .int (x), .int (nI (d))])).length) Slot.unset).toArray = ls at hl ⊢
  have hl : lv_has ls 4 [(0, .ref b0), (1, .int (nI (op))), (2, .int (x)), (3, .int (nI (d)))] := hl
  refine dw_Q (fun Q hQ => ?_)
  suffices hgo : ∀ (H : Heap), H = s.heap → dw_G (dC, dI) vwCl [(cI, .int), (cZ, .boolean)] A s.heap s [(b0, .inr (0, [.ref u0, .ref f0, .ref e0, .ref g0, .ref aRp, .ref aNr, .ref aI, .ref c0, .ref h0, .int (an)])), (u0, .inr (1, [.ref aK, .ref aX, .ref aY, .ref aN, .ref aV, .ref aM, .int (nI (n)), .int (nI (R))]))] H [] → W p l e (headSpec wsB_shift { frames := 7, cells := 1, slots := 6, locals := 150 }).room s m [.ref b0, .int (nI (op)), .int (x), .int (nI (d))].toArray below meth c H [] 0 0 Q (F0 m 0 ls []) from hgo _ rfl hG
  clear hG
  intro H hH hG
  refine lv_iload_n hx hb dB_shift_0 rfl (lv_at hl 1 rfl) ?_
  refine lv_if_lt (tgt := 9) hx hb dB_shift_1 (by decide) (fun h1 => ?_) (fun h1 => ?_)
  · skip
    replace h1 := (nI_ltI (a := op) (b := 0) (by omega) (by omega)).mp h1
    (exfalso; omega)
  replace h1 : ¬ op < 0 := fun hq0 => h1 ((nI_ltI (a := op) (b := 0) (by omega) (by omega)).mpr hq0)
  refine lv_iload_n hx hb dB_shift_4 rfl (lv_at hl 1 rfl) ?_
  refine lv_iconst (v := 2) hx hb dB_shift_5 (by decide) ?_
  refine lv_icmp_le (tgt := 19) hx hb dB_shift_6 (by decide) (fun h6 => ?_) (fun h6 => ?_)
  · skip
    replace h6 := (nI_leI (a := op) (b := 2) (by omega) (by omega)).mp h6
    refine lv_iload_n hx hb dB_shift_19 rfl (lv_at hl 3 rfl) ?_
    refine lv_if_lt (tgt := 29) hx hb dB_shift_20 (by decide) (fun h20 => ?_) (fun h20 => ?_)
    · skip
      replace h20 := (nI_ltI (a := d) (b := 0) (by omega) (by omega)).mp h20
      (exfalso; omega)
    replace h20 : ¬ d < 0 := fun hq0 => h20 ((nI_ltI (a := d) (b := 0) (by omega) (by omega)).mpr hq0)
    refine lv_iload_n hx hb dB_shift_23 rfl (lv_at hl 3 rfl) ?_
    refine lv_bipush (v := 31) hx hb dB_shift_24 (by decide) ?_
    refine lv_icmp_le (tgt := 39) hx hb dB_shift_26 (by decide) (fun h26 => ?_) (fun h26 => ?_)
    · skip
      replace h26 := (nI_leI (a := d) (b := 31) (by omega) (by omega)).mp h26
      refine lv_aload_n hx hb dB_shift_39 rfl (lv_at hl 0 rfl) ?_
      refine lv_iload_n hx hb dB_shift_40 rfl (lv_at hl 2 rfl) ?_
      subst hQ
      exact dx_callT (As := [.int (x)]) (rest := []) ⟨hx, hb, hml, hown, hts⟩ (cx_req l dC dI cI cZ htr b0 u0 aK aX aY aN aV aM f0 e0 g0 aRp aNr aI c0 h0 n R (an) (x) H.size hinv) (dc_V 1 hts tw_370 tw_372 tp_B_requireValue tw_1 tw_373 rfl rfl (by decide +kernel) ⟨Nat.le_of_ble_eq_true rfl, Nat.le_of_ble_eq_true rfl⟩) (dw_preV (ci := 0) (wc := [(b0, .inr (0, [.ref u0, .ref f0, .ref e0, .ref g0, .ref aRp, .ref aNr, .ref aI, .ref c0, .ref h0, .int (an)])), (u0, .inr (1, [.ref aK, .ref aX, .ref aY, .ref aN, .ref aV, .ref aM, .int (nI (n)), .int (nI (R))]))]) hG [0, 1] [0, 1] rfl rfl (by decide) rfl rfl (q0 := 0) rfl) hH hNx hno hlocks rfl hl.1 rfl (Nat.le_of_ble_eq_true rfl) dB_shift_41 ⟨Nat.le_of_ble_eq_true rfl, Nat.le_of_ble_eq_true rfl⟩
    replace h26 : ¬ d ≤ 31 := fun hq0 => h26 ((nI_leI (a := d) (b := 31) (by omega) (by omega)).mpr hq0)
    (exfalso; omega)
  replace h6 : ¬ op ≤ 2 := fun hq0 => h6 ((nI_leI (a := op) (b := 2) (by omega) (by omega)).mpr hq0)
  (exfalso; omega)

set_option maxRecDepth 100000 in
set_option maxHeartbeats 4000000 in
theorem cx_shift_3 (l : Launch) (dC : Nat → ClassId) (dI : Nat → Nat → Nat) (cI cZ : ClassId) (htr : l.stackTraces = false) (b0 u0 aK aX aY aN aV aM f0 e0 g0 aRp aNr aI c0 h0 n R : Nat) (an : Int32) (op x d : Nat) (sz : Nat) (ho : op ≤ 2) (hd : d ≤ 31) (hx9 : x < n) (hn : n = 24) : dx_Met l yB_shift wsB_shift { frames := 7, cells := 1, slots := 6, locals := 150 } (fun a U => va_Pc [.ref b0, .int (nI (op)), .int (nI (x)), .int (nI (d))] (dw_pre (dC, dI) vwCl [(b0, .inr (0, [.ref u0, .ref f0, .ref e0, .ref g0, .ref aRp, .ref aNr, .ref aI, .ref c0, .ref h0, .int (an)])), (u0, .inr (1, [.ref aK, .ref aX, .ref aY, .ref aN, .ref aV, .ref aM, .int (nI (n)), .int (nI (R))]))] [(cI, .int), (cZ, .boolean)] sz) a U ∧ dx_N U) xIS := by
  refine dx_ofW (cc := cB_shift) (maxL := 4) (ret := (some .int)) (by decide) rfl ?_
  intro p e s m args below meth c s₁ B hml hv0
  obtain ⟨hv0, hNx⟩ := hv0
  have hx := B.exec
  have hb := B.bytes
  have hr := B.returns
  have hts := atoms_spec (ws := wsB_shift) B.pre
  have hown : s.vm.findClass RB = some m.cls := findClass_of_methodNamed B.named
  have hlocks := B.notSynchronized
  have hno := B.noHandlers (hts _ List.mem_cons_self)
  obtain ⟨rfl, hsz, hG⟩ := dw_enter hv0
  generalize va_A [(b0, .inr (0, [.ref u0, .ref f0, .ref e0, .ref g0, .ref aRp, .ref aNr, .ref aI, .ref c0, .ref h0, .int (an)])), (u0, .inr (1, [.ref aK, .ref aX, .ref aY, .ref aN, .ref aV, .ref aM, .int (nI (n)), .int (nI (R))]))] sz = A at hG ⊢
  have hl := lv_entry ([.ref b0, .int (nI (op)), .int (nI (x)), .int (nI (d))]) (n := 4) (Nat.le_of_ble_eq_true rfl)
  rw [lg_entry_eq]
  generalize (lg_sl ([.ref b0, .int (nI (op)), .int (nI (x)), .int (nI (d))]) ++ List.replicate (4 - (lg_sl ([.ref b0, .int (nI (op)), .int (nI (x)), .int (nI (d))])).length) Slot.unset).toArray = ls at hl ⊢
  have hl : lv_has ls 4 [(0, .ref b0), (1, .int (nI (op))), (2, .int (nI (x))), (3, .int (nI (d)))] := hl
  refine dw_Q (fun Q hQ => ?_)
  suffices hgo : ∀ (H : Heap), H = s.heap → dw_G (dC, dI) vwCl [(cI, .int), (cZ, .boolean)] A s.heap s [(b0, .inr (0, [.ref u0, .ref f0, .ref e0, .ref g0, .ref aRp, .ref aNr, .ref aI, .ref c0, .ref h0, .int (an)])), (u0, .inr (1, [.ref aK, .ref aX, .ref aY, .ref aN, .ref aV, .ref aM, .int (nI (n)), .int (nI (R))]))] H [] → W p l e (headSpec wsB_shift { frames := 7, cells := 1, slots := 6, locals := 150 }).room s m [.ref b0, .int (nI (op)), .int (nI (x)), .int (nI (d))].toArray below meth c H [] 0 0 Q (F0 m 0 ls []) from hgo _ rfl hG
  clear hG
  intro H hH hG
  refine lv_iload_n hx hb dB_shift_0 rfl (lv_at hl 1 rfl) ?_
  refine lv_if_lt (tgt := 9) hx hb dB_shift_1 (by decide) (fun h1 => ?_) (fun h1 => ?_)
  · skip
    replace h1 := (nI_ltI (a := op) (b := 0) (by omega) (by omega)).mp h1
    (exfalso; omega)
  replace h1 : ¬ op < 0 := fun hq0 => h1 ((nI_ltI (a := op) (b := 0) (by omega) (by omega)).mpr hq0)
  refine lv_iload_n hx hb dB_shift_4 rfl (lv_at hl 1 rfl) ?_
  refine lv_iconst (v := 2) hx hb dB_shift_5 (by decide) ?_
  refine lv_icmp_le (tgt := 19) hx hb dB_shift_6 (by decide) (fun h6 => ?_) (fun h6 => ?_)
  · skip
    replace h6 := (nI_leI (a := op) (b := 2) (by omega) (by omega)).mp h6
    refine lv_iload_n hx hb dB_shift_19 rfl (lv_at hl 3 rfl) ?_
    refine lv_if_lt (tgt := 29) hx hb dB_shift_20 (by decide) (fun h20 => ?_) (fun h20 => ?_)
    · skip
      replace h20 := (nI_ltI (a := d) (b := 0) (by omega) (by omega)).mp h20
      (exfalso; omega)
    replace h20 : ¬ d < 0 := fun hq0 => h20 ((nI_ltI (a := d) (b := 0) (by omega) (by omega)).mpr hq0)
    refine lv_iload_n hx hb dB_shift_23 rfl (lv_at hl 3 rfl) ?_
    refine lv_bipush (v := 31) hx hb dB_shift_24 (by decide) ?_
    refine lv_icmp_le (tgt := 39) hx hb dB_shift_26 (by decide) (fun h26 => ?_) (fun h26 => ?_)
    · skip
      replace h26 := (nI_leI (a := d) (b := 31) (by omega) (by omega)).mp h26
      refine lv_aload_n hx hb dB_shift_39 rfl (lv_at hl 0 rfl) ?_
      refine lv_iload_n hx hb dB_shift_40 rfl (lv_at hl 2 rfl) ?_
      refine dx_callq (va_runV (As := [.int (nI (x))]) (rest := []) ⟨hx, hb, hml, hown, hts⟩ (cq_req l dC dI cI cZ b0 u0 aK aX aY aN aV aM f0 e0 g0 aRp aNr aI c0 h0 n R (an) (x) H.size (by omega) (by omega)) (dc_V 1 hts tw_370 tw_372 tp_B_requireValue tw_1 tw_373 rfl rfl (by decide +kernel) ⟨Nat.le_of_ble_eq_true rfl, Nat.le_of_ble_eq_true rfl⟩) (dw_preV (ci := 0) (wc := [(b0, .inr (0, [.ref u0, .ref f0, .ref e0, .ref g0, .ref aRp, .ref aNr, .ref aI, .ref c0, .ref h0, .int (an)])), (u0, .inr (1, [.ref aK, .ref aX, .ref aY, .ref aN, .ref aV, .ref aM, .int (nI (n)), .int (nI (R))]))]) hG [0, 1] [0, 1] rfl rfl (by decide) rfl rfl (q0 := 0) rfl) rfl rfl hl.1 rfl (lv_room (Nat.le_of_ble_eq_true rfl)) dB_shift_41 ⟨Nat.zero_le _, Nat.zero_le _⟩) ?_
      refine lv_aload_n hx hb dB_shift_44 rfl (lv_at hl 0 rfl) ?_
      refine lv_bipush (v := 6) hx hb dB_shift_45 (by decide) ?_
      refine lv_iload_n hx hb dB_shift_47 rfl (lv_at hl 1 rfl) ?_
      refine lv_iadd hx hb dB_shift_48 ?_
      refine lv_topi (nm_r (show ((6) + (nI (op)) : Int32) = nI (6 + op) from nI_add (6) (op)) ?_)
      refine lv_iload_n hx hb dB_shift_49 rfl (lv_at hl 2 rfl) ?_
      refine lv_iconst (v := 0) hx hb dB_shift_50 (by decide) ?_
      refine lv_iload_n hx hb dB_shift_51 rfl (lv_at hl 3 rfl) ?_
      subst hQ
      exact dx_callT (As := [.int (nI (6 + op)), .int (nI (x)), .int (0), .int (nI (d))]) (rest := []) ⟨hx, hb, hml, hown, hts⟩ (cx_append l dC dI cI cZ htr b0 u0 aK aX aY aN aV aM f0 e0 g0 aRp aNr aI c0 h0 n R (an) (nI (6 + op)) (nI (x)) (0) (nI (d)) H.size hn) (dc_V 4 hts tw_330 tw_332 tp_B_append tw_1 tw_333 rfl rfl (by decide +kernel) ⟨Nat.le_of_ble_eq_true rfl, Nat.le_of_ble_eq_true rfl⟩) (dw_preV (ci := 0) (wc := [(b0, .inr (0, [.ref u0, .ref f0, .ref e0, .ref g0, .ref aRp, .ref aNr, .ref aI, .ref c0, .ref h0, .int (an)])), (u0, .inr (1, [.ref aK, .ref aX, .ref aY, .ref aN, .ref aV, .ref aM, .int (nI (n)), .int (nI (R))]))]) hG [0, 1] [0, 1] rfl rfl (by decide) rfl rfl (q0 := 0) rfl) hH hNx hno hlocks rfl hl.1 rfl (Nat.le_of_ble_eq_true rfl) dB_shift_52 ⟨Nat.le_of_ble_eq_true rfl, Nat.le_of_ble_eq_true rfl⟩
    replace h26 : ¬ d ≤ 31 := fun hq0 => h26 ((nI_leI (a := d) (b := 31) (by omega) (by omega)).mpr hq0)
    (exfalso; omega)
  replace h6 : ¬ op ≤ 2 := fun hq0 => h6 ((nI_leI (a := op) (b := 2) (by omega) (by omega)).mpr hq0)
  (exfalso; omega)

set_option maxRecDepth 100000 in
set_option maxHeartbeats 4000000 in
theorem cx_extend0_1 (l : Launch) (dC : Nat → ClassId) (dI : Nat → Nat → Nat) (cI cZ : ClassId) (htr : l.stackTraces = false) (b0 u0 aK aX aY aN aV aM f0 e0 g0 aRp aNr aI c0 h0 n R : Nat) (an : Int32) (x : Int32) (sz : Nat) (hinv : x < 0 ∨ nI n ≤ x) : dx_Met l yB_extend wsB_extend { frames := 7, cells := 1, slots := 6, locals := 150 } (fun a U => va_Pc [.ref b0, .int (x), .int (0)] (dw_pre (dC, dI) vwCl [(b0, .inr (0, [.ref u0, .ref f0, .ref e0, .ref g0, .ref aRp, .ref aNr, .ref aI, .ref c0, .ref h0, .int (an)])), (u0, .inr (1, [.ref aK, .ref aX, .ref aY, .ref aN, .ref aV, .ref aM, .int (nI (n)), .int (nI (R))]))] [(cI, .int), (cZ, .boolean)] sz) a U ∧ dx_N U) xIO := by
  refine dx_ofW (cc := cB_extend) (maxL := 3) (ret := (some .int)) (by decide) rfl ?_
  intro p e s m args below meth c s₁ B hml hv0
  obtain ⟨hv0, hNx⟩ := hv0
  have hx := B.exec
  have hb := B.bytes
  have hr := B.returns
  have hts := atoms_spec (ws := wsB_extend) B.pre
  have hown : s.vm.findClass RB = some m.cls := findClass_of_methodNamed B.named
  have hlocks := B.notSynchronized
  have hno := B.noHandlers (hts _ List.mem_cons_self)
  obtain ⟨rfl, hsz, hG⟩ := dw_enter hv0
  generalize va_A [(b0, .inr (0, [.ref u0, .ref f0, .ref e0, .ref g0, .ref aRp, .ref aNr, .ref aI, .ref c0, .ref h0, .int (an)])), (u0, .inr (1, [.ref aK, .ref aX, .ref aY, .ref aN, .ref aV, .ref aM, .int (nI (n)), .int (nI (R))]))] sz = A at hG ⊢
  have hl := lv_entry ([.ref b0, .int (x), .int (0)]) (n := 3) (Nat.le_of_ble_eq_true rfl)
  rw [lg_entry_eq]
  generalize (lg_sl ([.ref b0, .int (x), .int (0)]) ++ List.replicate (3 - (lg_sl ([.ref b0, .int (x), .int (0)])).length) Slot.unset).toArray = ls at hl ⊢
  have hl : lv_has ls 3 [(0, .ref b0), (1, .int (x)), (2, .int (0))] := hl
  refine dw_Q (fun Q hQ => ?_)
  suffices hgo : ∀ (H : Heap), H = s.heap → dw_G (dC, dI) vwCl [(cI, .int), (cZ, .boolean)] A s.heap s [(b0, .inr (0, [.ref u0, .ref f0, .ref e0, .ref g0, .ref aRp, .ref aNr, .ref aI, .ref c0, .ref h0, .int (an)])), (u0, .inr (1, [.ref aK, .ref aX, .ref aY, .ref aN, .ref aV, .ref aM, .int (nI (n)), .int (nI (R))]))] H [] → W p l e (headSpec wsB_extend { frames := 7, cells := 1, slots := 6, locals := 150 }).room s m [.ref b0, .int (x), .int (0)].toArray below meth c H [] 0 0 Q (F0 m 0 ls []) from hgo _ rfl hG
  clear hG
  intro H hH hG
  refine lv_aload_n hx hb dB_extend_0 rfl (lv_at hl 0 rfl) ?_
  refine lv_iload_n hx hb dB_extend_1 rfl (lv_at hl 1 rfl) ?_
  subst hQ
  exact dx_callT (As := [.int (x)]) (rest := []) ⟨hx, hb, hml, hown, hts⟩ (cx_req l dC dI cI cZ htr b0 u0 aK aX aY aN aV aM f0 e0 g0 aRp aNr aI c0 h0 n R (an) (x) H.size hinv) (dc_V 1 hts tw_370 tw_372 tp_B_requireValue tw_1 tw_373 rfl rfl (by decide +kernel) ⟨Nat.le_of_ble_eq_true rfl, Nat.le_of_ble_eq_true rfl⟩) (dw_preV (ci := 0) (wc := [(b0, .inr (0, [.ref u0, .ref f0, .ref e0, .ref g0, .ref aRp, .ref aNr, .ref aI, .ref c0, .ref h0, .int (an)])), (u0, .inr (1, [.ref aK, .ref aX, .ref aY, .ref aN, .ref aV, .ref aM, .int (nI (n)), .int (nI (R))]))]) hG [0, 1] [0, 1] rfl rfl (by decide) rfl rfl (q0 := 0) rfl) hH hNx hno hlocks rfl hl.1 rfl (Nat.le_of_ble_eq_true rfl) dB_extend_2 ⟨Nat.le_of_ble_eq_true rfl, Nat.le_of_ble_eq_true rfl⟩

set_option maxRecDepth 100000 in
set_option maxHeartbeats 4000000 in
theorem cx_extend0_2 (l : Launch) (dC : Nat → ClassId) (dI : Nat → Nat → Nat) (cI cZ : ClassId) (htr : l.stackTraces = false) (b0 u0 aK aX aY aN aV aM f0 e0 g0 aRp aNr aI c0 h0 n R : Nat) (an : Int32) (x : Nat) (sz : Nat) (hx9 : x < n) (hn : n = 24) : dx_Met l yB_extend wsB_extend { frames := 7, cells := 1, slots := 6, locals := 150 } (fun a U => va_Pc [.ref b0, .int (nI (x)), .int (0)] (dw_pre (dC, dI) vwCl [(b0, .inr (0, [.ref u0, .ref f0, .ref e0, .ref g0, .ref aRp, .ref aNr, .ref aI, .ref c0, .ref h0, .int (an)])), (u0, .inr (1, [.ref aK, .ref aX, .ref aY, .ref aN, .ref aV, .ref aM, .int (nI (n)), .int (nI (R))]))] [(cI, .int), (cZ, .boolean)] sz) a U ∧ dx_N U) xIS := by
  refine dx_ofW (cc := cB_extend) (maxL := 3) (ret := (some .int)) (by decide) rfl ?_
  intro p e s m args below meth c s₁ B hml hv0
  obtain ⟨hv0, hNx⟩ := hv0
  have hx := B.exec
  have hb := B.bytes
  have hr := B.returns
  have hts := atoms_spec (ws := wsB_extend) B.pre
  have hown : s.vm.findClass RB = some m.cls := findClass_of_methodNamed B.named
  have hlocks := B.notSynchronized
  have hno := B.noHandlers (hts _ List.mem_cons_self)
  obtain ⟨rfl, hsz, hG⟩ := dw_enter hv0
  generalize va_A [(b0, .inr (0, [.ref u0, .ref f0, .ref e0, .ref g0, .ref aRp, .ref aNr, .ref aI, .ref c0, .ref h0, .int (an)])), (u0, .inr (1, [.ref aK, .ref aX, .ref aY, .ref aN, .ref aV, .ref aM, .int (nI (n)), .int (nI (R))]))] sz = A at hG ⊢
  have hl := lv_entry ([.ref b0, .int (nI (x)), .int (0)]) (n := 3) (Nat.le_of_ble_eq_true rfl)
  rw [lg_entry_eq]
  generalize (lg_sl ([.ref b0, .int (nI (x)), .int (0)]) ++ List.replicate (3 - (lg_sl ([.ref b0, .int (nI (x)), .int (0)])).length) Slot.unset).toArray = ls at hl ⊢
  have hl : lv_has ls 3 [(0, .ref b0), (1, .int (nI (x))), (2, .int (0))] := hl
  refine dw_Q (fun Q hQ => ?_)
  suffices hgo : ∀ (H : Heap), H = s.heap → dw_G (dC, dI) vwCl [(cI, .int), (cZ, .boolean)] A s.heap s [(b0, .inr (0, [.ref u0, .ref f0, .ref e0, .ref g0, .ref aRp, .ref aNr, .ref aI, .ref c0, .ref h0, .int (an)])), (u0, .inr (1, [.ref aK, .ref aX, .ref aY, .ref aN, .ref aV, .ref aM, .int (nI (n)), .int (nI (R))]))] H [] → W p l e (headSpec wsB_extend { frames := 7, cells := 1, slots := 6, locals := 150 }).room s m [.ref b0, .int (nI (x)), .int (0)].toArray below meth c H [] 0 0 Q (F0 m 0 ls []) from hgo _ rfl hG
  clear hG
  intro H hH hG
  refine lv_aload_n hx hb dB_extend_0 rfl (lv_at hl 0 rfl) ?_
  refine lv_iload_n hx hb dB_extend_1 rfl (lv_at hl 1 rfl) ?_
  refine dx_callq (va_runV (As := [.int (nI (x))]) (rest := []) ⟨hx, hb, hml, hown, hts⟩ (cq_req l dC dI cI cZ b0 u0 aK aX aY aN aV aM f0 e0 g0 aRp aNr aI c0 h0 n R (an) (x) H.size (by omega) (by omega)) (dc_V 1 hts tw_370 tw_372 tp_B_requireValue tw_1 tw_373 rfl rfl (by decide +kernel) ⟨Nat.le_of_ble_eq_true rfl, Nat.le_of_ble_eq_true rfl⟩) (dw_preV (ci := 0) (wc := [(b0, .inr (0, [.ref u0, .ref f0, .ref e0, .ref g0, .ref aRp, .ref aNr, .ref aI, .ref c0, .ref h0, .int (an)])), (u0, .inr (1, [.ref aK, .ref aX, .ref aY, .ref aN, .ref aV, .ref aM, .int (nI (n)), .int (nI (R))]))]) hG [0, 1] [0, 1] rfl rfl (by decide) rfl rfl (q0 := 0) rfl) rfl rfl hl.1 rfl (lv_room (Nat.le_of_ble_eq_true rfl)) dB_extend_2 ⟨Nat.zero_le _, Nat.zero_le _⟩) ?_
  refine lv_aload_n hx hb dB_extend_5 rfl (lv_at hl 0 rfl) ?_
  refine lv_iload_n hx hb dB_extend_6 rfl (lv_at hl 2 rfl) ?_
  refine lv_if_eq (tgt := 15) hx hb dB_extend_7 (by decide) (fun h7 => ?_) (fun h7 => ?_)
  · skip
    replace h7 := (nI_eq (a := 0) (b := 0) (by omega) (by omega)).mp h7
    refine lv_bipush (v := 11) hx hb dB_extend_15 (by decide) ?_
    refine lv_iload_n hx hb dB_extend_17 rfl (lv_at hl 1 rfl) ?_
    refine lv_iconst (v := 0) hx hb dB_extend_18 (by decide) ?_
    refine lv_iconst (v := 0) hx hb dB_extend_19 (by decide) ?_
    subst hQ
    exact dx_callT (As := [.int (11), .int (nI (x)), .int (0), .int (0)]) (rest := []) ⟨hx, hb, hml, hown, hts⟩ (cx_append l dC dI cI cZ htr b0 u0 aK aX aY aN aV aM f0 e0 g0 aRp aNr aI c0 h0 n R (an) (11) (nI (x)) (0) (0) H.size hn) (dc_V 4 hts tw_330 tw_332 tp_B_append tw_1 tw_333 rfl rfl (by decide +kernel) ⟨Nat.le_of_ble_eq_true rfl, Nat.le_of_ble_eq_true rfl⟩) (dw_preV (ci := 0) (wc := [(b0, .inr (0, [.ref u0, .ref f0, .ref e0, .ref g0, .ref aRp, .ref aNr, .ref aI, .ref c0, .ref h0, .int (an)])), (u0, .inr (1, [.ref aK, .ref aX, .ref aY, .ref aN, .ref aV, .ref aM, .int (nI (n)), .int (nI (R))]))]) hG [0, 1] [0, 1] rfl rfl (by decide) rfl rfl (q0 := 0) rfl) hH hNx hno hlocks rfl hl.1 rfl (Nat.le_of_ble_eq_true rfl) dB_extend_20 ⟨Nat.le_of_ble_eq_true rfl, Nat.le_of_ble_eq_true rfl⟩
  replace h7 : ¬ 0 = 0 := fun hq0 => h7 ((nI_eq (a := 0) (b := 0) (by omega) (by omega)).mpr hq0)
  (exfalso; omega)

set_option maxRecDepth 100000 in
set_option maxHeartbeats 4000000 in
theorem cx_extend1_1 (l : Launch) (dC : Nat → ClassId) (dI : Nat → Nat → Nat) (cI cZ : ClassId) (htr : l.stackTraces = false) (b0 u0 aK aX aY aN aV aM f0 e0 g0 aRp aNr aI c0 h0 n R : Nat) (an : Int32) (x : Int32) (sz : Nat) (hinv : x < 0 ∨ nI n ≤ x) : dx_Met l yB_extend wsB_extend { frames := 7, cells := 1, slots := 6, locals := 150 } (fun a U => va_Pc [.ref b0, .int (x), .int (1)] (dw_pre (dC, dI) vwCl [(b0, .inr (0, [.ref u0, .ref f0, .ref e0, .ref g0, .ref aRp, .ref aNr, .ref aI, .ref c0, .ref h0, .int (an)])), (u0, .inr (1, [.ref aK, .ref aX, .ref aY, .ref aN, .ref aV, .ref aM, .int (nI (n)), .int (nI (R))]))] [(cI, .int), (cZ, .boolean)] sz) a U ∧ dx_N U) xIO := by
  refine dx_ofW (cc := cB_extend) (maxL := 3) (ret := (some .int)) (by decide) rfl ?_
  intro p e s m args below meth c s₁ B hml hv0
  obtain ⟨hv0, hNx⟩ := hv0
  have hx := B.exec
  have hb := B.bytes
  have hr := B.returns
  have hts := atoms_spec (ws := wsB_extend) B.pre
  have hown : s.vm.findClass RB = some m.cls := findClass_of_methodNamed B.named
  have hlocks := B.notSynchronized
  have hno := B.noHandlers (hts _ List.mem_cons_self)
  obtain ⟨rfl, hsz, hG⟩ := dw_enter hv0
  generalize va_A [(b0, .inr (0, [.ref u0, .ref f0, .ref e0, .ref g0, .ref aRp, .ref aNr, .ref aI, .ref c0, .ref h0, .int (an)])), (u0, .inr (1, [.ref aK, .ref aX, .ref aY, .ref aN, .ref aV, .ref aM, .int (nI (n)), .int (nI (R))]))] sz = A at hG ⊢
  have hl := lv_entry ([.ref b0, .int (x), .int (1)]) (n := 3) (Nat.le_of_ble_eq_true rfl)
  rw [lg_entry_eq]
  generalize (lg_sl ([.ref b0, .int (x), .int (1)]) ++ List.replicate (3 - (lg_sl ([.ref b0, .int (x), .int (1)])).length) Slot.unset).toArray = ls at hl ⊢
  have hl : lv_has ls 3 [(0, .ref b0), (1, .int (x)), (2, .int (1))] := hl
  refine dw_Q (fun Q hQ => ?_)
  suffices hgo : ∀ (H : Heap), H = s.heap → dw_G (dC, dI) vwCl [(cI, .int), (cZ, .boolean)] A s.heap s [(b0, .inr (0, [.ref u0, .ref f0, .ref e0, .ref g0, .ref aRp, .ref aNr, .ref aI, .ref c0, .ref h0, .int (an)])), (u0, .inr (1, [.ref aK, .ref aX, .ref aY, .ref aN, .ref aV, .ref aM, .int (nI (n)), .int (nI (R))]))] H [] → W p l e (headSpec wsB_extend { frames := 7, cells := 1, slots := 6, locals := 150 }).room s m [.ref b0, .int (x), .int (1)].toArray below meth c H [] 0 0 Q (F0 m 0 ls []) from hgo _ rfl hG
  clear hG
  intro H hH hG
  refine lv_aload_n hx hb dB_extend_0 rfl (lv_at hl 0 rfl) ?_
  refine lv_iload_n hx hb dB_extend_1 rfl (lv_at hl 1 rfl) ?_
  subst hQ
  exact dx_callT (As := [.int (x)]) (rest := []) ⟨hx, hb, hml, hown, hts⟩ (cx_req l dC dI cI cZ htr b0 u0 aK aX aY aN aV aM f0 e0 g0 aRp aNr aI c0 h0 n R (an) (x) H.size hinv) (dc_V 1 hts tw_370 tw_372 tp_B_requireValue tw_1 tw_373 rfl rfl (by decide +kernel) ⟨Nat.le_of_ble_eq_true rfl, Nat.le_of_ble_eq_true rfl⟩) (dw_preV (ci := 0) (wc := [(b0, .inr (0, [.ref u0, .ref f0, .ref e0, .ref g0, .ref aRp, .ref aNr, .ref aI, .ref c0, .ref h0, .int (an)])), (u0, .inr (1, [.ref aK, .ref aX, .ref aY, .ref aN, .ref aV, .ref aM, .int (nI (n)), .int (nI (R))]))]) hG [0, 1] [0, 1] rfl rfl (by decide) rfl rfl (q0 := 0) rfl) hH hNx hno hlocks rfl hl.1 rfl (Nat.le_of_ble_eq_true rfl) dB_extend_2 ⟨Nat.le_of_ble_eq_true rfl, Nat.le_of_ble_eq_true rfl⟩

set_option maxRecDepth 100000 in
set_option maxHeartbeats 4000000 in
theorem cx_extend1_2 (l : Launch) (dC : Nat → ClassId) (dI : Nat → Nat → Nat) (cI cZ : ClassId) (htr : l.stackTraces = false) (b0 u0 aK aX aY aN aV aM f0 e0 g0 aRp aNr aI c0 h0 n R : Nat) (an : Int32) (x : Nat) (sz : Nat) (hx9 : x < n) (hn : n = 24) : dx_Met l yB_extend wsB_extend { frames := 7, cells := 1, slots := 6, locals := 150 } (fun a U => va_Pc [.ref b0, .int (nI (x)), .int (1)] (dw_pre (dC, dI) vwCl [(b0, .inr (0, [.ref u0, .ref f0, .ref e0, .ref g0, .ref aRp, .ref aNr, .ref aI, .ref c0, .ref h0, .int (an)])), (u0, .inr (1, [.ref aK, .ref aX, .ref aY, .ref aN, .ref aV, .ref aM, .int (nI (n)), .int (nI (R))]))] [(cI, .int), (cZ, .boolean)] sz) a U ∧ dx_N U) xIS := by
  refine dx_ofW (cc := cB_extend) (maxL := 3) (ret := (some .int)) (by decide) rfl ?_
  intro p e s m args below meth c s₁ B hml hv0
  obtain ⟨hv0, hNx⟩ := hv0
  have hx := B.exec
  have hb := B.bytes
  have hr := B.returns
  have hts := atoms_spec (ws := wsB_extend) B.pre
  have hown : s.vm.findClass RB = some m.cls := findClass_of_methodNamed B.named
  have hlocks := B.notSynchronized
  have hno := B.noHandlers (hts _ List.mem_cons_self)
  obtain ⟨rfl, hsz, hG⟩ := dw_enter hv0
  generalize va_A [(b0, .inr (0, [.ref u0, .ref f0, .ref e0, .ref g0, .ref aRp, .ref aNr, .ref aI, .ref c0, .ref h0, .int (an)])), (u0, .inr (1, [.ref aK, .ref aX, .ref aY, .ref aN, .ref aV, .ref aM, .int (nI (n)), .int (nI (R))]))] sz = A at hG ⊢
  have hl := lv_entry ([.ref b0, .int (nI (x)), .int (1)]) (n := 3) (Nat.le_of_ble_eq_true rfl)
  rw [lg_entry_eq]
  generalize (lg_sl ([.ref b0, .int (nI (x)), .int (1)]) ++ List.replicate (3 - (lg_sl ([.ref b0, .int (nI (x)), .int (1)])).length) Slot.unset).toArray = ls at hl ⊢
  have hl : lv_has ls 3 [(0, .ref b0), (1, .int (nI (x))), (2, .int (1))] := hl
  refine dw_Q (fun Q hQ => ?_)
  suffices hgo : ∀ (H : Heap), H = s.heap → dw_G (dC, dI) vwCl [(cI, .int), (cZ, .boolean)] A s.heap s [(b0, .inr (0, [.ref u0, .ref f0, .ref e0, .ref g0, .ref aRp, .ref aNr, .ref aI, .ref c0, .ref h0, .int (an)])), (u0, .inr (1, [.ref aK, .ref aX, .ref aY, .ref aN, .ref aV, .ref aM, .int (nI (n)), .int (nI (R))]))] H [] → W p l e (headSpec wsB_extend { frames := 7, cells := 1, slots := 6, locals := 150 }).room s m [.ref b0, .int (nI (x)), .int (1)].toArray below meth c H [] 0 0 Q (F0 m 0 ls []) from hgo _ rfl hG
  clear hG
  intro H hH hG
  refine lv_aload_n hx hb dB_extend_0 rfl (lv_at hl 0 rfl) ?_
  refine lv_iload_n hx hb dB_extend_1 rfl (lv_at hl 1 rfl) ?_
  refine dx_callq (va_runV (As := [.int (nI (x))]) (rest := []) ⟨hx, hb, hml, hown, hts⟩ (cq_req l dC dI cI cZ b0 u0 aK aX aY aN aV aM f0 e0 g0 aRp aNr aI c0 h0 n R (an) (x) H.size (by omega) (by omega)) (dc_V 1 hts tw_370 tw_372 tp_B_requireValue tw_1 tw_373 rfl rfl (by decide +kernel) ⟨Nat.le_of_ble_eq_true rfl, Nat.le_of_ble_eq_true rfl⟩) (dw_preV (ci := 0) (wc := [(b0, .inr (0, [.ref u0, .ref f0, .ref e0, .ref g0, .ref aRp, .ref aNr, .ref aI, .ref c0, .ref h0, .int (an)])), (u0, .inr (1, [.ref aK, .ref aX, .ref aY, .ref aN, .ref aV, .ref aM, .int (nI (n)), .int (nI (R))]))]) hG [0, 1] [0, 1] rfl rfl (by decide) rfl rfl (q0 := 0) rfl) rfl rfl hl.1 rfl (lv_room (Nat.le_of_ble_eq_true rfl)) dB_extend_2 ⟨Nat.zero_le _, Nat.zero_le _⟩) ?_
  refine lv_aload_n hx hb dB_extend_5 rfl (lv_at hl 0 rfl) ?_
  refine lv_iload_n hx hb dB_extend_6 rfl (lv_at hl 2 rfl) ?_
  refine lv_if_eq (tgt := 15) hx hb dB_extend_7 (by decide) (fun h7 => ?_) (fun h7 => ?_)
  · skip
    replace h7 := (nI_eq (a := 1) (b := 0) (by omega) (by omega)).mp h7
    (exfalso; omega)
  replace h7 : ¬ 1 = 0 := fun hq0 => h7 ((nI_eq (a := 1) (b := 0) (by omega) (by omega)).mpr hq0)
  refine lv_bipush (v := 12) hx hb dB_extend_10 (by decide) ?_
  refine lv_goto (tgt := 17) hx hb dB_extend_12 (by decide) ?_
  refine lv_iload_n hx hb dB_extend_17 rfl (lv_at hl 1 rfl) ?_
  refine lv_iconst (v := 0) hx hb dB_extend_18 (by decide) ?_
  refine lv_iconst (v := 0) hx hb dB_extend_19 (by decide) ?_
  subst hQ
  exact dx_callT (As := [.int (12), .int (nI (x)), .int (0), .int (0)]) (rest := []) ⟨hx, hb, hml, hown, hts⟩ (cx_append l dC dI cI cZ htr b0 u0 aK aX aY aN aV aM f0 e0 g0 aRp aNr aI c0 h0 n R (an) (12) (nI (x)) (0) (0) H.size hn) (dc_V 4 hts tw_330 tw_332 tp_B_append tw_1 tw_333 rfl rfl (by decide +kernel) ⟨Nat.le_of_ble_eq_true rfl, Nat.le_of_ble_eq_true rfl⟩) (dw_preV (ci := 0) (wc := [(b0, .inr (0, [.ref u0, .ref f0, .ref e0, .ref g0, .ref aRp, .ref aNr, .ref aI, .ref c0, .ref h0, .int (an)])), (u0, .inr (1, [.ref aK, .ref aX, .ref aY, .ref aN, .ref aV, .ref aM, .int (nI (n)), .int (nI (R))]))]) hG [0, 1] [0, 1] rfl rfl (by decide) rfl rfl (q0 := 0) rfl) hH hNx hno hlocks rfl hl.1 rfl (Nat.le_of_ble_eq_true rfl) dB_extend_20 ⟨Nat.le_of_ble_eq_true rfl, Nat.le_of_ble_eq_true rfl⟩

set_option maxRecDepth 100000 in
set_option maxHeartbeats 4000000 in
theorem cx_loop_1 (l : Launch) (dC : Nat → ClassId) (dI : Nat → Nat → Nat) (cI cZ : ClassId) (htr : l.stackTraces = false) (b0 u0 aK aX aY aN aV aM f0 e0 g0 aRp aNr aI c0 h0 n R : Nat) (an : Int32) (x : Int32) (sz : Nat) (hinv : x < 0 ∨ nI n ≤ x) : dx_Met l yB_loop wsB_loop { frames := 7, cells := 1, slots := 6, locals := 150 } (fun a U => va_Pc [.ref b0, .int (x)] (dw_pre (dC, dI) vwCl [(b0, .inr (0, [.ref u0, .ref f0, .ref e0, .ref g0, .ref aRp, .ref aNr, .ref aI, .ref c0, .ref h0, .int (an)])), (u0, .inr (1, [.ref aK, .ref aX, .ref aY, .ref aN, .ref aV, .ref aM, .int (nI (n)), .int (nI (R))]))] [(cI, .int), (cZ, .boolean)] sz) a U ∧ dx_N U) xIO := by
  refine dx_ofW (cc := cB_loop) (maxL := 2) (ret := (some .int)) (by decide) rfl ?_
  intro p e s m args below meth c s₁ B hml hv0
  obtain ⟨hv0, hNx⟩ := hv0
  have hx := B.exec
  have hb := B.bytes
  have hr := B.returns
  have hts := atoms_spec (ws := wsB_loop) B.pre
  have hown : s.vm.findClass RB = some m.cls := findClass_of_methodNamed B.named
  have hlocks := B.notSynchronized
  have hno := B.noHandlers (hts _ List.mem_cons_self)
  obtain ⟨rfl, hsz, hG⟩ := dw_enter hv0
  generalize va_A [(b0, .inr (0, [.ref u0, .ref f0, .ref e0, .ref g0, .ref aRp, .ref aNr, .ref aI, .ref c0, .ref h0, .int (an)])), (u0, .inr (1, [.ref aK, .ref aX, .ref aY, .ref aN, .ref aV, .ref aM, .int (nI (n)), .int (nI (R))]))] sz = A at hG ⊢
  have hl := lv_entry ([.ref b0, .int (x)]) (n := 2) (Nat.le_of_ble_eq_true rfl)
  rw [lg_entry_eq]
  generalize (lg_sl ([.ref b0, .int (x)]) ++ List.replicate (2 - (lg_sl ([.ref b0, .int (x)])).length) Slot.unset).toArray = ls at hl ⊢
  have hl : lv_has ls 2 [(0, .ref b0), (1, .int (x))] := hl
  refine dw_Q (fun Q hQ => ?_)
  suffices hgo : ∀ (H : Heap), H = s.heap → dw_G (dC, dI) vwCl [(cI, .int), (cZ, .boolean)] A s.heap s [(b0, .inr (0, [.ref u0, .ref f0, .ref e0, .ref g0, .ref aRp, .ref aNr, .ref aI, .ref c0, .ref h0, .int (an)])), (u0, .inr (1, [.ref aK, .ref aX, .ref aY, .ref aN, .ref aV, .ref aM, .int (nI (n)), .int (nI (R))]))] H [] → W p l e (headSpec wsB_loop { frames := 7, cells := 1, slots := 6, locals := 150 }).room s m [.ref b0, .int (x)].toArray below meth c H [] 0 0 Q (F0 m 0 ls []) from hgo _ rfl hG
  clear hG
  intro H hH hG
  refine lv_aload_n hx hb dB_loop_0 rfl (lv_at hl 0 rfl) ?_
  refine lv_iload_n hx hb dB_loop_1 rfl (lv_at hl 1 rfl) ?_
  subst hQ
  exact dx_callT (As := [.int (x)]) (rest := []) ⟨hx, hb, hml, hown, hts⟩ (cx_req l dC dI cI cZ htr b0 u0 aK aX aY aN aV aM f0 e0 g0 aRp aNr aI c0 h0 n R (an) (x) H.size hinv) (dc_V 1 hts tw_370 tw_372 tp_B_requireValue tw_1 tw_373 rfl rfl (by decide +kernel) ⟨Nat.le_of_ble_eq_true rfl, Nat.le_of_ble_eq_true rfl⟩) (dw_preV (ci := 0) (wc := [(b0, .inr (0, [.ref u0, .ref f0, .ref e0, .ref g0, .ref aRp, .ref aNr, .ref aI, .ref c0, .ref h0, .int (an)])), (u0, .inr (1, [.ref aK, .ref aX, .ref aY, .ref aN, .ref aV, .ref aM, .int (nI (n)), .int (nI (R))]))]) hG [0, 1] [0, 1] rfl rfl (by decide) rfl rfl (q0 := 0) rfl) hH hNx hno hlocks rfl hl.1 rfl (Nat.le_of_ble_eq_true rfl) dB_loop_2 ⟨Nat.le_of_ble_eq_true rfl, Nat.le_of_ble_eq_true rfl⟩

set_option maxRecDepth 100000 in
set_option maxHeartbeats 4000000 in
theorem cx_loop_2 (l : Launch) (dC : Nat → ClassId) (dI : Nat → Nat → Nat) (cI cZ : ClassId) (htr : l.stackTraces = false) (b0 u0 aK aX aY aN aV aM f0 e0 g0 aRp aNr aI c0 h0 n R : Nat) (an : Int32) (x : Nat) (sz : Nat) (hx9 : x < n) (hn : n = 24) : dx_Met l yB_loop wsB_loop { frames := 7, cells := 1, slots := 6, locals := 150 } (fun a U => va_Pc [.ref b0, .int (nI (x))] (dw_pre (dC, dI) vwCl [(b0, .inr (0, [.ref u0, .ref f0, .ref e0, .ref g0, .ref aRp, .ref aNr, .ref aI, .ref c0, .ref h0, .int (an)])), (u0, .inr (1, [.ref aK, .ref aX, .ref aY, .ref aN, .ref aV, .ref aM, .int (nI (n)), .int (nI (R))]))] [(cI, .int), (cZ, .boolean)] sz) a U ∧ dx_N U) xIS := by
  refine dx_ofW (cc := cB_loop) (maxL := 2) (ret := (some .int)) (by decide) rfl ?_
  intro p e s m args below meth c s₁ B hml hv0
  obtain ⟨hv0, hNx⟩ := hv0
  have hx := B.exec
  have hb := B.bytes
  have hr := B.returns
  have hts := atoms_spec (ws := wsB_loop) B.pre
  have hown : s.vm.findClass RB = some m.cls := findClass_of_methodNamed B.named
  have hlocks := B.notSynchronized
  have hno := B.noHandlers (hts _ List.mem_cons_self)
  obtain ⟨rfl, hsz, hG⟩ := dw_enter hv0
  generalize va_A [(b0, .inr (0, [.ref u0, .ref f0, .ref e0, .ref g0, .ref aRp, .ref aNr, .ref aI, .ref c0, .ref h0, .int (an)])), (u0, .inr (1, [.ref aK, .ref aX, .ref aY, .ref aN, .ref aV, .ref aM, .int (nI (n)), .int (nI (R))]))] sz = A at hG ⊢
  have hl := lv_entry ([.ref b0, .int (nI (x))]) (n := 2) (Nat.le_of_ble_eq_true rfl)
  rw [lg_entry_eq]
  generalize (lg_sl ([.ref b0, .int (nI (x))]) ++ List.replicate (2 - (lg_sl ([.ref b0, .int (nI (x))])).length) Slot.unset).toArray = ls at hl ⊢
  have hl : lv_has ls 2 [(0, .ref b0), (1, .int (nI (x)))] := hl
  have hw138 := hts _ (List.mem_cons_of_mem _ tw_138)
  have hw60 := hts _ (List.mem_cons_of_mem _ tw_60)
  refine dw_Q (fun Q hQ => ?_)
  suffices hgo : ∀ (H : Heap), H = s.heap → dw_G (dC, dI) vwCl [(cI, .int), (cZ, .boolean)] A s.heap s [(b0, .inr (0, [.ref u0, .ref f0, .ref e0, .ref g0, .ref aRp, .ref aNr, .ref aI, .ref c0, .ref h0, .int (an)])), (u0, .inr (1, [.ref aK, .ref aX, .ref aY, .ref aN, .ref aV, .ref aM, .int (nI (n)), .int (nI (R))]))] H [] → W p l e (headSpec wsB_loop { frames := 7, cells := 1, slots := 6, locals := 150 }).room s m [.ref b0, .int (nI (x))].toArray below meth c H [] 0 0 Q (F0 m 0 ls []) from hgo _ rfl hG
  clear hG
  intro H hH hG
  refine lv_aload_n hx hb dB_loop_0 rfl (lv_at hl 0 rfl) ?_
  refine lv_iload_n hx hb dB_loop_1 rfl (lv_at hl 1 rfl) ?_
  refine dx_callq (va_runV (As := [.int (nI (x))]) (rest := []) ⟨hx, hb, hml, hown, hts⟩ (cq_req l dC dI cI cZ b0 u0 aK aX aY aN aV aM f0 e0 g0 aRp aNr aI c0 h0 n R (an) (x) H.size (by omega) (by omega)) (dc_V 1 hts tw_370 tw_372 tp_B_requireValue tw_1 tw_373 rfl rfl (by decide +kernel) ⟨Nat.le_of_ble_eq_true rfl, Nat.le_of_ble_eq_true rfl⟩) (dw_preV (ci := 0) (wc := [(b0, .inr (0, [.ref u0, .ref f0, .ref e0, .ref g0, .ref aRp, .ref aNr, .ref aI, .ref c0, .ref h0, .int (an)])), (u0, .inr (1, [.ref aK, .ref aX, .ref aY, .ref aN, .ref aV, .ref aM, .int (nI (n)), .int (nI (R))]))]) hG [0, 1] [0, 1] rfl rfl (by decide) rfl rfl (q0 := 0) rfl) rfl rfl hl.1 rfl (lv_room (Nat.le_of_ble_eq_true rfl)) dB_loop_2 ⟨Nat.zero_le _, Nat.zero_le _⟩) ?_
  refine lv_aload_n hx hb dB_loop_5 rfl (lv_at hl 0 rfl) ?_
  refine lv_bipush (v := 13) hx hb dB_loop_6 (by decide) ?_
  refine lv_iload_n hx hb dB_loop_8 rfl (lv_at hl 1 rfl) ?_
  refine lv_aload_n hx hb dB_loop_9 rfl (lv_at hl 0 rfl) ?_
  refine dw_get hx hb hts inBc hown hG 0 0 rfl rfl (by decide) hw138 rfl rfl dB_loop_10 ?_
  refine dw_get hx hb hts inUc hown hG 1 6 rfl rfl (by decide) hw60 rfl rfl dB_loop_13 ?_
  refine lv_iconst (v := 0) hx hb dB_loop_16 (by decide) ?_
  subst hQ
  exact dx_callT (As := [.int (13), .int (nI (x)), .int (nI (n)), .int (0)]) (rest := []) ⟨hx, hb, hml, hown, hts⟩ (cx_append l dC dI cI cZ htr b0 u0 aK aX aY aN aV aM f0 e0 g0 aRp aNr aI c0 h0 n R (an) (13) (nI (x)) (nI (n)) (0) H.size hn) (dc_V 4 hts tw_330 tw_332 tp_B_append tw_1 tw_333 rfl rfl (by decide +kernel) ⟨Nat.le_of_ble_eq_true rfl, Nat.le_of_ble_eq_true rfl⟩) (dw_preV (ci := 0) (wc := [(b0, .inr (0, [.ref u0, .ref f0, .ref e0, .ref g0, .ref aRp, .ref aNr, .ref aI, .ref c0, .ref h0, .int (an)])), (u0, .inr (1, [.ref aK, .ref aX, .ref aY, .ref aN, .ref aV, .ref aM, .int (nI (n)), .int (nI (R))]))]) hG [0, 1] [0, 1] rfl rfl (by decide) rfl rfl (q0 := 0) rfl) hH hNx hno hlocks rfl hl.1 rfl (Nat.le_of_ble_eq_true rfl) dB_loop_17 ⟨Nat.le_of_ble_eq_true rfl, Nat.le_of_ble_eq_true rfl⟩

set_option maxRecDepth 100000 in
set_option maxHeartbeats 4000000 in
theorem cx_back_1v (l : Launch) (dC : Nat → ClassId) (dI : Nat → Nat → Nat) (cI cZ : ClassId) (htr : l.stackTraces = false) (b0 u0 aK aX aY aN aV aM f0 e0 g0 aRp aNr aI c0 h0 n R : Nat) (an : Int32) (v y : Int32) (sz : Nat) (hinv : v < 0 ∨ nI n ≤ v) : dx_Met l yB_back wsB_back { frames := 7, cells := 1, slots := 6, locals := 150 } (fun a U => va_Pc [.ref b0, .int (v), .int (y)] (dw_pre (dC, dI) vwCl [(b0, .inr (0, [.ref u0, .ref f0, .ref e0, .ref g0, .ref aRp, .ref aNr, .ref aI, .ref c0, .ref h0, .int (an)])), (u0, .inr (1, [.ref aK, .ref aX, .ref aY, .ref aN, .ref aV, .ref aM, .int (nI (n)), .int (nI (R))]))] [(cI, .int), (cZ, .boolean)] sz) a U ∧ dx_N U) xIO := by
  refine dx_ofW (cc := cB_back) (maxL := 3) (ret := none) (by decide) rfl ?_
  intro p e s m args below meth c s₁ B hml hv0
  obtain ⟨hv0, hNx⟩ := hv0
  have hx := B.exec
  have hb := B.bytes
  have hr := B.returns
  have hts := atoms_spec (ws := wsB_back) B.pre
  have hown : s.vm.findClass RB = some m.cls := findClass_of_methodNamed B.named
  have hlocks := B.notSynchronized
  have hno := B.noHandlers (hts _ List.mem_cons_self)
  obtain ⟨rfl, hsz, hG⟩ := dw_enter hv0
  generalize va_A [(b0, .inr (0, [.ref u0, .ref f0, .ref e0, .ref g0, .ref aRp, .ref aNr, .ref aI, .ref c0, .ref h0, .int (an)])), (u0, .inr (1, [.ref aK, .ref aX, .ref aY, .ref aN, .ref aV, .ref aM, .int (nI (n)), .int (nI (R))]))] sz = A at hG ⊢
  have hl := lv_entry ([.ref b0, .int (v), .int (y)]) (n := 3) (Nat.le_of_ble_eq_true rfl)
  rw [lg_entry_eq]
  generalize (lg_sl ([.ref b0, .int (v), .int (y)]) ++ List.replicate (3 - (lg_sl ([.ref b0, .int (v), .int (y)])).length) Slot.unset).toArray = ls at hl ⊢
  have hl : lv_has ls 3 [(0, .ref b0), (1, .int (v)), (2, .int (y))] := hl
  refine dw_Q (fun Q hQ => ?_)
  suffices hgo : ∀ (H : Heap), H = s.heap → dw_G (dC, dI) vwCl [(cI, .int), (cZ, .boolean)] A s.heap s [(b0, .inr (0, [.ref u0, .ref f0, .ref e0, .ref g0, .ref aRp, .ref aNr, .ref aI, .ref c0, .ref h0, .int (an)])), (u0, .inr (1, [.ref aK, .ref aX, .ref aY, .ref aN, .ref aV, .ref aM, .int (nI (n)), .int (nI (R))]))] H [] → W p l e (headSpec wsB_back { frames := 7, cells := 1, slots := 6, locals := 150 }).room s m [.ref b0, .int (v), .int (y)].toArray below meth c H [] 0 0 Q (F0 m 0 ls []) from hgo _ rfl hG
  clear hG
  intro H hH hG
  refine lv_aload_n hx hb dB_back_0 rfl (lv_at hl 0 rfl) ?_
  refine lv_iload_n hx hb dB_back_1 rfl (lv_at hl 1 rfl) ?_
  subst hQ
  exact dx_callT (As := [.int (v)]) (rest := []) ⟨hx, hb, hml, hown, hts⟩ (cx_req l dC dI cI cZ htr b0 u0 aK aX aY aN aV aM f0 e0 g0 aRp aNr aI c0 h0 n R (an) (v) H.size hinv) (dc_V 1 hts tw_370 tw_372 tp_B_requireValue tw_1 tw_373 rfl rfl (by decide +kernel) ⟨Nat.le_of_ble_eq_true rfl, Nat.le_of_ble_eq_true rfl⟩) (dw_preV (ci := 0) (wc := [(b0, .inr (0, [.ref u0, .ref f0, .ref e0, .ref g0, .ref aRp, .ref aNr, .ref aI, .ref c0, .ref h0, .int (an)])), (u0, .inr (1, [.ref aK, .ref aX, .ref aY, .ref aN, .ref aV, .ref aM, .int (nI (n)), .int (nI (R))]))]) hG [0, 1] [0, 1] rfl rfl (by decide) rfl rfl (q0 := 0) rfl) hH hNx hno hlocks rfl hl.1 rfl (Nat.le_of_ble_eq_true rfl) dB_back_2 ⟨Nat.le_of_ble_eq_true rfl, Nat.le_of_ble_eq_true rfl⟩

set_option maxRecDepth 100000 in
set_option maxHeartbeats 4000000 in
theorem cx_back_1y (l : Launch) (dC : Nat → ClassId) (dI : Nat → Nat → Nat) (cI cZ : ClassId) (htr : l.stackTraces = false) (b0 u0 aK aX aY aN aV aM f0 e0 g0 aRp aNr aI c0 h0 n R : Nat) (an : Int32) (v : Nat) (y : Int32) (sz : Nat) (hn : n ≤ 24) (hv : v < n) (hinv : y < 0 ∨ nI n ≤ y) : dx_Met l yB_back wsB_back { frames := 7, cells := 1, slots := 6, locals := 150 } (fun a U => va_Pc [.ref b0, .int (nI (v)), .int (y)] (dw_pre (dC, dI) vwCl [(b0, .inr (0, [.ref u0, .ref f0, .ref e0, .ref g0, .ref aRp, .ref aNr, .ref aI, .ref c0, .ref h0, .int (an)])), (u0, .inr (1, [.ref aK, .ref aX, .ref aY, .ref aN, .ref aV, .ref aM, .int (nI (n)), .int (nI (R))]))] [(cI, .int), (cZ, .boolean)] sz) a U ∧ dx_N U) xIO := by
  refine dx_ofW (cc := cB_back) (maxL := 3) (ret := none) (by decide) rfl ?_
  intro p e s m args below meth c s₁ B hml hv0
  obtain ⟨hv0, hNx⟩ := hv0
  have hx := B.exec
  have hb := B.bytes
  have hr := B.returns
  have hts := atoms_spec (ws := wsB_back) B.pre
  have hown : s.vm.findClass RB = some m.cls := findClass_of_methodNamed B.named
  have hlocks := B.notSynchronized
  have hno := B.noHandlers (hts _ List.mem_cons_self)
  obtain ⟨rfl, hsz, hG⟩ := dw_enter hv0
  generalize va_A [(b0, .inr (0, [.ref u0, .ref f0, .ref e0, .ref g0, .ref aRp, .ref aNr, .ref aI, .ref c0, .ref h0, .int (an)])), (u0, .inr (1, [.ref aK, .ref aX, .ref aY, .ref aN, .ref aV, .ref aM, .int (nI (n)), .int (nI (R))]))] sz = A at hG ⊢
  have hl := lv_entry ([.ref b0, .int (nI (v)), .int (y)]) (n := 3) (Nat.le_of_ble_eq_true rfl)
  rw [lg_entry_eq]
  generalize (lg_sl ([.ref b0, .int (nI (v)), .int (y)]) ++ List.replicate (3 - (lg_sl ([.ref b0, .int (nI (v)), .int (y)])).length) Slot.unset).toArray = ls at hl ⊢
  have hl : lv_has ls 3 [(0, .ref b0), (1, .int (nI (v))), (2, .int (y))] := hl
  refine dw_Q (fun Q hQ => ?_)
  suffices hgo : ∀ (H : Heap), H = s.heap → dw_G (dC, dI) vwCl [(cI, .int), (cZ, .boolean)] A s.heap s [(b0, .inr (0, [.ref u0, .ref f0, .ref e0, .ref g0, .ref aRp, .ref aNr, .ref aI, .ref c0, .ref h0, .int (an)])), (u0, .inr (1, [.ref aK, .ref aX, .ref aY, .ref aN, .ref aV, .ref aM, .int (nI (n)), .int (nI (R))]))] H [] → W p l e (headSpec wsB_back { frames := 7, cells := 1, slots := 6, locals := 150 }).room s m [.ref b0, .int (nI (v)), .int (y)].toArray below meth c H [] 0 0 Q (F0 m 0 ls []) from hgo _ rfl hG
  clear hG
  intro H hH hG
  refine lv_aload_n hx hb dB_back_0 rfl (lv_at hl 0 rfl) ?_
  refine lv_iload_n hx hb dB_back_1 rfl (lv_at hl 1 rfl) ?_
  refine dx_callq (va_runV (As := [.int (nI (v))]) (rest := []) ⟨hx, hb, hml, hown, hts⟩ (cq_req l dC dI cI cZ b0 u0 aK aX aY aN aV aM f0 e0 g0 aRp aNr aI c0 h0 n R (an) (v) H.size (by omega) (by omega)) (dc_V 1 hts tw_370 tw_372 tp_B_requireValue tw_1 tw_373 rfl rfl (by decide +kernel) ⟨Nat.le_of_ble_eq_true rfl, Nat.le_of_ble_eq_true rfl⟩) (dw_preV (ci := 0) (wc := [(b0, .inr (0, [.ref u0, .ref f0, .ref e0, .ref g0, .ref aRp, .ref aNr, .ref aI, .ref c0, .ref h0, .int (an)])), (u0, .inr (1, [.ref aK, .ref aX, .ref aY, .ref aN, .ref aV, .ref aM, .int (nI (n)), .int (nI (R))]))]) hG [0, 1] [0, 1] rfl rfl (by decide) rfl rfl (q0 := 0) rfl) rfl rfl hl.1 rfl (lv_room (Nat.le_of_ble_eq_true rfl)) dB_back_2 ⟨Nat.zero_le _, Nat.zero_le _⟩) ?_
  refine lv_aload_n hx hb dB_back_5 rfl (lv_at hl 0 rfl) ?_
  refine lv_iload_n hx hb dB_back_6 rfl (lv_at hl 2 rfl) ?_
  subst hQ
  exact dx_callT (As := [.int (y)]) (rest := []) ⟨hx, hb, hml, hown, hts⟩ (cx_req l dC dI cI cZ htr b0 u0 aK aX aY aN aV aM f0 e0 g0 aRp aNr aI c0 h0 n R (an) (y) H.size hinv) (dc_V 1 hts tw_370 tw_372 tp_B_requireValue tw_1 tw_373 rfl rfl (by decide +kernel) ⟨Nat.le_of_ble_eq_true rfl, Nat.le_of_ble_eq_true rfl⟩) (dw_preV (ci := 0) (wc := [(b0, .inr (0, [.ref u0, .ref f0, .ref e0, .ref g0, .ref aRp, .ref aNr, .ref aI, .ref c0, .ref h0, .int (an)])), (u0, .inr (1, [.ref aK, .ref aX, .ref aY, .ref aN, .ref aV, .ref aM, .int (nI (n)), .int (nI (R))]))]) hG [0, 1] [0, 1] rfl rfl (by decide) rfl rfl (q0 := 0) rfl) hH hNx hno hlocks rfl hl.1 rfl (Nat.le_of_ble_eq_true rfl) dB_back_7 ⟨Nat.le_of_ble_eq_true rfl, Nat.le_of_ble_eq_true rfl⟩

set_option maxRecDepth 100000 in
set_option maxHeartbeats 4000000 in
theorem cx_back_2 (l : Launch) (dC : Nat → ClassId) (dI : Nat → Nat → Nat) (cI cZ : ClassId) (htr : l.stackTraces = false) (b0 u0 aK aX aY aN aV aM f0 e0 g0 aRp aNr aI c0 h0 n R : Nat) (an : Int32) (K : Nat → Nat) (v y : Nat) (sz : Nat) (hn : n ≤ 24) (hv : v < n) (hy9 : y < n) (hk13 : K v ≤ 13) (hkv : ¬ K v = 13) : dx_Met l yB_back wsB_back { frames := 7, cells := 1, slots := 6, locals := 150 } (fun a U => va_Pc [.ref b0, .int (nI (v)), .int (nI (y))] (dw_pre (dC, dI) vwCl [(b0, .inr (0, [.ref u0, .ref f0, .ref e0, .ref g0, .ref aRp, .ref aNr, .ref aI, .ref c0, .ref h0, .int (an)])), (u0, .inr (1, [.ref aK, .ref aX, .ref aY, .ref aN, .ref aV, .ref aM, .int (nI (n)), .int (nI (R))])), (aK, .inl (cI, 24, .inl (fun w => nI (K w))))] [(cI, .int), (cZ, .boolean)] sz) a U ∧ dx_N U) xIA := by
  refine dx_ofW (cc := cB_back) (maxL := 3) (ret := none) (by decide) rfl ?_
  intro p e s m args below meth c s₁ B hml hv0
  obtain ⟨hv0, hNx⟩ := hv0
  have hx := B.exec
  have hb := B.bytes
  have hr := B.returns
  have hts := atoms_spec (ws := wsB_back) B.pre
  have hown : s.vm.findClass RB = some m.cls := findClass_of_methodNamed B.named
  have hlocks := B.notSynchronized
  have hno := B.noHandlers (hts _ List.mem_cons_self)
  obtain ⟨rfl, hsz, hG⟩ := dw_enter hv0
  generalize va_A [(b0, .inr (0, [.ref u0, .ref f0, .ref e0, .ref g0, .ref aRp, .ref aNr, .ref aI, .ref c0, .ref h0, .int (an)])), (u0, .inr (1, [.ref aK, .ref aX, .ref aY, .ref aN, .ref aV, .ref aM, .int (nI (n)), .int (nI (R))])), (aK, .inl (cI, 24, .inl (fun w => nI (K w))))] sz = A at hG ⊢
  have hl := lv_entry ([.ref b0, .int (nI (v)), .int (nI (y))]) (n := 3) (Nat.le_of_ble_eq_true rfl)
  rw [lg_entry_eq]
  generalize (lg_sl ([.ref b0, .int (nI (v)), .int (nI (y))]) ++ List.replicate (3 - (lg_sl ([.ref b0, .int (nI (v)), .int (nI (y))])).length) Slot.unset).toArray = ls at hl ⊢
  have hl : lv_has ls 3 [(0, .ref b0), (1, .int (nI (v))), (2, .int (nI (y)))] := hl
  have hw138 := hts _ (List.mem_cons_of_mem _ tw_138)
  have hw34 := hts _ (List.mem_cons_of_mem _ tw_34)
  refine dw_Q (fun Q hQ => ?_)
  suffices hgo : ∀ (H : Heap), H = s.heap → dw_G (dC, dI) vwCl [(cI, .int), (cZ, .boolean)] A s.heap s [(b0, .inr (0, [.ref u0, .ref f0, .ref e0, .ref g0, .ref aRp, .ref aNr, .ref aI, .ref c0, .ref h0, .int (an)])), (u0, .inr (1, [.ref aK, .ref aX, .ref aY, .ref aN, .ref aV, .ref aM, .int (nI (n)), .int (nI (R))])), (aK, .inl (cI, 24, .inl (fun w => nI (K w))))] H [] → W p l e (headSpec wsB_back { frames := 7, cells := 1, slots := 6, locals := 150 }).room s m [.ref b0, .int (nI (v)), .int (nI (y))].toArray below meth c H [] 0 0 Q (F0 m 0 ls []) from hgo _ rfl hG
  clear hG
  intro H hH hG
  refine lv_aload_n hx hb dB_back_0 rfl (lv_at hl 0 rfl) ?_
  refine lv_iload_n hx hb dB_back_1 rfl (lv_at hl 1 rfl) ?_
  refine dx_callq (va_runV (As := [.int (nI (v))]) (rest := []) ⟨hx, hb, hml, hown, hts⟩ (cq_req l dC dI cI cZ b0 u0 aK aX aY aN aV aM f0 e0 g0 aRp aNr aI c0 h0 n R (an) (v) H.size (by omega) (by omega)) (dc_V 1 hts tw_370 tw_372 tp_B_requireValue tw_1 tw_373 rfl rfl (by decide +kernel) ⟨Nat.le_of_ble_eq_true rfl, Nat.le_of_ble_eq_true rfl⟩) (dw_preV (ci := 0) (wc := [(b0, .inr (0, [.ref u0, .ref f0, .ref e0, .ref g0, .ref aRp, .ref aNr, .ref aI, .ref c0, .ref h0, .int (an)])), (u0, .inr (1, [.ref aK, .ref aX, .ref aY, .ref aN, .ref aV, .ref aM, .int (nI (n)), .int (nI (R))]))]) hG [0, 1] [0, 1] rfl rfl (by decide) rfl rfl (q0 := 0) rfl) rfl rfl hl.1 rfl (lv_room (Nat.le_of_ble_eq_true rfl)) dB_back_2 ⟨Nat.zero_le _, Nat.zero_le _⟩) ?_
  refine lv_aload_n hx hb dB_back_5 rfl (lv_at hl 0 rfl) ?_
  refine lv_iload_n hx hb dB_back_6 rfl (lv_at hl 2 rfl) ?_
  refine dx_callq (va_runV (As := [.int (nI (y))]) (rest := []) ⟨hx, hb, hml, hown, hts⟩ (cq_req l dC dI cI cZ b0 u0 aK aX aY aN aV aM f0 e0 g0 aRp aNr aI c0 h0 n R (an) (y) H.size (by omega) (by omega)) (dc_V 1 hts tw_370 tw_372 tp_B_requireValue tw_1 tw_373 rfl rfl (by decide +kernel) ⟨Nat.le_of_ble_eq_true rfl, Nat.le_of_ble_eq_true rfl⟩) (dw_preV (ci := 0) (wc := [(b0, .inr (0, [.ref u0, .ref f0, .ref e0, .ref g0, .ref aRp, .ref aNr, .ref aI, .ref c0, .ref h0, .int (an)])), (u0, .inr (1, [.ref aK, .ref aX, .ref aY, .ref aN, .ref aV, .ref aM, .int (nI (n)), .int (nI (R))]))]) hG [0, 1] [0, 1] rfl rfl (by decide) rfl rfl (q0 := 0) rfl) rfl rfl hl.1 rfl (lv_room (Nat.le_of_ble_eq_true rfl)) dB_back_7 ⟨Nat.zero_le _, Nat.zero_le _⟩) ?_
  refine lv_aload_n hx hb dB_back_10 rfl (lv_at hl 0 rfl) ?_
  refine dw_get hx hb hts inBc hown hG 0 0 rfl rfl (by decide) hw138 rfl rfl dB_back_11 ?_
  refine dw_get hx hb hts inUc hown hG 1 0 rfl rfl (by decide) hw34 rfl rfl dB_back_14 ?_
  refine lv_iload_n hx hb dB_back_17 rfl (lv_at hl 1 rfl) ?_
  refine dw_ia (x := nI (K v)) hx hb hG 2 0 rfl rfl (v) rfl (by omega) (by decide) rfl dB_back_18 ?_
  refine lv_bipush (v := 13) hx hb dB_back_19 (by decide) ?_
  refine lv_icmp_eq (tgt := 34) hx hb dB_back_21 (by decide) (fun h21 => ?_) (fun h21 => ?_)
  · skip
    replace h21 := (nI_eq (a := K v) (b := 13) (by omega) (by omega)).mp h21
    (exfalso; omega)
  replace h21 : ¬ K v = 13 := fun hq0 => h21 ((nI_eq (a := K v) (b := 13) (by omega) (by omega)).mpr hq0)
  subst hQ
  exact dx_throw (names := xUp) hx hb htr hno hlocks (hl.1.trans hml.symm) hH hown hNx (dx_o 0 rfl) (dx_o 3 rfl) (dx_o 12 rfl) dx_IA (by decide +kernel) (by decide +kernel) (Nat.le_of_ble_eq_true rfl) (Nat.le_of_ble_eq_true rfl) (Nat.le_of_ble_eq_true rfl) (Nat.le_of_ble_eq_true rfl) dB_back_24 dB_back_27 dB_back_28 dB_back_30 dB_back_33

set_option maxRecDepth 100000 in
set_option maxHeartbeats 4000000 in
theorem cx_result_1 (l : Launch) (dC : Nat → ClassId) (dI : Nat → Nat → Nat) (cI cZ : ClassId) (htr : l.stackTraces = false) (b0 u0 aK aX aY aN aV aM f0 e0 g0 aRp aNr aI c0 h0 n R : Nat) (an : Int32) (v mk : Int32) (sz : Nat) (hinv : v < 0 ∨ nI n ≤ v) : dx_Met l yB_result wsB_result { frames := 7, cells := 1, slots := 6, locals := 150 } (fun a U => va_Pc [.ref b0, .int (v), .int (mk)] (dw_pre (dC, dI) vwCl [(b0, .inr (0, [.ref u0, .ref f0, .ref e0, .ref g0, .ref aRp, .ref aNr, .ref aI, .ref c0, .ref h0, .int (an)])), (u0, .inr (1, [.ref aK, .ref aX, .ref aY, .ref aN, .ref aV, .ref aM, .int (nI (n)), .int (nI (R))]))] [(cI, .int), (cZ, .boolean)] sz) a U ∧ dx_N U) xIO := by
  refine dx_ofW (cc := cB_result) (maxL := 3) (ret := (some .int)) (by decide) rfl ?_
  intro p e s m args below meth c s₁ B hml hv0
  obtain ⟨hv0, hNx⟩ := hv0
  have hx := B.exec
  have hb := B.bytes
  have hr := B.returns
  have hts := atoms_spec (ws := wsB_result) B.pre
  have hown : s.vm.findClass RB = some m.cls := findClass_of_methodNamed B.named
  have hlocks := B.notSynchronized
  have hno := B.noHandlers (hts _ List.mem_cons_self)
  obtain ⟨rfl, hsz, hG⟩ := dw_enter hv0
  generalize va_A [(b0, .inr (0, [.ref u0, .ref f0, .ref e0, .ref g0, .ref aRp, .ref aNr, .ref aI, .ref c0, .ref h0, .int (an)])), (u0, .inr (1, [.ref aK, .ref aX, .ref aY, .ref aN, .ref aV, .ref aM, .int (nI (n)), .int (nI (R))]))] sz = A at hG ⊢
  have hl := lv_entry ([.ref b0, .int (v), .int (mk)]) (n := 3) (Nat.le_of_ble_eq_true rfl)
  rw [lg_entry_eq]
  generalize (lg_sl ([.ref b0, .int (v), .int (mk)]) ++ List.replicate (3 - (lg_sl ([.ref b0, .int (v), .int (mk)])).length) Slot.unset).toArray = ls at hl ⊢
  have hl : lv_has ls 3 [(0, .ref b0), (1, .int (v)), (2, .int (mk))] := hl
  refine dw_Q (fun Q hQ => ?_)
  suffices hgo : ∀ (H : Heap), H = s.heap → dw_G (dC, dI) vwCl [(cI, .int), (cZ, .boolean)] A s.heap s [(b0, .inr (0, [.ref u0, .ref f0, .ref e0, .ref g0, .ref aRp, .ref aNr, .ref aI, .ref c0, .ref h0, .int (an)])), (u0, .inr (1, [.ref aK, .ref aX, .ref aY, .ref aN, .ref aV, .ref aM, .int (nI (n)), .int (nI (R))]))] H [] → W p l e (headSpec wsB_result { frames := 7, cells := 1, slots := 6, locals := 150 }).room s m [.ref b0, .int (v), .int (mk)].toArray below meth c H [] 0 0 Q (F0 m 0 ls []) from hgo _ rfl hG
  clear hG
  intro H hH hG
  refine lv_aload_n hx hb dB_result_0 rfl (lv_at hl 0 rfl) ?_
  refine lv_iload_n hx hb dB_result_1 rfl (lv_at hl 1 rfl) ?_
  subst hQ
  exact dx_callT (As := [.int (v)]) (rest := []) ⟨hx, hb, hml, hown, hts⟩ (cx_req l dC dI cI cZ htr b0 u0 aK aX aY aN aV aM f0 e0 g0 aRp aNr aI c0 h0 n R (an) (v) H.size hinv) (dc_V 1 hts tw_370 tw_372 tp_B_requireValue tw_1 tw_373 rfl rfl (by decide +kernel) ⟨Nat.le_of_ble_eq_true rfl, Nat.le_of_ble_eq_true rfl⟩) (dw_preV (ci := 0) (wc := [(b0, .inr (0, [.ref u0, .ref f0, .ref e0, .ref g0, .ref aRp, .ref aNr, .ref aI, .ref c0, .ref h0, .int (an)])), (u0, .inr (1, [.ref aK, .ref aX, .ref aY, .ref aN, .ref aV, .ref aM, .int (nI (n)), .int (nI (R))]))]) hG [0, 1] [0, 1] rfl rfl (by decide) rfl rfl (q0 := 0) rfl) hH hNx hno hlocks rfl hl.1 rfl (Nat.le_of_ble_eq_true rfl) dB_result_2 ⟨Nat.le_of_ble_eq_true rfl, Nat.le_of_ble_eq_true rfl⟩

set_option maxRecDepth 100000 in
set_option maxHeartbeats 4000000 in
theorem cx_result_2 (l : Launch) (dC : Nat → ClassId) (dI : Nat → Nat → Nat) (cI cZ : ClassId) (htr : l.stackTraces = false) (b0 u0 aK aX aY aN aV aM f0 e0 g0 aRp aNr aI c0 h0 n R : Nat) (an : Int32) (v : Nat) (mk : Int32) (sz : Nat) (hn : n ≤ 24) (hv : v < n) (hR : R = 4) : dx_Met l yB_result wsB_result { frames := 7, cells := 1, slots := 6, locals := 150 } (fun a U => va_Pc [.ref b0, .int (nI (v)), .int (mk)] (dw_pre (dC, dI) vwCl [(b0, .inr (0, [.ref u0, .ref f0, .ref e0, .ref g0, .ref aRp, .ref aNr, .ref aI, .ref c0, .ref h0, .int (an)])), (u0, .inr (1, [.ref aK, .ref aX, .ref aY, .ref aN, .ref aV, .ref aM, .int (nI (n)), .int (nI (R))]))] [(cI, .int), (cZ, .boolean)] sz) a U ∧ dx_N U) xIS := by
  refine dx_ofW (cc := cB_result) (maxL := 3) (ret := (some .int)) (by decide) rfl ?_
  intro p e s m args below meth c s₁ B hml hv0
  obtain ⟨hv0, hNx⟩ := hv0
  have hx := B.exec
  have hb := B.bytes
  have hr := B.returns
  have hts := atoms_spec (ws := wsB_result) B.pre
  have hown : s.vm.findClass RB = some m.cls := findClass_of_methodNamed B.named
  have hlocks := B.notSynchronized
  have hno := B.noHandlers (hts _ List.mem_cons_self)
  obtain ⟨rfl, hsz, hG⟩ := dw_enter hv0
  generalize va_A [(b0, .inr (0, [.ref u0, .ref f0, .ref e0, .ref g0, .ref aRp, .ref aNr, .ref aI, .ref c0, .ref h0, .int (an)])), (u0, .inr (1, [.ref aK, .ref aX, .ref aY, .ref aN, .ref aV, .ref aM, .int (nI (n)), .int (nI (R))]))] sz = A at hG ⊢
  have hl := lv_entry ([.ref b0, .int (nI (v)), .int (mk)]) (n := 3) (Nat.le_of_ble_eq_true rfl)
  rw [lg_entry_eq]
  generalize (lg_sl ([.ref b0, .int (nI (v)), .int (mk)]) ++ List.replicate (3 - (lg_sl ([.ref b0, .int (nI (v)), .int (mk)])).length) Slot.unset).toArray = ls at hl ⊢
  have hl : lv_has ls 3 [(0, .ref b0), (1, .int (nI (v))), (2, .int (mk))] := hl
  have hw138 := hts _ (List.mem_cons_of_mem _ tw_138)
  have hw64 := hts _ (List.mem_cons_of_mem _ tw_64)
  refine dw_Q (fun Q hQ => ?_)
  suffices hgo : ∀ (H : Heap), H = s.heap → dw_G (dC, dI) vwCl [(cI, .int), (cZ, .boolean)] A s.heap s [(b0, .inr (0, [.ref u0, .ref f0, .ref e0, .ref g0, .ref aRp, .ref aNr, .ref aI, .ref c0, .ref h0, .int (an)])), (u0, .inr (1, [.ref aK, .ref aX, .ref aY, .ref aN, .ref aV, .ref aM, .int (nI (n)), .int (nI (R))]))] H [] → W p l e (headSpec wsB_result { frames := 7, cells := 1, slots := 6, locals := 150 }).room s m [.ref b0, .int (nI (v)), .int (mk)].toArray below meth c H [] 0 0 Q (F0 m 0 ls []) from hgo _ rfl hG
  clear hG
  intro H hH hG
  refine lv_aload_n hx hb dB_result_0 rfl (lv_at hl 0 rfl) ?_
  refine lv_iload_n hx hb dB_result_1 rfl (lv_at hl 1 rfl) ?_
  refine dx_callq (va_runV (As := [.int (nI (v))]) (rest := []) ⟨hx, hb, hml, hown, hts⟩ (cq_req l dC dI cI cZ b0 u0 aK aX aY aN aV aM f0 e0 g0 aRp aNr aI c0 h0 n R (an) (v) H.size (by omega) (by omega)) (dc_V 1 hts tw_370 tw_372 tp_B_requireValue tw_1 tw_373 rfl rfl (by decide +kernel) ⟨Nat.le_of_ble_eq_true rfl, Nat.le_of_ble_eq_true rfl⟩) (dw_preV (ci := 0) (wc := [(b0, .inr (0, [.ref u0, .ref f0, .ref e0, .ref g0, .ref aRp, .ref aNr, .ref aI, .ref c0, .ref h0, .int (an)])), (u0, .inr (1, [.ref aK, .ref aX, .ref aY, .ref aN, .ref aV, .ref aM, .int (nI (n)), .int (nI (R))]))]) hG [0, 1] [0, 1] rfl rfl (by decide) rfl rfl (q0 := 0) rfl) rfl rfl hl.1 rfl (lv_room (Nat.le_of_ble_eq_true rfl)) dB_result_2 ⟨Nat.zero_le _, Nat.zero_le _⟩) ?_
  refine lv_aload_n hx hb dB_result_5 rfl (lv_at hl 0 rfl) ?_
  refine dw_get hx hb hts inBc hown hG 0 0 rfl rfl (by decide) hw138 rfl rfl dB_result_6 ?_
  refine dw_get hx hb hts inUc hown hG 1 7 rfl rfl (by decide) hw64 rfl rfl dB_result_9 ?_
  refine lv_iconst (v := 4) hx hb dB_result_12 (by decide) ?_
  refine lv_icmp_lt (tgt := 26) hx hb dB_result_13 (by decide) (fun h13 => ?_) (fun h13 => ?_)
  · skip
    replace h13 := (nI_ltI (a := R) (b := 4) (by omega) (by omega)).mp h13
    (exfalso; omega)
  replace h13 : ¬ R < 4 := fun hq0 => h13 ((nI_ltI (a := R) (b := 4) (by omega) (by omega)).mpr hq0)
  subst hQ
  exact dx_throw (names := xUp) hx hb htr hno hlocks (hl.1.trans hml.symm) hH hown hNx (dx_o 1 rfl) (dx_o 4 rfl) (dx_o 13 rfl) dx_IS (by decide +kernel) (by decide +kernel) (Nat.le_of_ble_eq_true rfl) (Nat.le_of_ble_eq_true rfl) (Nat.le_of_ble_eq_true rfl) (Nat.le_of_ble_eq_true rfl) dB_result_16 dB_result_19 dB_result_20 dB_result_22 dB_result_25

set_option maxRecDepth 100000 in
set_option maxHeartbeats 4000000 in
theorem cx_bits_1 (l : Launch) (dC : Nat → ClassId) (dI : Nat → Nat → Nat) (cI cZ : ClassId) (htr : l.stackTraces = false) (b0 u0 aK aX aY aN aV aM f0 e0 g0 aRp aNr aI c0 h0 n R : Nat) (an : Int32) (v wh : Int32) (sz : Nat) (hinv : v < 0 ∨ nI n ≤ v) : dx_Met l yB_bits wsB_bits { frames := 7, cells := 1, slots := 6, locals := 150 } (fun a U => va_Pc [.ref b0, .int (v), .int (wh)] (dw_pre (dC, dI) vwCl [(b0, .inr (0, [.ref u0, .ref f0, .ref e0, .ref g0, .ref aRp, .ref aNr, .ref aI, .ref c0, .ref h0, .int (an)])), (u0, .inr (1, [.ref aK, .ref aX, .ref aY, .ref aN, .ref aV, .ref aM, .int (nI (n)), .int (nI (R))]))] [(cI, .int), (cZ, .boolean)] sz) a U ∧ dx_N U) xIO := by
  refine dx_ofW (cc := cB_bits) (maxL := 3) (ret := (some .int)) (by decide) rfl ?_
  intro p e s m args below meth c s₁ B hml hv0
  obtain ⟨hv0, hNx⟩ := hv0
  have hx := B.exec
  have hb := B.bytes
  have hr := B.returns
  have hts := atoms_spec (ws := wsB_bits) B.pre
  have hown : s.vm.findClass RB = some m.cls := findClass_of_methodNamed B.named
  have hlocks := B.notSynchronized
  have hno := B.noHandlers (hts _ List.mem_cons_self)
  obtain ⟨rfl, hsz, hG⟩ := dw_enter hv0
  generalize va_A [(b0, .inr (0, [.ref u0, .ref f0, .ref e0, .ref g0, .ref aRp, .ref aNr, .ref aI, .ref c0, .ref h0, .int (an)])), (u0, .inr (1, [.ref aK, .ref aX, .ref aY, .ref aN, .ref aV, .ref aM, .int (nI (n)), .int (nI (R))]))] sz = A at hG ⊢
  have hl := lv_entry ([.ref b0, .int (v), .int (wh)]) (n := 3) (Nat.le_of_ble_eq_true rfl)
  rw [lg_entry_eq]
  generalize (lg_sl ([.ref b0, .int (v), .int (wh)]) ++ List.replicate (3 - (lg_sl ([.ref b0, .int (v), .int (wh)])).length) Slot.unset).toArray = ls at hl ⊢
  have hl : lv_has ls 3 [(0, .ref b0), (1, .int (v)), (2, .int (wh))] := hl
  refine dw_Q (fun Q hQ => ?_)
  suffices hgo : ∀ (H : Heap), H = s.heap → dw_G (dC, dI) vwCl [(cI, .int), (cZ, .boolean)] A s.heap s [(b0, .inr (0, [.ref u0, .ref f0, .ref e0, .ref g0, .ref aRp, .ref aNr, .ref aI, .ref c0, .ref h0, .int (an)])), (u0, .inr (1, [.ref aK, .ref aX, .ref aY, .ref aN, .ref aV, .ref aM, .int (nI (n)), .int (nI (R))]))] H [] → W p l e (headSpec wsB_bits { frames := 7, cells := 1, slots := 6, locals := 150 }).room s m [.ref b0, .int (v), .int (wh)].toArray below meth c H [] 0 0 Q (F0 m 0 ls []) from hgo _ rfl hG
  clear hG
  intro H hH hG
  refine lv_aload_n hx hb dB_bits_0 rfl (lv_at hl 0 rfl) ?_
  refine lv_iload_n hx hb dB_bits_1 rfl (lv_at hl 1 rfl) ?_
  subst hQ
  exact dx_callT (As := [.int (v)]) (rest := []) ⟨hx, hb, hml, hown, hts⟩ (cx_req l dC dI cI cZ htr b0 u0 aK aX aY aN aV aM f0 e0 g0 aRp aNr aI c0 h0 n R (an) (v) H.size hinv) (dc_V 1 hts tw_370 tw_372 tp_B_requireValue tw_1 tw_373 rfl rfl (by decide +kernel) ⟨Nat.le_of_ble_eq_true rfl, Nat.le_of_ble_eq_true rfl⟩) (dw_preV (ci := 0) (wc := [(b0, .inr (0, [.ref u0, .ref f0, .ref e0, .ref g0, .ref aRp, .ref aNr, .ref aI, .ref c0, .ref h0, .int (an)])), (u0, .inr (1, [.ref aK, .ref aX, .ref aY, .ref aN, .ref aV, .ref aM, .int (nI (n)), .int (nI (R))]))]) hG [0, 1] [0, 1] rfl rfl (by decide) rfl rfl (q0 := 0) rfl) hH hNx hno hlocks rfl hl.1 rfl (Nat.le_of_ble_eq_true rfl) dB_bits_2 ⟨Nat.le_of_ble_eq_true rfl, Nat.le_of_ble_eq_true rfl⟩

set_option maxRecDepth 100000 in
set_option maxHeartbeats 4000000 in
theorem cx_bits_2 (l : Launch) (dC : Nat → ClassId) (dI : Nat → Nat → Nat) (cI cZ : ClassId) (htr : l.stackTraces = false) (b0 u0 aK aX aY aN aV aM f0 e0 g0 aRp aNr aI c0 h0 n R : Nat) (an : Int32) (v : Nat) (wh : Int32) (sz : Nat) (hn : n ≤ 24) (hv : v < n) (hbad : wh < 0 ∨ 4 < wh) : dx_Met l yB_bits wsB_bits { frames := 7, cells := 1, slots := 6, locals := 150 } (fun a U => va_Pc [.ref b0, .int (nI (v)), .int (wh)] (dw_pre (dC, dI) vwCl [(b0, .inr (0, [.ref u0, .ref f0, .ref e0, .ref g0, .ref aRp, .ref aNr, .ref aI, .ref c0, .ref h0, .int (an)])), (u0, .inr (1, [.ref aK, .ref aX, .ref aY, .ref aN, .ref aV, .ref aM, .int (nI (n)), .int (nI (R))]))] [(cI, .int), (cZ, .boolean)] sz) a U ∧ dx_N U) xIA := by
  refine dx_ofW (cc := cB_bits) (maxL := 3) (ret := (some .int)) (by decide) rfl ?_
  intro p e s m args below meth c s₁ B hml hv0
  obtain ⟨hv0, hNx⟩ := hv0
  have hx := B.exec
  have hb := B.bytes
  have hr := B.returns
  have hts := atoms_spec (ws := wsB_bits) B.pre
  have hown : s.vm.findClass RB = some m.cls := findClass_of_methodNamed B.named
  have hlocks := B.notSynchronized
  have hno := B.noHandlers (hts _ List.mem_cons_self)
  obtain ⟨rfl, hsz, hG⟩ := dw_enter hv0
  generalize va_A [(b0, .inr (0, [.ref u0, .ref f0, .ref e0, .ref g0, .ref aRp, .ref aNr, .ref aI, .ref c0, .ref h0, .int (an)])), (u0, .inr (1, [.ref aK, .ref aX, .ref aY, .ref aN, .ref aV, .ref aM, .int (nI (n)), .int (nI (R))]))] sz = A at hG ⊢
  have hl := lv_entry ([.ref b0, .int (nI (v)), .int (wh)]) (n := 3) (Nat.le_of_ble_eq_true rfl)
  rw [lg_entry_eq]
  generalize (lg_sl ([.ref b0, .int (nI (v)), .int (wh)]) ++ List.replicate (3 - (lg_sl ([.ref b0, .int (nI (v)), .int (wh)])).length) Slot.unset).toArray = ls at hl ⊢
  have hl : lv_has ls 3 [(0, .ref b0), (1, .int (nI (v))), (2, .int (wh))] := hl
  refine dw_Q (fun Q hQ => ?_)
  suffices hgo : ∀ (H : Heap), H = s.heap → dw_G (dC, dI) vwCl [(cI, .int), (cZ, .boolean)] A s.heap s [(b0, .inr (0, [.ref u0, .ref f0, .ref e0, .ref g0, .ref aRp, .ref aNr, .ref aI, .ref c0, .ref h0, .int (an)])), (u0, .inr (1, [.ref aK, .ref aX, .ref aY, .ref aN, .ref aV, .ref aM, .int (nI (n)), .int (nI (R))]))] H [] → W p l e (headSpec wsB_bits { frames := 7, cells := 1, slots := 6, locals := 150 }).room s m [.ref b0, .int (nI (v)), .int (wh)].toArray below meth c H [] 0 0 Q (F0 m 0 ls []) from hgo _ rfl hG
  clear hG
  intro H hH hG
  refine lv_aload_n hx hb dB_bits_0 rfl (lv_at hl 0 rfl) ?_
  refine lv_iload_n hx hb dB_bits_1 rfl (lv_at hl 1 rfl) ?_
  refine dx_callq (va_runV (As := [.int (nI (v))]) (rest := []) ⟨hx, hb, hml, hown, hts⟩ (cq_req l dC dI cI cZ b0 u0 aK aX aY aN aV aM f0 e0 g0 aRp aNr aI c0 h0 n R (an) (v) H.size (by omega) (by omega)) (dc_V 1 hts tw_370 tw_372 tp_B_requireValue tw_1 tw_373 rfl rfl (by decide +kernel) ⟨Nat.le_of_ble_eq_true rfl, Nat.le_of_ble_eq_true rfl⟩) (dw_preV (ci := 0) (wc := [(b0, .inr (0, [.ref u0, .ref f0, .ref e0, .ref g0, .ref aRp, .ref aNr, .ref aI, .ref c0, .ref h0, .int (an)])), (u0, .inr (1, [.ref aK, .ref aX, .ref aY, .ref aN, .ref aV, .ref aM, .int (nI (n)), .int (nI (R))]))]) hG [0, 1] [0, 1] rfl rfl (by decide) rfl rfl (q0 := 0) rfl) rfl rfl hl.1 rfl (lv_room (Nat.le_of_ble_eq_true rfl)) dB_bits_2 ⟨Nat.zero_le _, Nat.zero_le _⟩) ?_
  refine lv_iload_n hx hb dB_bits_5 rfl (lv_at hl 2 rfl) ?_
  refine lv_if_lt (tgt := 14) hx hb dB_bits_6 (by decide) (fun h6 => ?_) (fun h6 => ?_)
  · skip
    subst hQ
    exact dx_throw (names := xUp) hx hb htr hno hlocks (hl.1.trans hml.symm) hH hown hNx (dx_o 0 rfl) (dx_o 3 rfl) (dx_o 14 rfl) dx_IA (by decide +kernel) (by decide +kernel) (Nat.le_of_ble_eq_true rfl) (Nat.le_of_ble_eq_true rfl) (Nat.le_of_ble_eq_true rfl) (Nat.le_of_ble_eq_true rfl) dB_bits_14 dB_bits_17 dB_bits_18 dB_bits_20 dB_bits_23
  refine lv_iload_n hx hb dB_bits_9 rfl (lv_at hl 2 rfl) ?_
  refine lv_iconst (v := 4) hx hb dB_bits_10 (by decide) ?_
  refine lv_icmp_le (tgt := 24) hx hb dB_bits_11 (by decide) (fun h11 => ?_) (fun h11 => ?_)
  · skip
    exact absurd hbad (fun q => q.elim h6 (fun z => Int32.not_lt.mpr h11 z))
  subst hQ
  exact dx_throw (names := xUp) hx hb htr hno hlocks (hl.1.trans hml.symm) hH hown hNx (dx_o 0 rfl) (dx_o 3 rfl) (dx_o 14 rfl) dx_IA (by decide +kernel) (by decide +kernel) (Nat.le_of_ble_eq_true rfl) (Nat.le_of_ble_eq_true rfl) (Nat.le_of_ble_eq_true rfl) (Nat.le_of_ble_eq_true rfl) dB_bits_14 dB_bits_17 dB_bits_18 dB_bits_20 dB_bits_23

set_option maxRecDepth 100000 in
set_option maxHeartbeats 4000000 in
theorem cx_replaced_1 (l : Launch) (dC : Nat → ClassId) (dI : Nat → Nat → Nat) (cI cZ : ClassId) (htr : l.stackTraces = false) (b0 u0 aK aX aY aN aV aM f0 e0 g0 aRp aNr aI c0 h0 n R : Nat) (an : Int32) (v : Int32) (sz : Nat) (hinv : v < 0 ∨ nI n ≤ v) : dx_Met l yB_replaced wsB_replaced { frames := 7, cells := 1, slots := 6, locals := 150 } (fun a U => va_Pc [.ref b0, .int (v)] (dw_pre (dC, dI) vwCl [(b0, .inr (0, [.ref u0, .ref f0, .ref e0, .ref g0, .ref aRp, .ref aNr, .ref aI, .ref c0, .ref h0, .int (an)])), (u0, .inr (1, [.ref aK, .ref aX, .ref aY, .ref aN, .ref aV, .ref aM, .int (nI (n)), .int (nI (R))]))] [(cI, .int), (cZ, .boolean)] sz) a U ∧ dx_N U) xIO := by
  refine dx_ofW (cc := cB_replaced) (maxL := 2) (ret := (some .int)) (by decide) rfl ?_
  intro p e s m args below meth c s₁ B hml hv0
  obtain ⟨hv0, hNx⟩ := hv0
  have hx := B.exec
  have hb := B.bytes
  have hr := B.returns
  have hts := atoms_spec (ws := wsB_replaced) B.pre
  have hown : s.vm.findClass RB = some m.cls := findClass_of_methodNamed B.named
  have hlocks := B.notSynchronized
  have hno := B.noHandlers (hts _ List.mem_cons_self)
  obtain ⟨rfl, hsz, hG⟩ := dw_enter hv0
  generalize va_A [(b0, .inr (0, [.ref u0, .ref f0, .ref e0, .ref g0, .ref aRp, .ref aNr, .ref aI, .ref c0, .ref h0, .int (an)])), (u0, .inr (1, [.ref aK, .ref aX, .ref aY, .ref aN, .ref aV, .ref aM, .int (nI (n)), .int (nI (R))]))] sz = A at hG ⊢
  have hl := lv_entry ([.ref b0, .int (v)]) (n := 2) (Nat.le_of_ble_eq_true rfl)
  rw [lg_entry_eq]
  generalize (lg_sl ([.ref b0, .int (v)]) ++ List.replicate (2 - (lg_sl ([.ref b0, .int (v)])).length) Slot.unset).toArray = ls at hl ⊢
  have hl : lv_has ls 2 [(0, .ref b0), (1, .int (v))] := hl
  refine dw_Q (fun Q hQ => ?_)
  suffices hgo : ∀ (H : Heap), H = s.heap → dw_G (dC, dI) vwCl [(cI, .int), (cZ, .boolean)] A s.heap s [(b0, .inr (0, [.ref u0, .ref f0, .ref e0, .ref g0, .ref aRp, .ref aNr, .ref aI, .ref c0, .ref h0, .int (an)])), (u0, .inr (1, [.ref aK, .ref aX, .ref aY, .ref aN, .ref aV, .ref aM, .int (nI (n)), .int (nI (R))]))] H [] → W p l e (headSpec wsB_replaced { frames := 7, cells := 1, slots := 6, locals := 150 }).room s m [.ref b0, .int (v)].toArray below meth c H [] 0 0 Q (F0 m 0 ls []) from hgo _ rfl hG
  clear hG
  intro H hH hG
  refine lv_aload_n hx hb dB_replaced_0 rfl (lv_at hl 0 rfl) ?_
  refine lv_iload_n hx hb dB_replaced_1 rfl (lv_at hl 1 rfl) ?_
  subst hQ
  exact dx_callT (As := [.int (v)]) (rest := []) ⟨hx, hb, hml, hown, hts⟩ (cx_req l dC dI cI cZ htr b0 u0 aK aX aY aN aV aM f0 e0 g0 aRp aNr aI c0 h0 n R (an) (v) H.size hinv) (dc_V 1 hts tw_370 tw_372 tp_B_requireValue tw_1 tw_373 rfl rfl (by decide +kernel) ⟨Nat.le_of_ble_eq_true rfl, Nat.le_of_ble_eq_true rfl⟩) (dw_preV (ci := 0) (wc := [(b0, .inr (0, [.ref u0, .ref f0, .ref e0, .ref g0, .ref aRp, .ref aNr, .ref aI, .ref c0, .ref h0, .int (an)])), (u0, .inr (1, [.ref aK, .ref aX, .ref aY, .ref aN, .ref aV, .ref aM, .int (nI (n)), .int (nI (R))]))]) hG [0, 1] [0, 1] rfl rfl (by decide) rfl rfl (q0 := 0) rfl) hH hNx hno hlocks rfl hl.1 rfl (Nat.le_of_ble_eq_true rfl) dB_replaced_2 ⟨Nat.le_of_ble_eq_true rfl, Nat.le_of_ble_eq_true rfl⟩

set_option maxRecDepth 100000 in
set_option maxHeartbeats 4000000 in
theorem cx_run_1 (l : Launch) (dC : Nat → ClassId) (dI : Nat → Nat → Nat) (cI cZ : ClassId) (htr : l.stackTraces = false) (b0 u0 aK aX aY aN aV aM f0 e0 g0 aRp aNr aI c0 h0 n R : Nat) (an : Int32) (kr in0 in1 in2 : Int32) (sz : Nat) (hbad : kr < 1 ∨ 50 < kr) : dx_Met l yB_run wsB_run { frames := 7, cells := 1, slots := 6, locals := 150 } (fun a U => va_Pc [.ref b0, .int (kr), .int (in0), .int (in1), .int (in2)] (dw_pre (dC, dI) vwCl [(b0, .inr (0, [.ref u0, .ref f0, .ref e0, .ref g0, .ref aRp, .ref aNr, .ref aI, .ref c0, .ref h0, .int (an)])), (u0, .inr (1, [.ref aK, .ref aX, .ref aY, .ref aN, .ref aV, .ref aM, .int (nI (n)), .int (nI (R))]))] [(cI, .int), (cZ, .boolean)] sz) a U ∧ dx_N U) xIA := by
  refine dx_ofW (cc := cB_run) (maxL := 5) (ret := (some .int)) (by decide) rfl ?_
  intro p e s m args below meth c s₁ B hml hv0
  obtain ⟨hv0, hNx⟩ := hv0
  have hx := B.exec
  have hb := B.bytes
  have hr := B.returns
  have hts := atoms_spec (ws := wsB_run) B.pre
  have hown : s.vm.findClass RB = some m.cls := findClass_of_methodNamed B.named
  have hlocks := B.notSynchronized
  have hno := B.noHandlers (hts _ List.mem_cons_self)
  obtain ⟨rfl, hsz, hG⟩ := dw_enter hv0
  generalize va_A [(b0, .inr (0, [.ref u0, .ref f0, .ref e0, .ref g0, .ref aRp, .ref aNr, .ref aI, .ref c0, .ref h0, .int (an)])), (u0, .inr (1, [.ref aK, .ref aX, .ref aY, .ref aN, .ref aV, .ref aM, .int (nI (n)), .int (nI (R))]))] sz = A at hG ⊢
  have hl := lv_entry ([.ref b0, .int (kr), .int (in0), .int (in1), .int (in2)]) (n := 5) (Nat.le_of_ble_eq_true rfl)
  rw [lg_entry_eq]
  generalize (lg_sl ([.ref b0, .int (kr), .int (in0), .int (in1), .int (in2)]) ++ List.replicate (5 - (lg_sl ([.ref b0, .int (kr), .int (in0), .int (in1), .int (in2)])).length) Slot.unset).toArray = ls at hl ⊢
  have hl : lv_has ls 5 [(0, .ref b0), (1, .int (kr)), (2, .int (in0)), (3, .int (in1)), (4, .int (in2))] := hl
  refine dw_Q (fun Q hQ => ?_)
  suffices hgo : ∀ (H : Heap), H = s.heap → dw_G (dC, dI) vwCl [(cI, .int), (cZ, .boolean)] A s.heap s [(b0, .inr (0, [.ref u0, .ref f0, .ref e0, .ref g0, .ref aRp, .ref aNr, .ref aI, .ref c0, .ref h0, .int (an)])), (u0, .inr (1, [.ref aK, .ref aX, .ref aY, .ref aN, .ref aV, .ref aM, .int (nI (n)), .int (nI (R))]))] H [] → W p l e (headSpec wsB_run { frames := 7, cells := 1, slots := 6, locals := 150 }).room s m [.ref b0, .int (kr), .int (in0), .int (in1), .int (in2)].toArray below meth c H [] 0 0 Q (F0 m 0 ls []) from hgo _ rfl hG
  clear hG
  intro H hH hG
  refine lv_iload_n hx hb dB_run_0 rfl (lv_at hl 1 rfl) ?_
  refine lv_iconst (v := 1) hx hb dB_run_1 (by decide) ?_
  refine lv_icmp_lt (tgt := 11) hx hb dB_run_2 (by decide) (fun h2 => ?_) (fun h2 => ?_)
  · skip
    subst hQ
    exact dx_throw (names := xUp) hx hb htr hno hlocks (hl.1.trans hml.symm) hH hown hNx (dx_o 0 rfl) (dx_o 3 rfl) (dx_o 15 rfl) dx_IA (by decide +kernel) (by decide +kernel) (Nat.le_of_ble_eq_true rfl) (Nat.le_of_ble_eq_true rfl) (Nat.le_of_ble_eq_true rfl) (Nat.le_of_ble_eq_true rfl) dB_run_11 dB_run_14 dB_run_15 dB_run_17 dB_run_20
  refine lv_iload_n hx hb dB_run_5 rfl (lv_at hl 1 rfl) ?_
  refine lv_bipush (v := 50) hx hb dB_run_6 (by decide) ?_
  refine lv_icmp_le (tgt := 21) hx hb dB_run_8 (by decide) (fun h8 => ?_) (fun h8 => ?_)
  · skip
    exact absurd hbad (fun q => q.elim h2 (fun z => Int32.not_lt.mpr h8 z))
  subst hQ
  exact dx_throw (names := xUp) hx hb htr hno hlocks (hl.1.trans hml.symm) hH hown hNx (dx_o 0 rfl) (dx_o 3 rfl) (dx_o 15 rfl) dx_IA (by decide +kernel) (by decide +kernel) (Nat.le_of_ble_eq_true rfl) (Nat.le_of_ble_eq_true rfl) (Nat.le_of_ble_eq_true rfl) (Nat.le_of_ble_eq_true rfl) dB_run_11 dB_run_14 dB_run_15 dB_run_17 dB_run_20

set_option maxRecDepth 100000 in
set_option maxHeartbeats 4000000 in
theorem cx_observed0_1 (l : Launch) (dC : Nat → ClassId) (dI : Nat → Nat → Nat) (cI cZ : ClassId) (htr : l.stackTraces = false) (b0 u0 aK aX aY aN aV aM f0 e0 g0 aRp aNr aI c0 h0 n R : Nat) (an : Int32) (q9 : Int32) (sz : Nat) (hbad : q9 < 0 ∨ nI R ≤ q9) : dx_Met l yB_observed wsB_observed { frames := 7, cells := 1, slots := 6, locals := 150 } (fun a U => va_Pc [.ref b0, .int (q9), .int (0)] (dw_pre (dC, dI) vwCl [(b0, .inr (0, [.ref u0, .ref f0, .ref e0, .ref g0, .ref aRp, .ref aNr, .ref aI, .ref c0, .ref h0, .int (an)])), (u0, .inr (1, [.ref aK, .ref aX, .ref aY, .ref aN, .ref aV, .ref aM, .int (nI (n)), .int (nI (R))]))] [(cI, .int), (cZ, .boolean)] sz) a U ∧ dx_N U) xIO := by
  refine dx_ofW (cc := cB_observed) (maxL := 3) (ret := (some .int)) (by decide) rfl ?_
  intro p e s m args below meth c s₁ B hml hv0
  obtain ⟨hv0, hNx⟩ := hv0
  have hx := B.exec
  have hb := B.bytes
  have hr := B.returns
  have hts := atoms_spec (ws := wsB_observed) B.pre
  have hown : s.vm.findClass RB = some m.cls := findClass_of_methodNamed B.named
  have hlocks := B.notSynchronized
  have hno := B.noHandlers (hts _ List.mem_cons_self)
  obtain ⟨rfl, hsz, hG⟩ := dw_enter hv0
  generalize va_A [(b0, .inr (0, [.ref u0, .ref f0, .ref e0, .ref g0, .ref aRp, .ref aNr, .ref aI, .ref c0, .ref h0, .int (an)])), (u0, .inr (1, [.ref aK, .ref aX, .ref aY, .ref aN, .ref aV, .ref aM, .int (nI (n)), .int (nI (R))]))] sz = A at hG ⊢
  have hl := lv_entry ([.ref b0, .int (q9), .int (0)]) (n := 3) (Nat.le_of_ble_eq_true rfl)
  rw [lg_entry_eq]
  generalize (lg_sl ([.ref b0, .int (q9), .int (0)]) ++ List.replicate (3 - (lg_sl ([.ref b0, .int (q9), .int (0)])).length) Slot.unset).toArray = ls at hl ⊢
  have hl : lv_has ls 3 [(0, .ref b0), (1, .int (q9)), (2, .int (0))] := hl
  have hw138 := hts _ (List.mem_cons_of_mem _ tw_138)
  have hw64 := hts _ (List.mem_cons_of_mem _ tw_64)
  refine dw_Q (fun Q hQ => ?_)
  suffices hgo : ∀ (H : Heap), H = s.heap → dw_G (dC, dI) vwCl [(cI, .int), (cZ, .boolean)] A s.heap s [(b0, .inr (0, [.ref u0, .ref f0, .ref e0, .ref g0, .ref aRp, .ref aNr, .ref aI, .ref c0, .ref h0, .int (an)])), (u0, .inr (1, [.ref aK, .ref aX, .ref aY, .ref aN, .ref aV, .ref aM, .int (nI (n)), .int (nI (R))]))] H [] → W p l e (headSpec wsB_observed { frames := 7, cells := 1, slots := 6, locals := 150 }).room s m [.ref b0, .int (q9), .int (0)].toArray below meth c H [] 0 0 Q (F0 m 0 ls []) from hgo _ rfl hG
  clear hG
  intro H hH hG
  refine lv_iload_n hx hb dB_observed_0 rfl (lv_at hl 1 rfl) ?_
  refine lv_if_lt (tgt := 15) hx hb dB_observed_1 (by decide) (fun h1 => ?_) (fun h1 => ?_)
  · skip
    subst hQ
    exact dx_throw (names := xUp) hx hb htr hno hlocks (hl.1.trans hml.symm) hH hown hNx (dx_o 2 rfl) (dx_o 5 rfl) (dx_o 16 rfl) dx_IO (by decide +kernel) (by decide +kernel) (Nat.le_of_ble_eq_true rfl) (Nat.le_of_ble_eq_true rfl) (Nat.le_of_ble_eq_true rfl) (Nat.le_of_ble_eq_true rfl) dB_observed_15 dB_observed_18 dB_observed_19 dB_observed_21 dB_observed_24
  refine lv_iload_n hx hb dB_observed_4 rfl (lv_at hl 1 rfl) ?_
  refine lv_aload_n hx hb dB_observed_5 rfl (lv_at hl 0 rfl) ?_
  refine dw_get hx hb hts inBc hown hG 0 0 rfl rfl (by decide) hw138 rfl rfl dB_observed_6 ?_
  refine dw_get hx hb hts inUc hown hG 1 7 rfl rfl (by decide) hw64 rfl rfl dB_observed_9 ?_
  refine lv_icmp_lt (tgt := 25) hx hb dB_observed_12 (by decide) (fun h12 => ?_) (fun h12 => ?_)
  · skip
    exact absurd hbad (fun q => q.elim h1 (fun z => Int32.not_le.mpr h12 z))
  subst hQ
  exact dx_throw (names := xUp) hx hb htr hno hlocks (hl.1.trans hml.symm) hH hown hNx (dx_o 2 rfl) (dx_o 5 rfl) (dx_o 16 rfl) dx_IO (by decide +kernel) (by decide +kernel) (Nat.le_of_ble_eq_true rfl) (Nat.le_of_ble_eq_true rfl) (Nat.le_of_ble_eq_true rfl) (Nat.le_of_ble_eq_true rfl) dB_observed_15 dB_observed_18 dB_observed_19 dB_observed_21 dB_observed_24

set_option maxRecDepth 100000 in
set_option maxHeartbeats 4000000 in
theorem cx_value0_1 (l : Launch) (dC : Nat → ClassId) (dI : Nat → Nat → Nat) (cI cZ : ClassId) (htr : l.stackTraces = false) (b0 u0 aK aX aY aN aV aM f0 e0 g0 aRp aNr aI c0 h0 n R : Nat) (an : Int32) (v : Int32) (sz : Nat) (hinv : v < 0 ∨ nI n ≤ v) : dx_Met l yB_value wsB_value { frames := 7, cells := 1, slots := 6, locals := 150 } (fun a U => va_Pc [.ref b0, .int (v), .int (0)] (dw_pre (dC, dI) vwCl [(b0, .inr (0, [.ref u0, .ref f0, .ref e0, .ref g0, .ref aRp, .ref aNr, .ref aI, .ref c0, .ref h0, .int (an)])), (u0, .inr (1, [.ref aK, .ref aX, .ref aY, .ref aN, .ref aV, .ref aM, .int (nI (n)), .int (nI (R))]))] [(cI, .int), (cZ, .boolean)] sz) a U ∧ dx_N U) xIO := by
  refine dx_ofW (cc := cB_value) (maxL := 3) (ret := (some .int)) (by decide) rfl ?_
  intro p e s m args below meth c s₁ B hml hv0
  obtain ⟨hv0, hNx⟩ := hv0
  have hx := B.exec
  have hb := B.bytes
  have hr := B.returns
  have hts := atoms_spec (ws := wsB_value) B.pre
  have hown : s.vm.findClass RB = some m.cls := findClass_of_methodNamed B.named
  have hlocks := B.notSynchronized
  have hno := B.noHandlers (hts _ List.mem_cons_self)
  obtain ⟨rfl, hsz, hG⟩ := dw_enter hv0
  generalize va_A [(b0, .inr (0, [.ref u0, .ref f0, .ref e0, .ref g0, .ref aRp, .ref aNr, .ref aI, .ref c0, .ref h0, .int (an)])), (u0, .inr (1, [.ref aK, .ref aX, .ref aY, .ref aN, .ref aV, .ref aM, .int (nI (n)), .int (nI (R))]))] sz = A at hG ⊢
  have hl := lv_entry ([.ref b0, .int (v), .int (0)]) (n := 3) (Nat.le_of_ble_eq_true rfl)
  rw [lg_entry_eq]
  generalize (lg_sl ([.ref b0, .int (v), .int (0)]) ++ List.replicate (3 - (lg_sl ([.ref b0, .int (v), .int (0)])).length) Slot.unset).toArray = ls at hl ⊢
  have hl : lv_has ls 3 [(0, .ref b0), (1, .int (v)), (2, .int (0))] := hl
  refine dw_Q (fun Q hQ => ?_)
  suffices hgo : ∀ (H : Heap), H = s.heap → dw_G (dC, dI) vwCl [(cI, .int), (cZ, .boolean)] A s.heap s [(b0, .inr (0, [.ref u0, .ref f0, .ref e0, .ref g0, .ref aRp, .ref aNr, .ref aI, .ref c0, .ref h0, .int (an)])), (u0, .inr (1, [.ref aK, .ref aX, .ref aY, .ref aN, .ref aV, .ref aM, .int (nI (n)), .int (nI (R))]))] H [] → W p l e (headSpec wsB_value { frames := 7, cells := 1, slots := 6, locals := 150 }).room s m [.ref b0, .int (v), .int (0)].toArray below meth c H [] 0 0 Q (F0 m 0 ls []) from hgo _ rfl hG
  clear hG
  intro H hH hG
  refine lv_aload_n hx hb dB_value_0 rfl (lv_at hl 0 rfl) ?_
  refine lv_iload_n hx hb dB_value_1 rfl (lv_at hl 1 rfl) ?_
  subst hQ
  exact dx_callT (As := [.int (v)]) (rest := []) ⟨hx, hb, hml, hown, hts⟩ (cx_req l dC dI cI cZ htr b0 u0 aK aX aY aN aV aM f0 e0 g0 aRp aNr aI c0 h0 n R (an) (v) H.size hinv) (dc_V 1 hts tw_370 tw_372 tp_B_requireValue tw_1 tw_373 rfl rfl (by decide +kernel) ⟨Nat.le_of_ble_eq_true rfl, Nat.le_of_ble_eq_true rfl⟩) (dw_preV (ci := 0) (wc := [(b0, .inr (0, [.ref u0, .ref f0, .ref e0, .ref g0, .ref aRp, .ref aNr, .ref aI, .ref c0, .ref h0, .int (an)])), (u0, .inr (1, [.ref aK, .ref aX, .ref aY, .ref aN, .ref aV, .ref aM, .int (nI (n)), .int (nI (R))]))]) hG [0, 1] [0, 1] rfl rfl (by decide) rfl rfl (q0 := 0) rfl) hH hNx hno hlocks rfl hl.1 rfl (Nat.le_of_ble_eq_true rfl) dB_value_2 ⟨Nat.le_of_ble_eq_true rfl, Nat.le_of_ble_eq_true rfl⟩

set_option maxRecDepth 100000 in
set_option maxHeartbeats 4000000 in
theorem cx_observed1_1 (l : Launch) (dC : Nat → ClassId) (dI : Nat → Nat → Nat) (cI cZ : ClassId) (htr : l.stackTraces = false) (b0 u0 aK aX aY aN aV aM f0 e0 g0 aRp aNr aI c0 h0 n R : Nat) (an : Int32) (q9 : Int32) (sz : Nat) (hbad : q9 < 0 ∨ nI R ≤ q9) : dx_Met l yB_observed wsB_observed { frames := 7, cells := 1, slots := 6, locals := 150 } (fun a U => va_Pc [.ref b0, .int (q9), .int (1)] (dw_pre (dC, dI) vwCl [(b0, .inr (0, [.ref u0, .ref f0, .ref e0, .ref g0, .ref aRp, .ref aNr, .ref aI, .ref c0, .ref h0, .int (an)])), (u0, .inr (1, [.ref aK, .ref aX, .ref aY, .ref aN, .ref aV, .ref aM, .int (nI (n)), .int (nI (R))]))] [(cI, .int), (cZ, .boolean)] sz) a U ∧ dx_N U) xIO := by
  refine dx_ofW (cc := cB_observed) (maxL := 3) (ret := (some .int)) (by decide) rfl ?_
  intro p e s m args below meth c s₁ B hml hv0
  obtain ⟨hv0, hNx⟩ := hv0
  have hx := B.exec
  have hb := B.bytes
  have hr := B.returns
  have hts := atoms_spec (ws := wsB_observed) B.pre
  have hown : s.vm.findClass RB = some m.cls := findClass_of_methodNamed B.named
  have hlocks := B.notSynchronized
  have hno := B.noHandlers (hts _ List.mem_cons_self)
  obtain ⟨rfl, hsz, hG⟩ := dw_enter hv0
  generalize va_A [(b0, .inr (0, [.ref u0, .ref f0, .ref e0, .ref g0, .ref aRp, .ref aNr, .ref aI, .ref c0, .ref h0, .int (an)])), (u0, .inr (1, [.ref aK, .ref aX, .ref aY, .ref aN, .ref aV, .ref aM, .int (nI (n)), .int (nI (R))]))] sz = A at hG ⊢
  have hl := lv_entry ([.ref b0, .int (q9), .int (1)]) (n := 3) (Nat.le_of_ble_eq_true rfl)
  rw [lg_entry_eq]
  generalize (lg_sl ([.ref b0, .int (q9), .int (1)]) ++ List.replicate (3 - (lg_sl ([.ref b0, .int (q9), .int (1)])).length) Slot.unset).toArray = ls at hl ⊢
  have hl : lv_has ls 3 [(0, .ref b0), (1, .int (q9)), (2, .int (1))] := hl
  have hw138 := hts _ (List.mem_cons_of_mem _ tw_138)
  have hw64 := hts _ (List.mem_cons_of_mem _ tw_64)
  refine dw_Q (fun Q hQ => ?_)
  suffices hgo : ∀ (H : Heap), H = s.heap → dw_G (dC, dI) vwCl [(cI, .int), (cZ, .boolean)] A s.heap s [(b0, .inr (0, [.ref u0, .ref f0, .ref e0, .ref g0, .ref aRp, .ref aNr, .ref aI, .ref c0, .ref h0, .int (an)])), (u0, .inr (1, [.ref aK, .ref aX, .ref aY, .ref aN, .ref aV, .ref aM, .int (nI (n)), .int (nI (R))]))] H [] → W p l e (headSpec wsB_observed { frames := 7, cells := 1, slots := 6, locals := 150 }).room s m [.ref b0, .int (q9), .int (1)].toArray below meth c H [] 0 0 Q (F0 m 0 ls []) from hgo _ rfl hG
  clear hG
  intro H hH hG
  refine lv_iload_n hx hb dB_observed_0 rfl (lv_at hl 1 rfl) ?_
  refine lv_if_lt (tgt := 15) hx hb dB_observed_1 (by decide) (fun h1 => ?_) (fun h1 => ?_)
  · skip
    subst hQ
    exact dx_throw (names := xUp) hx hb htr hno hlocks (hl.1.trans hml.symm) hH hown hNx (dx_o 2 rfl) (dx_o 5 rfl) (dx_o 16 rfl) dx_IO (by decide +kernel) (by decide +kernel) (Nat.le_of_ble_eq_true rfl) (Nat.le_of_ble_eq_true rfl) (Nat.le_of_ble_eq_true rfl) (Nat.le_of_ble_eq_true rfl) dB_observed_15 dB_observed_18 dB_observed_19 dB_observed_21 dB_observed_24
  refine lv_iload_n hx hb dB_observed_4 rfl (lv_at hl 1 rfl) ?_
  refine lv_aload_n hx hb dB_observed_5 rfl (lv_at hl 0 rfl) ?_
  refine dw_get hx hb hts inBc hown hG 0 0 rfl rfl (by decide) hw138 rfl rfl dB_observed_6 ?_
  refine dw_get hx hb hts inUc hown hG 1 7 rfl rfl (by decide) hw64 rfl rfl dB_observed_9 ?_
  refine lv_icmp_lt (tgt := 25) hx hb dB_observed_12 (by decide) (fun h12 => ?_) (fun h12 => ?_)
  · skip
    exact absurd hbad (fun q => q.elim h1 (fun z => Int32.not_le.mpr h12 z))
  subst hQ
  exact dx_throw (names := xUp) hx hb htr hno hlocks (hl.1.trans hml.symm) hH hown hNx (dx_o 2 rfl) (dx_o 5 rfl) (dx_o 16 rfl) dx_IO (by decide +kernel) (by decide +kernel) (Nat.le_of_ble_eq_true rfl) (Nat.le_of_ble_eq_true rfl) (Nat.le_of_ble_eq_true rfl) (Nat.le_of_ble_eq_true rfl) dB_observed_15 dB_observed_18 dB_observed_19 dB_observed_21 dB_observed_24

set_option maxRecDepth 100000 in
set_option maxHeartbeats 4000000 in
theorem cx_value1_1 (l : Launch) (dC : Nat → ClassId) (dI : Nat → Nat → Nat) (cI cZ : ClassId) (htr : l.stackTraces = false) (b0 u0 aK aX aY aN aV aM f0 e0 g0 aRp aNr aI c0 h0 n R : Nat) (an : Int32) (v : Int32) (sz : Nat) (hinv : v < 0 ∨ nI n ≤ v) : dx_Met l yB_value wsB_value { frames := 7, cells := 1, slots := 6, locals := 150 } (fun a U => va_Pc [.ref b0, .int (v), .int (1)] (dw_pre (dC, dI) vwCl [(b0, .inr (0, [.ref u0, .ref f0, .ref e0, .ref g0, .ref aRp, .ref aNr, .ref aI, .ref c0, .ref h0, .int (an)])), (u0, .inr (1, [.ref aK, .ref aX, .ref aY, .ref aN, .ref aV, .ref aM, .int (nI (n)), .int (nI (R))]))] [(cI, .int), (cZ, .boolean)] sz) a U ∧ dx_N U) xIO := by
  refine dx_ofW (cc := cB_value) (maxL := 3) (ret := (some .int)) (by decide) rfl ?_
  intro p e s m args below meth c s₁ B hml hv0
  obtain ⟨hv0, hNx⟩ := hv0
  have hx := B.exec
  have hb := B.bytes
  have hr := B.returns
  have hts := atoms_spec (ws := wsB_value) B.pre
  have hown : s.vm.findClass RB = some m.cls := findClass_of_methodNamed B.named
  have hlocks := B.notSynchronized
  have hno := B.noHandlers (hts _ List.mem_cons_self)
  obtain ⟨rfl, hsz, hG⟩ := dw_enter hv0
  generalize va_A [(b0, .inr (0, [.ref u0, .ref f0, .ref e0, .ref g0, .ref aRp, .ref aNr, .ref aI, .ref c0, .ref h0, .int (an)])), (u0, .inr (1, [.ref aK, .ref aX, .ref aY, .ref aN, .ref aV, .ref aM, .int (nI (n)), .int (nI (R))]))] sz = A at hG ⊢
  have hl := lv_entry ([.ref b0, .int (v), .int (1)]) (n := 3) (Nat.le_of_ble_eq_true rfl)
  rw [lg_entry_eq]
  generalize (lg_sl ([.ref b0, .int (v), .int (1)]) ++ List.replicate (3 - (lg_sl ([.ref b0, .int (v), .int (1)])).length) Slot.unset).toArray = ls at hl ⊢
  have hl : lv_has ls 3 [(0, .ref b0), (1, .int (v)), (2, .int (1))] := hl
  refine dw_Q (fun Q hQ => ?_)
  suffices hgo : ∀ (H : Heap), H = s.heap → dw_G (dC, dI) vwCl [(cI, .int), (cZ, .boolean)] A s.heap s [(b0, .inr (0, [.ref u0, .ref f0, .ref e0, .ref g0, .ref aRp, .ref aNr, .ref aI, .ref c0, .ref h0, .int (an)])), (u0, .inr (1, [.ref aK, .ref aX, .ref aY, .ref aN, .ref aV, .ref aM, .int (nI (n)), .int (nI (R))]))] H [] → W p l e (headSpec wsB_value { frames := 7, cells := 1, slots := 6, locals := 150 }).room s m [.ref b0, .int (v), .int (1)].toArray below meth c H [] 0 0 Q (F0 m 0 ls []) from hgo _ rfl hG
  clear hG
  intro H hH hG
  refine lv_aload_n hx hb dB_value_0 rfl (lv_at hl 0 rfl) ?_
  refine lv_iload_n hx hb dB_value_1 rfl (lv_at hl 1 rfl) ?_
  subst hQ
  exact dx_callT (As := [.int (v)]) (rest := []) ⟨hx, hb, hml, hown, hts⟩ (cx_req l dC dI cI cZ htr b0 u0 aK aX aY aN aV aM f0 e0 g0 aRp aNr aI c0 h0 n R (an) (v) H.size hinv) (dc_V 1 hts tw_370 tw_372 tp_B_requireValue tw_1 tw_373 rfl rfl (by decide +kernel) ⟨Nat.le_of_ble_eq_true rfl, Nat.le_of_ble_eq_true rfl⟩) (dw_preV (ci := 0) (wc := [(b0, .inr (0, [.ref u0, .ref f0, .ref e0, .ref g0, .ref aRp, .ref aNr, .ref aI, .ref c0, .ref h0, .int (an)])), (u0, .inr (1, [.ref aK, .ref aX, .ref aY, .ref aN, .ref aV, .ref aM, .int (nI (n)), .int (nI (R))]))]) hG [0, 1] [0, 1] rfl rfl (by decide) rfl rfl (q0 := 0) rfl) hH hNx hno hlocks rfl hl.1 rfl (Nat.le_of_ble_eq_true rfl) dB_value_2 ⟨Nat.le_of_ble_eq_true rfl, Nat.le_of_ble_eq_true rfl⟩

