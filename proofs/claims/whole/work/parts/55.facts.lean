set_option maxRecDepth 100000 in
set_option maxHeartbeats 4000000 in
theorem cb_upTo (l : Launch) (dC : Nat → ClassId) (dI : Nat → Nat → Nat) (cI cZ : ClassId) (d : Int32) (sz : Nat)  : Met l yB_upTo wsB_upTo { frames := 1, cells := 0, slots := 0, locals := 24 } (va_Pc [.int (d)] (dw_pre (dC, dI) vwCl [] [(cI, .int), (cZ, .boolean)] sz)) (va_Qi (fun (r : Int32) (u : Unit) => r = db_upto d) (fun u t => dw_post (dC, dI) vwCl [] [(cI, .int), (cZ, .boolean)] (va_A [] sz) t) (va_A [] sz)) 0 0 (va_A [] sz) := by
  refine Met.ofW (cc := cB_upTo) (maxL := 1) (ret := (some .int)) (by decide) rfl ?_
  intro p e s m args below meth c s₁ B hml hv0
  have hx := B.exec
  have hb := B.bytes
  have hr := B.returns
  have hts := atoms_spec (ws := wsB_upTo) B.pre
  have hown : s.vm.findClass RB = some m.cls := findClass_of_methodNamed B.named
  have hlocks := B.notSynchronized
  obtain ⟨rfl, hsz, hG⟩ := dw_enter hv0
  generalize va_A [] sz = A at hG ⊢
  have hl := lv_entry ([.int (d)]) (n := 1) (Nat.le_of_ble_eq_true rfl)
  rw [lg_entry_eq]
  generalize (lg_sl ([.int (d)]) ++ List.replicate (1 - (lg_sl ([.int (d)])).length) Slot.unset).toArray = ls at hl ⊢
  have hl : lv_has ls 1 [(0, .int (d))] := hl
  refine dw_Q (fun Q hQ => ?_)
  suffices hgo : ∀ (H : Heap) (locs : List Loc), dw_G (dC, dI) vwCl [(cI, .int), (cZ, .boolean)] A s.heap s [] H locs → W p l e (headSpec wsB_upTo { frames := 1, cells := 0, slots := 0, locals := 24 }).room s m [.int (d)].toArray below meth c H locs 0 0 Q (F0 m 0 ls []) from hgo _ _ hG
  clear hG
  intro H locs hG
  refine lv_iload_n hx hb dB_upTo_0 rfl (lv_at hl 0 rfl) ?_
  refine lv_if_ne (tgt := 8) hx hb dB_upTo_1 (by decide) (fun h1 => ?_) (fun h1 => ?_)
  · skip
    refine lv_iconst (v := -1) hx hb dB_upTo_8 (by decide) ?_
    refine lv_iload_n hx hb dB_upTo_9 rfl (lv_at hl 0 rfl) ?_
    refine dw_calli (wc := []) (wr := []) hG [] [] rfl rfl (by decide) (by decide) (va_runS (As := [.int (d)]) (rest := [.int (-1)]) ⟨hx, hb, hml, hown, hts⟩ (jd_lz l dC dI cI cZ (d) H.size ) (dc_S 1 hts tw_231 tw_232 tw_14 tw_233 rfl rfl (by decide +kernel) ⟨Nat.le_of_ble_eq_true rfl, Nat.le_of_ble_eq_true rfl⟩) (dw_preS hG [] [0, 1] rfl rfl (by decide) rfl) rfl rfl hl.1 rfl (lv_room (Nat.le_of_ble_eq_true rfl)) dB_upTo_10 ⟨Nat.le_refl _, Nat.le_refl _⟩) (fun r u H locs hp hG => ?_)
    subst hp
    have hG : dw_G (dC, dI) vwCl [(cI, .int), (cZ, .boolean)] A s.heap s [] H locs := hG
    refine lv_iushr (v := db_ushr (-1) (nI (db_lz (d)))) hx hb dB_upTo_13 rfl ?_
    subst hQ
    exact dw_iret hx hb hr hG (()) rfl (if_neg h1).symm dB_upTo_14 hlocks
  refine lv_iconst (v := 0) hx hb dB_upTo_4 (by decide) ?_
  refine lv_goto (tgt := 14) hx hb dB_upTo_5 (by decide) ?_
  subst hQ
  exact dw_iret hx hb hr hG (()) rfl (if_pos h1).symm dB_upTo_14 hlocks

set_option maxRecDepth 100000 in
set_option maxHeartbeats 4000000 in
theorem cb_lowest (l : Launch) (dC : Nat → ClassId) (dI : Nat → Nat → Nat) (cI cZ : ClassId) (k : Nat) (sz : Nat) (hk : k ≤ 64) : Met l yB_lowest wsB_lowest { frames := 0, cells := 0, slots := 0, locals := 0 } (va_Pc [.int (nI (k))] (dw_pre (dC, dI) vwCl [] [(cI, .int), (cZ, .boolean)] sz)) (va_Qi (fun (r : Int32) (u : Unit) => r = db_low k) (fun u t => dw_post (dC, dI) vwCl [] [(cI, .int), (cZ, .boolean)] (va_A [] sz) t) (va_A [] sz)) 0 0 (va_A [] sz) := by
  refine Met.ofW (cc := cB_lowest) (maxL := 1) (ret := (some .int)) (by decide) rfl ?_
  intro p e s m args below meth c s₁ B hml hv0
  have hx := B.exec
  have hb := B.bytes
  have hr := B.returns
  have hts := atoms_spec (ws := wsB_lowest) B.pre
  have hown : s.vm.findClass RB = some m.cls := findClass_of_methodNamed B.named
  have hlocks := B.notSynchronized
  obtain ⟨rfl, hsz, hG⟩ := dw_enter hv0
  generalize va_A [] sz = A at hG ⊢
  have hl := lv_entry ([.int (nI (k))]) (n := 1) (Nat.le_of_ble_eq_true rfl)
  rw [lg_entry_eq]
  generalize (lg_sl ([.int (nI (k))]) ++ List.replicate (1 - (lg_sl ([.int (nI (k))])).length) Slot.unset).toArray = ls at hl ⊢
  have hl : lv_has ls 1 [(0, .int (nI (k)))] := hl
  refine dw_Q (fun Q hQ => ?_)
  suffices hgo : ∀ (H : Heap) (locs : List Loc), dw_G (dC, dI) vwCl [(cI, .int), (cZ, .boolean)] A s.heap s [] H locs → W p l e (headSpec wsB_lowest { frames := 0, cells := 0, slots := 0, locals := 0 }).room s m [.int (nI (k))].toArray below meth c H locs 0 0 Q (F0 m 0 ls []) from hgo _ _ hG
  clear hG
  intro H locs hG
  refine lv_iload_n hx hb dB_lowest_0 rfl (lv_at hl 0 rfl) ?_
  refine lv_bipush (v := 32) hx hb dB_lowest_1 (by decide) ?_
  refine lv_icmp_lt (tgt := 10) hx hb dB_lowest_3 (by decide) (fun h3 => ?_) (fun h3 => ?_)
  · skip
    replace h3 := (nI_ltI (a := k) (b := 32) (by omega) (by omega)).mp h3
    refine lv_iconst (v := 1) hx hb dB_lowest_10 (by decide) ?_
    refine lv_iload_n hx hb dB_lowest_11 rfl (lv_at hl 0 rfl) ?_
    refine lv_ishl hx hb dB_lowest_12 ?_
    refine lv_iconst (v := 1) hx hb dB_lowest_13 (by decide) ?_
    refine lv_isub hx hb dB_lowest_14 ?_
    subst hQ
    exact dw_iret hx hb hr hG (()) rfl (if_neg (by omega)).symm dB_lowest_15 hlocks
  replace h3 : ¬ k < 32 := fun hq0 => h3 ((nI_ltI (a := k) (b := 32) (by omega) (by omega)).mpr hq0)
  refine lv_iconst (v := -1) hx hb dB_lowest_6 (by decide) ?_
  refine lv_goto (tgt := 15) hx hb dB_lowest_7 (by decide) ?_
  subst hQ
  exact dw_iret hx hb hr hG (()) rfl (if_pos (by omega)).symm dB_lowest_15 hlocks

set_option maxRecDepth 100000 in
set_option maxHeartbeats 4000000 in
theorem cb_width (l : Launch) (dC : Nat → ClassId) (dI : Nat → Nat → Nat) (cI cZ : ClassId) (d : Int32) (sz : Nat)  : Met l yB_width wsB_width { frames := 0, cells := 0, slots := 0, locals := 0 } (va_Pc [.int (d)] (dw_pre (dC, dI) vwCl [] [(cI, .int), (cZ, .boolean)] sz)) (va_Qi (fun (r : Int32) (u : Unit) => r = if d &&& (-256) = 0 then 8 else if d &&& (-65536) = 0 then 16 else 32) (fun u t => dw_post (dC, dI) vwCl [] [(cI, .int), (cZ, .boolean)] (va_A [] sz) t) (va_A [] sz)) 0 0 (va_A [] sz) := by
  refine Met.ofW (cc := cB_width) (maxL := 1) (ret := (some .int)) (by decide) rfl ?_
  intro p e s m args below meth c s₁ B hml hv0
  have hx := B.exec
  have hb := B.bytes
  have hr := B.returns
  have hts := atoms_spec (ws := wsB_width) B.pre
  have hown : s.vm.findClass RB = some m.cls := findClass_of_methodNamed B.named
  have hlocks := B.notSynchronized
  obtain ⟨rfl, hsz, hG⟩ := dw_enter hv0
  generalize va_A [] sz = A at hG ⊢
  have hl := lv_entry ([.int (d)]) (n := 1) (Nat.le_of_ble_eq_true rfl)
  rw [lg_entry_eq]
  generalize (lg_sl ([.int (d)]) ++ List.replicate (1 - (lg_sl ([.int (d)])).length) Slot.unset).toArray = ls at hl ⊢
  have hl : lv_has ls 1 [(0, .int (d))] := hl
  have hw252 := hts _ (List.mem_cons_of_mem _ tw_252)
  refine dw_Q (fun Q hQ => ?_)
  suffices hgo : ∀ (H : Heap) (locs : List Loc), dw_G (dC, dI) vwCl [(cI, .int), (cZ, .boolean)] A s.heap s [] H locs → W p l e (headSpec wsB_width { frames := 0, cells := 0, slots := 0, locals := 0 }).room s m [.int (d)].toArray below meth c H locs 0 0 Q (F0 m 0 ls []) from hgo _ _ hG
  clear hG
  intro H locs hG
  refine lv_iload_n hx hb dB_width_0 rfl (lv_at hl 0 rfl) ?_
  refine lv_sipush (v := -256) hx hb dB_width_1 (by decide) ?_
  refine lv_iand hx hb dB_width_4 ?_
  refine lv_if_ne (tgt := 11) hx hb dB_width_5 (by decide) (fun h5 => ?_) (fun h5 => ?_)
  · skip
    refine lv_iload_n hx hb dB_width_11 rfl (lv_at hl 0 rfl) ?_
    refine lv_ldc (v := -65536) hx hb hown hw252 dB_width_12 ?_
    refine lv_iand hx hb dB_width_14 ?_
    refine lv_if_ne (tgt := 23) hx hb dB_width_15 (by decide) (fun h15 => ?_) (fun h15 => ?_)
    · skip
      refine lv_bipush (v := 32) hx hb dB_width_23 (by decide) ?_
      subst hQ
      exact dw_iret hx hb hr hG (()) rfl ((if_neg h5).trans (if_neg h15)).symm dB_width_25 hlocks
    refine lv_bipush (v := 16) hx hb dB_width_18 (by decide) ?_
    refine lv_goto (tgt := 25) hx hb dB_width_20 (by decide) ?_
    subst hQ
    exact dw_iret hx hb hr hG (()) rfl ((if_neg h5).trans (if_pos h15)).symm dB_width_25 hlocks
  refine lv_bipush (v := 8) hx hb dB_width_8 (by decide) ?_
  subst hQ
  exact dw_iret hx hb hr hG (()) rfl (if_pos h5).symm dB_width_10 hlocks

set_option maxRecDepth 100000 in
set_option maxHeartbeats 4000000 in
theorem cf_learn (l : Launch) (dC : Nat → ClassId) (dI : Nat → Nat → Nat) (cI cZ : ClassId) (f0 aZ aO : Nat) (ch : Int32) (Zs On : Nat → Int32) (v : Nat) (nz no : Int32) (sz : Nat) (hv : v < 24) : Met l yF_learn wsF_learn { frames := 0, cells := 0, slots := 0, locals := 0 } (va_Pc [.ref f0, .int (nI (v)), .int (nz), .int (no)] (dw_pre (dC, dI) vwCl [(f0, .inr (2, [.ref aZ, .ref aO, .int (ch)])), (aZ, .inl (cI, 24, .inl (Zs))), (aO, .inl (cI, 24, .inl (On)))] [(cI, .int), (cZ, .boolean)] sz)) (va_Qv (fun (u : Int32) => db_lrn ch u Zs On v nz no) (fun u t => dw_post (dC, dI) vwCl [(f0, .inr (2, [.ref aZ, .ref aO, .int (u)])), (aZ, .inl (cI, 24, .inl (upd Zs v nz))), (aO, .inl (cI, 24, .inl (upd On v no)))] [(cI, .int), (cZ, .boolean)] (va_A [(f0, .inr (2, [.ref aZ, .ref aO, .int (ch)])), (aZ, .inl (cI, 24, .inl (Zs))), (aO, .inl (cI, 24, .inl (On)))] sz) t) (va_A [(f0, .inr (2, [.ref aZ, .ref aO, .int (ch)])), (aZ, .inl (cI, 24, .inl (Zs))), (aO, .inl (cI, 24, .inl (On)))] sz)) 0 0 (va_A [(f0, .inr (2, [.ref aZ, .ref aO, .int (ch)])), (aZ, .inl (cI, 24, .inl (Zs))), (aO, .inl (cI, 24, .inl (On)))] sz) := by
  refine Met.ofW (cc := cF_learn) (maxL := 4) (ret := none) (by decide) rfl ?_
  intro p e s m args below meth c s₁ B hml hv0
  have hx := B.exec
  have hb := B.bytes
  have hr := B.returns
  have hts := atoms_spec (ws := wsF_learn) B.pre
  have hown : s.vm.findClass RF = some m.cls := findClass_of_methodNamed B.named
  have hlocks := B.notSynchronized
  obtain ⟨rfl, hsz, hG⟩ := dw_enter hv0
  generalize va_A [(f0, .inr (2, [.ref aZ, .ref aO, .int (ch)])), (aZ, .inl (cI, 24, .inl (Zs))), (aO, .inl (cI, 24, .inl (On)))] sz = A at hG ⊢
  have hl := lv_entry ([.ref f0, .int (nI (v)), .int (nz), .int (no)]) (n := 4) (Nat.le_of_ble_eq_true rfl)
  rw [lg_entry_eq]
  generalize (lg_sl ([.ref f0, .int (nI (v)), .int (nz), .int (no)]) ++ List.replicate (4 - (lg_sl ([.ref f0, .int (nI (v)), .int (nz), .int (no)])).length) Slot.unset).toArray = ls at hl ⊢
  have hl : lv_has ls 4 [(0, .ref f0), (1, .int (nI (v))), (2, .int (nz)), (3, .int (no))] := hl
  have hw89 := hts _ (List.mem_cons_of_mem _ tw_89)
  have hw95 := hts _ (List.mem_cons_of_mem _ tw_95)
  have hw92 := hts _ (List.mem_cons_of_mem _ tw_92)
  refine dw_Q (fun Q hQ => ?_)
  suffices hgo : ∀ (H : Heap) (locs : List Loc), dw_G (dC, dI) vwCl [(cI, .int), (cZ, .boolean)] A s.heap s [(f0, .inr (2, [.ref aZ, .ref aO, .int (ch)])), (aZ, .inl (cI, 24, .inl (Zs))), (aO, .inl (cI, 24, .inl (On)))] H locs → W p l e (headSpec wsF_learn { frames := 0, cells := 0, slots := 0, locals := 0 }).room s m [.ref f0, .int (nI (v)), .int (nz), .int (no)].toArray below meth c H locs 0 0 Q (F0 m 0 ls []) from hgo _ _ hG
  clear hG
  intro H locs hG
  refine lv_aload_n hx hb dF_learn_0 rfl (lv_at hl 0 rfl) ?_
  refine dw_get hx hb hts inFc hown hG 0 0 rfl rfl (by decide) hw89 rfl rfl dF_learn_1 ?_
  refine lv_iload_n hx hb dF_learn_4 rfl (lv_at hl 1 rfl) ?_
  refine dw_ia (x := (Zs) (v)) hx hb hG 1 0 rfl rfl (v) rfl (by omega) (by decide) rfl dF_learn_5 ?_
  refine lv_iload_n hx hb dF_learn_6 rfl (lv_at hl 2 rfl) ?_
  refine lv_icmp_ne (tgt := 20) hx hb dF_learn_7 (by decide) (fun h7 => ?_) (fun h7 => ?_)
  · skip
    refine lv_aload_n hx hb dF_learn_20 rfl (lv_at hl 0 rfl) ?_
    refine lv_iconst (v := 1) hx hb dF_learn_21 (by decide) ?_
    refine dw_put (ws' := [(f0, .inr (2, [.ref aZ, .ref aO, .int (1)])), (aZ, .inl (cI, 24, .inl (Zs))), (aO, .inl (cI, 24, .inl (On)))]) hx hb hts inFc tyF tyF_ok nmF hown hG 0 2 rfl rfl (by decide) hw95 rfl rfl (ty := .boolean) (by decide +kernel) rfl rfl (Nat.le_of_ble_eq_true rfl) dF_learn_22 rfl (fun H locs hG => ?_)
    refine lv_aload_n hx hb dF_learn_25 rfl (lv_at hl 0 rfl) ?_
    refine dw_get hx hb hts inFc hown hG 0 0 rfl rfl (by decide) hw89 rfl rfl dF_learn_26 ?_
    refine lv_iload_n hx hb dF_learn_29 rfl (lv_at hl 1 rfl) ?_
    refine lv_iload_n hx hb dF_learn_30 rfl (lv_at hl 2 rfl) ?_
    refine dw_is (ws' := [(f0, .inr (2, [.ref aZ, .ref aO, .int (1)])), (aZ, .inl (cI, 24, .inl (upd (Zs) (v) (nz)))), (aO, .inl (cI, 24, .inl (On)))]) hx hb hG 1 0 rfl rfl (v) rfl (by omega) (by decide) dF_learn_31 rfl (fun H locs hG => ?_)
    refine lv_aload_n hx hb dF_learn_32 rfl (lv_at hl 0 rfl) ?_
    refine dw_get hx hb hts inFc hown hG 0 1 rfl rfl (by decide) hw92 rfl rfl dF_learn_33 ?_
    refine lv_iload_n hx hb dF_learn_36 rfl (lv_at hl 1 rfl) ?_
    refine lv_iload_n hx hb dF_learn_37 rfl (lv_at hl 3 rfl) ?_
    refine dw_is (ws' := [(f0, .inr (2, [.ref aZ, .ref aO, .int (1)])), (aZ, .inl (cI, 24, .inl (upd (Zs) (v) (nz)))), (aO, .inl (cI, 24, .inl (upd (On) (v) (no))))]) hx hb hG 2 0 rfl rfl (v) rfl (by omega) (by decide) dF_learn_38 rfl (fun H locs hG => ?_)
    subst hQ
    exact dw_vret hx hb hr hG (1) rfl (Or.inr ⟨fun q => h7 q.1, rfl⟩) dF_learn_39 hlocks
  refine lv_aload_n hx hb dF_learn_10 rfl (lv_at hl 0 rfl) ?_
  refine dw_get hx hb hts inFc hown hG 0 1 rfl rfl (by decide) hw92 rfl rfl dF_learn_11 ?_
  refine lv_iload_n hx hb dF_learn_14 rfl (lv_at hl 1 rfl) ?_
  refine dw_ia (x := (On) (v)) hx hb hG 2 0 rfl rfl (v) rfl (by omega) (by decide) rfl dF_learn_15 ?_
  refine lv_iload_n hx hb dF_learn_16 rfl (lv_at hl 3 rfl) ?_
  refine lv_icmp_eq (tgt := 25) hx hb dF_learn_17 (by decide) (fun h17 => ?_) (fun h17 => ?_)
  · skip
    refine lv_aload_n hx hb dF_learn_25 rfl (lv_at hl 0 rfl) ?_
    refine dw_get hx hb hts inFc hown hG 0 0 rfl rfl (by decide) hw89 rfl rfl dF_learn_26 ?_
    refine lv_iload_n hx hb dF_learn_29 rfl (lv_at hl 1 rfl) ?_
    refine lv_iload_n hx hb dF_learn_30 rfl (lv_at hl 2 rfl) ?_
    refine dw_is (ws' := [(f0, .inr (2, [.ref aZ, .ref aO, .int (ch)])), (aZ, .inl (cI, 24, .inl (upd (Zs) (v) (nz)))), (aO, .inl (cI, 24, .inl (On)))]) hx hb hG 1 0 rfl rfl (v) rfl (by omega) (by decide) dF_learn_31 rfl (fun H locs hG => ?_)
    refine lv_aload_n hx hb dF_learn_32 rfl (lv_at hl 0 rfl) ?_
    refine dw_get hx hb hts inFc hown hG 0 1 rfl rfl (by decide) hw92 rfl rfl dF_learn_33 ?_
    refine lv_iload_n hx hb dF_learn_36 rfl (lv_at hl 1 rfl) ?_
    refine lv_iload_n hx hb dF_learn_37 rfl (lv_at hl 3 rfl) ?_
    refine dw_is (ws' := [(f0, .inr (2, [.ref aZ, .ref aO, .int (ch)])), (aZ, .inl (cI, 24, .inl (upd (Zs) (v) (nz)))), (aO, .inl (cI, 24, .inl (upd (On) (v) (no))))]) hx hb hG 2 0 rfl rfl (v) rfl (by omega) (by decide) dF_learn_38 rfl (fun H locs hG => ?_)
    subst hQ
    exact dw_vret hx hb hr hG (ch) rfl (Or.inl ⟨h7, h17, rfl⟩) dF_learn_39 hlocks
  refine lv_aload_n hx hb dF_learn_20 rfl (lv_at hl 0 rfl) ?_
  refine lv_iconst (v := 1) hx hb dF_learn_21 (by decide) ?_
  refine dw_put (ws' := [(f0, .inr (2, [.ref aZ, .ref aO, .int (1)])), (aZ, .inl (cI, 24, .inl (Zs))), (aO, .inl (cI, 24, .inl (On)))]) hx hb hts inFc tyF tyF_ok nmF hown hG 0 2 rfl rfl (by decide) hw95 rfl rfl (ty := .boolean) (by decide +kernel) rfl rfl (Nat.le_of_ble_eq_true rfl) dF_learn_22 rfl (fun H locs hG => ?_)
  refine lv_aload_n hx hb dF_learn_25 rfl (lv_at hl 0 rfl) ?_
  refine dw_get hx hb hts inFc hown hG 0 0 rfl rfl (by decide) hw89 rfl rfl dF_learn_26 ?_
  refine lv_iload_n hx hb dF_learn_29 rfl (lv_at hl 1 rfl) ?_
  refine lv_iload_n hx hb dF_learn_30 rfl (lv_at hl 2 rfl) ?_
  refine dw_is (ws' := [(f0, .inr (2, [.ref aZ, .ref aO, .int (1)])), (aZ, .inl (cI, 24, .inl (upd (Zs) (v) (nz)))), (aO, .inl (cI, 24, .inl (On)))]) hx hb hG 1 0 rfl rfl (v) rfl (by omega) (by decide) dF_learn_31 rfl (fun H locs hG => ?_)
  refine lv_aload_n hx hb dF_learn_32 rfl (lv_at hl 0 rfl) ?_
  refine dw_get hx hb hts inFc hown hG 0 1 rfl rfl (by decide) hw92 rfl rfl dF_learn_33 ?_
  refine lv_iload_n hx hb dF_learn_36 rfl (lv_at hl 1 rfl) ?_
  refine lv_iload_n hx hb dF_learn_37 rfl (lv_at hl 3 rfl) ?_
  refine dw_is (ws' := [(f0, .inr (2, [.ref aZ, .ref aO, .int (1)])), (aZ, .inl (cI, 24, .inl (upd (Zs) (v) (nz)))), (aO, .inl (cI, 24, .inl (upd (On) (v) (no))))]) hx hb hG 2 0 rfl rfl (v) rfl (by omega) (by decide) dF_learn_38 rfl (fun H locs hG => ?_)
  subst hQ
  exact dw_vret hx hb hr hG (1) rfl (Or.inr ⟨fun q => h17 q.2, rfl⟩) dF_learn_39 hlocks

set_option maxRecDepth 100000 in
set_option maxHeartbeats 4000000 in
theorem cf_known (l : Launch) (dC : Nat → ClassId) (dI : Nat → Nat → Nat) (cI cZ : ClassId) (f0 aZ aO : Nat) (ch : Int32) (Zs On : Nat → Int32) (v : Nat) (sz : Nat) (hv : v < 24) : Met l yF_known wsF_known { frames := 0, cells := 0, slots := 0, locals := 0 } (va_Pc [.ref f0, .int (nI (v))] (dw_pre (dC, dI) vwCl [(f0, .inr (2, [.ref aZ, .ref aO, .int (ch)])), (aZ, .inl (cI, 24, .inl (Zs))), (aO, .inl (cI, 24, .inl (On)))] [(cI, .int), (cZ, .boolean)] sz)) (va_Qi (fun (r : Int32) (u : Unit) => r = Zs v ||| On v) (fun u t => dw_post (dC, dI) vwCl [(f0, .inr (2, [.ref aZ, .ref aO, .int (ch)])), (aZ, .inl (cI, 24, .inl (Zs))), (aO, .inl (cI, 24, .inl (On)))] [(cI, .int), (cZ, .boolean)] (va_A [(f0, .inr (2, [.ref aZ, .ref aO, .int (ch)])), (aZ, .inl (cI, 24, .inl (Zs))), (aO, .inl (cI, 24, .inl (On)))] sz) t) (va_A [(f0, .inr (2, [.ref aZ, .ref aO, .int (ch)])), (aZ, .inl (cI, 24, .inl (Zs))), (aO, .inl (cI, 24, .inl (On)))] sz)) 0 0 (va_A [(f0, .inr (2, [.ref aZ, .ref aO, .int (ch)])), (aZ, .inl (cI, 24, .inl (Zs))), (aO, .inl (cI, 24, .inl (On)))] sz) := by
  refine Met.ofW (cc := cF_known) (maxL := 2) (ret := (some .int)) (by decide) rfl ?_
  intro p e s m args below meth c s₁ B hml hv0
  have hx := B.exec
  have hb := B.bytes
  have hr := B.returns
  have hts := atoms_spec (ws := wsF_known) B.pre
  have hown : s.vm.findClass RF = some m.cls := findClass_of_methodNamed B.named
  have hlocks := B.notSynchronized
  obtain ⟨rfl, hsz, hG⟩ := dw_enter hv0
  generalize va_A [(f0, .inr (2, [.ref aZ, .ref aO, .int (ch)])), (aZ, .inl (cI, 24, .inl (Zs))), (aO, .inl (cI, 24, .inl (On)))] sz = A at hG ⊢
  have hl := lv_entry ([.ref f0, .int (nI (v))]) (n := 2) (Nat.le_of_ble_eq_true rfl)
  rw [lg_entry_eq]
  generalize (lg_sl ([.ref f0, .int (nI (v))]) ++ List.replicate (2 - (lg_sl ([.ref f0, .int (nI (v))])).length) Slot.unset).toArray = ls at hl ⊢
  have hl : lv_has ls 2 [(0, .ref f0), (1, .int (nI (v)))] := hl
  have hw89 := hts _ (List.mem_cons_of_mem _ tw_89)
  have hw92 := hts _ (List.mem_cons_of_mem _ tw_92)
  refine dw_Q (fun Q hQ => ?_)
  suffices hgo : ∀ (H : Heap) (locs : List Loc), dw_G (dC, dI) vwCl [(cI, .int), (cZ, .boolean)] A s.heap s [(f0, .inr (2, [.ref aZ, .ref aO, .int (ch)])), (aZ, .inl (cI, 24, .inl (Zs))), (aO, .inl (cI, 24, .inl (On)))] H locs → W p l e (headSpec wsF_known { frames := 0, cells := 0, slots := 0, locals := 0 }).room s m [.ref f0, .int (nI (v))].toArray below meth c H locs 0 0 Q (F0 m 0 ls []) from hgo _ _ hG
  clear hG
  intro H locs hG
  refine lv_aload_n hx hb dF_known_0 rfl (lv_at hl 0 rfl) ?_
  refine dw_get hx hb hts inFc hown hG 0 0 rfl rfl (by decide) hw89 rfl rfl dF_known_1 ?_
  refine lv_iload_n hx hb dF_known_4 rfl (lv_at hl 1 rfl) ?_
  refine dw_ia (x := (Zs) (v)) hx hb hG 1 0 rfl rfl (v) rfl (by omega) (by decide) rfl dF_known_5 ?_
  refine lv_aload_n hx hb dF_known_6 rfl (lv_at hl 0 rfl) ?_
  refine dw_get hx hb hts inFc hown hG 0 1 rfl rfl (by decide) hw92 rfl rfl dF_known_7 ?_
  refine lv_iload_n hx hb dF_known_10 rfl (lv_at hl 1 rfl) ?_
  refine dw_ia (x := (On) (v)) hx hb hG 2 0 rfl rfl (v) rfl (by omega) (by decide) rfl dF_known_11 ?_
  refine lv_ior hx hb dF_known_12 ?_
  subst hQ
  exact dw_iret hx hb hr hG (()) rfl rfl dF_known_13 hlocks

set_option maxRecDepth 100000 in
set_option maxHeartbeats 4000000 in
theorem cf_learnSum (l : Launch) (dC : Nat → ClassId) (dI : Nat → Nat → Nat) (cI cZ : ClassId) (f0 aZ aO : Nat) (ch : Int32) (Zs On : Nat → Int32) (v x : Nat) (yz yo c9 : Int32) (sz : Nat) (hv : v < 24) (hx9 : x < 24) : Met l yF_learnSum wsF_learnSum { frames := 1, cells := 0, slots := 0, locals := 30 } (va_Pc [.ref f0, .int (nI (v)), .int (nI (x)), .int (yz), .int (yo), .int (c9)] (dw_pre (dC, dI) vwCl [(f0, .inr (2, [.ref aZ, .ref aO, .int (ch)])), (aZ, .inl (cI, 24, .inl (Zs))), (aO, .inl (cI, 24, .inl (On)))] [(cI, .int), (cZ, .boolean)] sz)) (va_Qv (fun (u : Int32) => db_lrn ch u Zs On v (db_sumZ (Zs x) (On x) yz yo c9) (db_sumO (Zs x) (On x) yz yo c9)) (fun u t => dw_post (dC, dI) vwCl [(f0, .inr (2, [.ref aZ, .ref aO, .int (u)])), (aZ, .inl (cI, 24, .inl (upd Zs v (db_sumZ (Zs x) (On x) yz yo c9)))), (aO, .inl (cI, 24, .inl (upd On v (db_sumO (Zs x) (On x) yz yo c9))))] [(cI, .int), (cZ, .boolean)] (va_A [(f0, .inr (2, [.ref aZ, .ref aO, .int (ch)])), (aZ, .inl (cI, 24, .inl (Zs))), (aO, .inl (cI, 24, .inl (On)))] sz) t) (va_A [(f0, .inr (2, [.ref aZ, .ref aO, .int (ch)])), (aZ, .inl (cI, 24, .inl (Zs))), (aO, .inl (cI, 24, .inl (On)))] sz)) 0 0 (va_A [(f0, .inr (2, [.ref aZ, .ref aO, .int (ch)])), (aZ, .inl (cI, 24, .inl (Zs))), (aO, .inl (cI, 24, .inl (On)))] sz) := by
  refine Met.ofW (cc := cF_learnSum) (maxL := 11) (ret := none) (by decide) rfl ?_
  intro p e s m args below meth c s₁ B hml hv0
  have hx := B.exec
  have hb := B.bytes
  have hr := B.returns
  have hts := atoms_spec (ws := wsF_learnSum) B.pre
  have hown : s.vm.findClass RF = some m.cls := findClass_of_methodNamed B.named
  have hlocks := B.notSynchronized
  obtain ⟨rfl, hsz, hG⟩ := dw_enter hv0
  generalize va_A [(f0, .inr (2, [.ref aZ, .ref aO, .int (ch)])), (aZ, .inl (cI, 24, .inl (Zs))), (aO, .inl (cI, 24, .inl (On)))] sz = A at hG ⊢
  have hl := lv_entry ([.ref f0, .int (nI (v)), .int (nI (x)), .int (yz), .int (yo), .int (c9)]) (n := 11) (Nat.le_of_ble_eq_true rfl)
  rw [lg_entry_eq]
  generalize (lg_sl ([.ref f0, .int (nI (v)), .int (nI (x)), .int (yz), .int (yo), .int (c9)]) ++ List.replicate (11 - (lg_sl ([.ref f0, .int (nI (v)), .int (nI (x)), .int (yz), .int (yo), .int (c9)])).length) Slot.unset).toArray = ls at hl ⊢
  have hl : lv_has ls 11 [(0, .ref f0), (1, .int (nI (v))), (2, .int (nI (x))), (3, .int (yz)), (4, .int (yo)), (5, .int (c9))] := hl
  have hw92 := hts _ (List.mem_cons_of_mem _ tw_92)
  have hw89 := hts _ (List.mem_cons_of_mem _ tw_89)
  refine dw_Q (fun Q hQ => ?_)
  suffices hgo : ∀ (H : Heap) (locs : List Loc), dw_G (dC, dI) vwCl [(cI, .int), (cZ, .boolean)] A s.heap s [(f0, .inr (2, [.ref aZ, .ref aO, .int (ch)])), (aZ, .inl (cI, 24, .inl (Zs))), (aO, .inl (cI, 24, .inl (On)))] H locs → W p l e (headSpec wsF_learnSum { frames := 1, cells := 0, slots := 0, locals := 30 }).room s m [.ref f0, .int (nI (v)), .int (nI (x)), .int (yz), .int (yo), .int (c9)].toArray below meth c H locs 0 0 Q (F0 m 0 ls []) from hgo _ _ hG
  clear hG
  intro H locs hG
  refine lv_aload_n hx hb dF_learnSum_0 rfl (lv_at hl 0 rfl) ?_
  refine dw_get hx hb hts inFc hown hG 0 1 rfl rfl (by decide) hw92 rfl rfl dF_learnSum_1 ?_
  refine lv_iload_n hx hb dF_learnSum_4 rfl (lv_at hl 2 rfl) ?_
  refine dw_ia (x := (On) (x)) hx hb hG 2 0 rfl rfl (x) rfl (by omega) (by decide) rfl dF_learnSum_5 ?_
  refine lv_iload hx hb dF_learnSum_6 (lv_at hl 4 rfl) ?_
  refine lv_iadd hx hb dF_learnSum_8 ?_
  refine lv_iload hx hb dF_learnSum_9 (lv_at hl 5 rfl) ?_
  refine lv_iadd hx hb dF_learnSum_11 ?_
  refine lv_istore (lv' := [(6, .int ((((On) (x)) + (yo)) + (c9))), (0, .ref f0), (1, .int (nI (v))), (2, .int (nI (x))), (3, .int (yz)), (4, .int (yo)), (5, .int (c9))]) hx hb dF_learnSum_12 hl (by decide) rfl (fun ls hl => ?_)
  refine lv_aload_n hx hb dF_learnSum_14 rfl (lv_at hl 1 rfl) ?_
  refine dw_get hx hb hts inFc hown hG 0 0 rfl rfl (by decide) hw89 rfl rfl dF_learnSum_15 ?_
  refine lv_iload_n hx hb dF_learnSum_18 rfl (lv_at hl 3 rfl) ?_
  refine dw_ia (x := (Zs) (x)) hx hb hG 1 0 rfl rfl (x) rfl (by omega) (by decide) rfl dF_learnSum_19 ?_
  refine lv_iconst (v := -1) hx hb dF_learnSum_20 (by decide) ?_
  refine lv_ixor hx hb dF_learnSum_21 ?_
  refine lv_iload_n hx hb dF_learnSum_22 rfl (lv_at hl 4 rfl) ?_
  refine lv_iconst (v := -1) hx hb dF_learnSum_23 (by decide) ?_
  refine lv_ixor hx hb dF_learnSum_24 ?_
  refine lv_iadd hx hb dF_learnSum_25 ?_
  refine lv_iload hx hb dF_learnSum_26 (lv_at hl 6 rfl) ?_
  refine lv_iadd hx hb dF_learnSum_28 ?_
  refine lv_istore (lv' := [(7, .int (((((Zs) (x)) ^^^ (-1)) + ((yz) ^^^ (-1))) + (c9))), (6, .int ((((On) (x)) + (yo)) + (c9))), (0, .ref f0), (1, .int (nI (v))), (2, .int (nI (x))), (3, .int (yz)), (4, .int (yo)), (5, .int (c9))]) hx hb dF_learnSum_29 hl (by decide) rfl (fun ls hl => ?_)
  refine lv_iload hx hb dF_learnSum_31 (lv_at hl 1 rfl) ?_
  refine lv_aload_n hx hb dF_learnSum_33 rfl (lv_at hl 2 rfl) ?_
  refine dw_get hx hb hts inFc hown hG 0 1 rfl rfl (by decide) hw92 rfl rfl dF_learnSum_34 ?_
  refine lv_iload_n hx hb dF_learnSum_37 rfl (lv_at hl 4 rfl) ?_
  refine dw_ia (x := (On) (x)) hx hb hG 2 0 rfl rfl (x) rfl (by omega) (by decide) rfl dF_learnSum_38 ?_
  refine lv_ixor hx hb dF_learnSum_39 ?_
  refine lv_iload hx hb dF_learnSum_40 (lv_at hl 6 rfl) ?_
  refine lv_ixor hx hb dF_learnSum_42 ?_
  refine lv_istore (lv' := [(8, .int ((((((On) (x)) + (yo)) + (c9)) ^^^ ((On) (x))) ^^^ (yo))), (7, .int (((((Zs) (x)) ^^^ (-1)) + ((yz) ^^^ (-1))) + (c9))), (6, .int ((((On) (x)) + (yo)) + (c9))), (0, .ref f0), (1, .int (nI (v))), (2, .int (nI (x))), (3, .int (yz)), (4, .int (yo)), (5, .int (c9))]) hx hb dF_learnSum_43 hl (by decide) rfl (fun ls hl => ?_)
  refine lv_iload hx hb dF_learnSum_45 (lv_at hl 1 rfl) ?_
  refine lv_aload_n hx hb dF_learnSum_47 rfl (lv_at hl 3 rfl) ?_
  refine dw_get hx hb hts inFc hown hG 0 0 rfl rfl (by decide) hw89 rfl rfl dF_learnSum_48 ?_
  refine lv_iload_n hx hb dF_learnSum_51 rfl (lv_at hl 5 rfl) ?_
  refine dw_ia (x := (Zs) (x)) hx hb hG 1 0 rfl rfl (x) rfl (by omega) (by decide) rfl dF_learnSum_52 ?_
  refine lv_iconst (v := -1) hx hb dF_learnSum_53 (by decide) ?_
  refine lv_ixor hx hb dF_learnSum_54 ?_
  refine lv_ixor hx hb dF_learnSum_55 ?_
  refine lv_iload_n hx hb dF_learnSum_56 rfl (lv_at hl 6 rfl) ?_
  refine lv_iconst (v := -1) hx hb dF_learnSum_57 (by decide) ?_
  refine lv_ixor hx hb dF_learnSum_58 ?_
  refine lv_ixor hx hb dF_learnSum_59 ?_
  refine lv_istore (lv' := [(9, .int (((((((Zs) (x)) ^^^ (-1)) + ((yz) ^^^ (-1))) + (c9)) ^^^ (((Zs) (x)) ^^^ (-1))) ^^^ ((yz) ^^^ (-1)))), (8, .int ((((((On) (x)) + (yo)) + (c9)) ^^^ ((On) (x))) ^^^ (yo))), (7, .int (((((Zs) (x)) ^^^ (-1)) + ((yz) ^^^ (-1))) + (c9))), (6, .int ((((On) (x)) + (yo)) + (c9))), (0, .ref f0), (1, .int (nI (v))), (2, .int (nI (x))), (3, .int (yz)), (4, .int (yo)), (5, .int (c9))]) hx hb dF_learnSum_60 hl (by decide) rfl (fun ls hl => ?_)
  refine lv_aload_n hx hb dF_learnSum_62 rfl (lv_at hl 4 rfl) ?_
  refine lv_iload_n hx hb dF_learnSum_63 rfl (lv_at hl 6 rfl) ?_
  refine dw_calli (wc := [(f0, .inr (2, [.ref aZ, .ref aO, .int (ch)])), (aZ, .inl (cI, 24, .inl (Zs))), (aO, .inl (cI, 24, .inl (On)))]) (wr := []) hG [0, 1, 2] [] rfl rfl (by decide) (by decide) (va_runV (As := [.int (nI (x))]) (rest := []) ⟨hx, hb, hml, hown, hts⟩ (cf_known l dC dI cI cZ f0 aZ aO ch Zs On (x) H.size (by omega)) (dc_V 1 hts tw_193 tw_194 tw_195 tw_3 tw_196 rfl rfl (by decide +kernel) ⟨Nat.le_of_ble_eq_true rfl, Nat.le_of_ble_eq_true rfl⟩) (dw_preV (ci := 2) hG [0, 1, 2] [0, 1] rfl rfl (by decide) rfl rfl (q0 := 0) rfl) rfl rfl hl.1 rfl (lv_room (Nat.le_of_ble_eq_true rfl)) dF_learnSum_64 ⟨Nat.le_refl _, Nat.le_refl _⟩) (fun r u H locs hp hG => ?_)
  subst hp
  have hG : dw_G (dC, dI) vwCl [(cI, .int), (cZ, .boolean)] A s.heap s [(f0, .inr (2, [.ref aZ, .ref aO, .int (ch)])), (aZ, .inl (cI, 24, .inl (Zs))), (aO, .inl (cI, 24, .inl (On)))] H locs := hG
  refine lv_iload_n hx hb dF_learnSum_67 rfl (lv_at hl 7 rfl) ?_
  refine lv_iload hx hb dF_learnSum_68 (lv_at hl 8 rfl) ?_
  refine lv_ior hx hb dF_learnSum_70 ?_
  refine lv_iand hx hb dF_learnSum_71 ?_
  refine lv_iload hx hb dF_learnSum_72 (lv_at hl 1 rfl) ?_
  refine lv_iload hx hb dF_learnSum_74 (lv_at hl 0 rfl) ?_
  refine lv_ixor hx hb dF_learnSum_76 ?_
  refine lv_iconst (v := -1) hx hb dF_learnSum_77 (by decide) ?_
  refine lv_ixor hx hb dF_learnSum_78 ?_
  refine lv_iand hx hb dF_learnSum_79 ?_
  refine lv_istore (lv' := [(10, .int ((((Zs (x)) ||| (On (x))) &&& ((yz) ||| (yo))) &&& ((((((((On) (x)) + (yo)) + (c9)) ^^^ ((On) (x))) ^^^ (yo)) ^^^ (((((((Zs) (x)) ^^^ (-1)) + ((yz) ^^^ (-1))) + (c9)) ^^^ (((Zs) (x)) ^^^ (-1))) ^^^ ((yz) ^^^ (-1)))) ^^^ (-1)))), (9, .int (((((((Zs) (x)) ^^^ (-1)) + ((yz) ^^^ (-1))) + (c9)) ^^^ (((Zs) (x)) ^^^ (-1))) ^^^ ((yz) ^^^ (-1)))), (8, .int ((((((On) (x)) + (yo)) + (c9)) ^^^ ((On) (x))) ^^^ (yo))), (7, .int (((((Zs) (x)) ^^^ (-1)) + ((yz) ^^^ (-1))) + (c9))), (6, .int ((((On) (x)) + (yo)) + (c9))), (0, .ref f0), (1, .int (nI (v))), (2, .int (nI (x))), (3, .int (yz)), (4, .int (yo)), (5, .int (c9))]) hx hb dF_learnSum_80 hl (by decide) rfl (fun ls hl => ?_)
  refine lv_aload_n hx hb dF_learnSum_82 rfl (lv_at hl 5 rfl) ?_
  refine lv_iload_n hx hb dF_learnSum_83 rfl (lv_at hl 6 rfl) ?_
  refine lv_iload hx hb dF_learnSum_84 (lv_at hl 0 rfl) ?_
  refine lv_iload hx hb dF_learnSum_86 (lv_at hl 4 rfl) ?_
  refine lv_iconst (v := -1) hx hb dF_learnSum_88 (by decide) ?_
  refine lv_ixor hx hb dF_learnSum_89 ?_
  refine lv_iand hx hb dF_learnSum_90 ?_
  refine lv_iload hx hb dF_learnSum_91 (lv_at hl 0 rfl) ?_
  refine lv_iload hx hb dF_learnSum_93 (lv_at hl 4 rfl) ?_
  refine lv_iand hx hb dF_learnSum_95 ?_
  refine dw_callv (wc := [(f0, .inr (2, [.ref aZ, .ref aO, .int (ch)])), (aZ, .inl (cI, 24, .inl (Zs))), (aO, .inl (cI, 24, .inl (On)))]) (wr := []) hG [0, 1, 2] [] rfl rfl (by decide) (by decide) (va_runV (As := [.int (nI (v)), .int (((((Zs (x)) ||| (On (x))) &&& ((yz) ||| (yo))) &&& ((((((((On) (x)) + (yo)) + (c9)) ^^^ ((On) (x))) ^^^ (yo)) ^^^ (((((((Zs) (x)) ^^^ (-1)) + ((yz) ^^^ (-1))) + (c9)) ^^^ (((Zs) (x)) ^^^ (-1))) ^^^ ((yz) ^^^ (-1)))) ^^^ (-1))) &&& (((((On) (x)) + (yo)) + (c9)) ^^^ (-1))), .int (((((Zs (x)) ||| (On (x))) &&& ((yz) ||| (yo))) &&& ((((((((On) (x)) + (yo)) + (c9)) ^^^ ((On) (x))) ^^^ (yo)) ^^^ (((((((Zs) (x)) ^^^ (-1)) + ((yz) ^^^ (-1))) + (c9)) ^^^ (((Zs) (x)) ^^^ (-1))) ^^^ ((yz) ^^^ (-1)))) ^^^ (-1))) &&& ((((On) (x)) + (yo)) + (c9)))]) (rest := []) ⟨hx, hb, hml, hown, hts⟩ (cf_learn l dC dI cI cZ f0 aZ aO ch Zs On (v) (((((Zs (x)) ||| (On (x))) &&& ((yz) ||| (yo))) &&& ((((((((On) (x)) + (yo)) + (c9)) ^^^ ((On) (x))) ^^^ (yo)) ^^^ (((((((Zs) (x)) ^^^ (-1)) + ((yz) ^^^ (-1))) + (c9)) ^^^ (((Zs) (x)) ^^^ (-1))) ^^^ ((yz) ^^^ (-1)))) ^^^ (-1))) &&& (((((On) (x)) + (yo)) + (c9)) ^^^ (-1))) (((((Zs (x)) ||| (On (x))) &&& ((yz) ||| (yo))) &&& ((((((((On) (x)) + (yo)) + (c9)) ^^^ ((On) (x))) ^^^ (yo)) ^^^ (((((((Zs) (x)) ^^^ (-1)) + ((yz) ^^^ (-1))) + (c9)) ^^^ (((Zs) (x)) ^^^ (-1))) ^^^ ((yz) ^^^ (-1)))) ^^^ (-1))) &&& ((((On) (x)) + (yo)) + (c9))) H.size (by omega)) (dc_V 3 hts tw_181 tw_183 tp_F_learn tw_3 tw_184 rfl rfl (by decide +kernel) ⟨Nat.le_of_ble_eq_true rfl, Nat.le_of_ble_eq_true rfl⟩) (dw_preV (ci := 2) hG [0, 1, 2] [0, 1] rfl rfl (by decide) rfl rfl (q0 := 0) rfl) rfl rfl hl.1 rfl (lv_room (Nat.le_of_ble_eq_true rfl)) dF_learnSum_96 ⟨Nat.le_refl _, Nat.le_refl _⟩) (fun u H locs hp hG => ?_)
  have hG : dw_G (dC, dI) vwCl [(cI, .int), (cZ, .boolean)] A s.heap s [(f0, .inr (2, [.ref aZ, .ref aO, .int (u)])), (aZ, .inl (cI, 24, .inl (upd Zs (v) (((((Zs (x)) ||| (On (x))) &&& ((yz) ||| (yo))) &&& ((((((((On) (x)) + (yo)) + (c9)) ^^^ ((On) (x))) ^^^ (yo)) ^^^ (((((((Zs) (x)) ^^^ (-1)) + ((yz) ^^^ (-1))) + (c9)) ^^^ (((Zs) (x)) ^^^ (-1))) ^^^ ((yz) ^^^ (-1)))) ^^^ (-1))) &&& (((((On) (x)) + (yo)) + (c9)) ^^^ (-1)))))), (aO, .inl (cI, 24, .inl (upd On (v) (((((Zs (x)) ||| (On (x))) &&& ((yz) ||| (yo))) &&& ((((((((On) (x)) + (yo)) + (c9)) ^^^ ((On) (x))) ^^^ (yo)) ^^^ (((((((Zs) (x)) ^^^ (-1)) + ((yz) ^^^ (-1))) + (c9)) ^^^ (((Zs) (x)) ^^^ (-1))) ^^^ ((yz) ^^^ (-1)))) ^^^ (-1))) &&& ((((On) (x)) + (yo)) + (c9))))))] H locs := hG
  subst hQ
  exact dw_vret hx hb hr hG (u) rfl hp dF_learnSum_99 hlocks

set_option maxRecDepth 100000 in
set_option maxHeartbeats 4000000 in
theorem cf_learnProduct (l : Launch) (dC : Nat → ClassId) (dI : Nat → Nat → Nat) (cI cZ : ClassId) (f0 aZ aO : Nat) (ch : Int32) (Zs On : Nat → Int32) (v x y : Nat) (sz : Nat) (hv : v < 24) (hx9 : x < 24) (hy9 : y < 24) : Met l yF_learnProduct wsF_learnProduct { frames := 1, cells := 0, slots := 0, locals := 30 } (va_Pc [.ref f0, .int (nI (v)), .int (nI (x)), .int (nI (y))] (dw_pre (dC, dI) vwCl [(f0, .inr (2, [.ref aZ, .ref aO, .int (ch)])), (aZ, .inl (cI, 24, .inl (Zs))), (aO, .inl (cI, 24, .inl (On)))] [(cI, .int), (cZ, .boolean)] sz)) (va_Qv (fun (u : Int32) => db_lrn ch u Zs On v (db_mulZ (Zs x) (On x) (Zs y) (On y)) (db_mulO (Zs x) (On x) (Zs y) (On y))) (fun u t => dw_post (dC, dI) vwCl [(f0, .inr (2, [.ref aZ, .ref aO, .int (u)])), (aZ, .inl (cI, 24, .inl (upd Zs v (db_mulZ (Zs x) (On x) (Zs y) (On y))))), (aO, .inl (cI, 24, .inl (upd On v (db_mulO (Zs x) (On x) (Zs y) (On y)))))] [(cI, .int), (cZ, .boolean)] (va_A [(f0, .inr (2, [.ref aZ, .ref aO, .int (ch)])), (aZ, .inl (cI, 24, .inl (Zs))), (aO, .inl (cI, 24, .inl (On)))] sz) t) (va_A [(f0, .inr (2, [.ref aZ, .ref aO, .int (ch)])), (aZ, .inl (cI, 24, .inl (Zs))), (aO, .inl (cI, 24, .inl (On)))] sz)) 0 0 (va_A [(f0, .inr (2, [.ref aZ, .ref aO, .int (ch)])), (aZ, .inl (cI, 24, .inl (Zs))), (aO, .inl (cI, 24, .inl (On)))] sz) := by
  refine Met.ofW (cc := cF_learnProduct) (maxL := 7) (ret := none) (by decide) rfl ?_
  intro p e s m args below meth c s₁ B hml hv0
  have hx := B.exec
  have hb := B.bytes
  have hr := B.returns
  have hts := atoms_spec (ws := wsF_learnProduct) B.pre
  have hown : s.vm.findClass RF = some m.cls := findClass_of_methodNamed B.named
  have hlocks := B.notSynchronized
  obtain ⟨rfl, hsz, hG⟩ := dw_enter hv0
  generalize va_A [(f0, .inr (2, [.ref aZ, .ref aO, .int (ch)])), (aZ, .inl (cI, 24, .inl (Zs))), (aO, .inl (cI, 24, .inl (On)))] sz = A at hG ⊢
  have hl := lv_entry ([.ref f0, .int (nI (v)), .int (nI (x)), .int (nI (y))]) (n := 7) (Nat.le_of_ble_eq_true rfl)
  rw [lg_entry_eq]
  generalize (lg_sl ([.ref f0, .int (nI (v)), .int (nI (x)), .int (nI (y))]) ++ List.replicate (7 - (lg_sl ([.ref f0, .int (nI (v)), .int (nI (x)), .int (nI (y))])).length) Slot.unset).toArray = ls at hl ⊢
  have hl : lv_has ls 7 [(0, .ref f0), (1, .int (nI (v))), (2, .int (nI (x))), (3, .int (nI (y)))] := hl
  have hw92 := hts _ (List.mem_cons_of_mem _ tw_92)
  have hw89 := hts _ (List.mem_cons_of_mem _ tw_89)
  refine dw_Q (fun Q hQ => ?_)
  suffices hgo : ∀ (H : Heap) (locs : List Loc), dw_G (dC, dI) vwCl [(cI, .int), (cZ, .boolean)] A s.heap s [(f0, .inr (2, [.ref aZ, .ref aO, .int (ch)])), (aZ, .inl (cI, 24, .inl (Zs))), (aO, .inl (cI, 24, .inl (On)))] H locs → W p l e (headSpec wsF_learnProduct { frames := 1, cells := 0, slots := 0, locals := 30 }).room s m [.ref f0, .int (nI (v)), .int (nI (x)), .int (nI (y))].toArray below meth c H locs 0 0 Q (F0 m 0 ls []) from hgo _ _ hG
  clear hG
  intro H locs hG
  refine lv_aload_n hx hb dF_learnProduct_0 rfl (lv_at hl 0 rfl) ?_
  refine dw_get hx hb hts inFc hown hG 0 1 rfl rfl (by decide) hw92 rfl rfl dF_learnProduct_1 ?_
  refine lv_iload_n hx hb dF_learnProduct_4 rfl (lv_at hl 2 rfl) ?_
  refine dw_ia (x := (On) (x)) hx hb hG 2 0 rfl rfl (x) rfl (by omega) (by decide) rfl dF_learnProduct_5 ?_
  refine lv_aload_n hx hb dF_learnProduct_6 rfl (lv_at hl 0 rfl) ?_
  refine dw_get hx hb hts inFc hown hG 0 1 rfl rfl (by decide) hw92 rfl rfl dF_learnProduct_7 ?_
  refine lv_iload_n hx hb dF_learnProduct_10 rfl (lv_at hl 3 rfl) ?_
  refine dw_ia (x := (On) (y)) hx hb hG 2 0 rfl rfl (y) rfl (by omega) (by decide) rfl dF_learnProduct_11 ?_
  refine lv_imul hx hb dF_learnProduct_12 ?_
  refine lv_istore (lv' := [(4, .int (((On) (x)) * ((On) (y)))), (0, .ref f0), (1, .int (nI (v))), (2, .int (nI (x))), (3, .int (nI (y)))]) hx hb dF_learnProduct_13 hl (by decide) rfl (fun ls hl => ?_)
  refine lv_aload_n hx hb dF_learnProduct_15 rfl (lv_at hl 1 rfl) ?_
  refine lv_iload_n hx hb dF_learnProduct_16 rfl (lv_at hl 3 rfl) ?_
  refine dw_calli (wc := [(f0, .inr (2, [.ref aZ, .ref aO, .int (ch)])), (aZ, .inl (cI, 24, .inl (Zs))), (aO, .inl (cI, 24, .inl (On)))]) (wr := []) hG [0, 1, 2] [] rfl rfl (by decide) (by decide) (va_runV (As := [.int (nI (x))]) (rest := []) ⟨hx, hb, hml, hown, hts⟩ (cf_known l dC dI cI cZ f0 aZ aO ch Zs On (x) H.size (by omega)) (dc_V 1 hts tw_193 tw_194 tw_195 tw_3 tw_196 rfl rfl (by decide +kernel) ⟨Nat.le_of_ble_eq_true rfl, Nat.le_of_ble_eq_true rfl⟩) (dw_preV (ci := 2) hG [0, 1, 2] [0, 1] rfl rfl (by decide) rfl rfl (q0 := 0) rfl) rfl rfl hl.1 rfl (lv_room (Nat.le_of_ble_eq_true rfl)) dF_learnProduct_17 ⟨Nat.le_refl _, Nat.le_refl _⟩) (fun r u H locs hp hG => ?_)
  subst hp
  have hG : dw_G (dC, dI) vwCl [(cI, .int), (cZ, .boolean)] A s.heap s [(f0, .inr (2, [.ref aZ, .ref aO, .int (ch)])), (aZ, .inl (cI, 24, .inl (Zs))), (aO, .inl (cI, 24, .inl (On)))] H locs := hG
  refine lv_aload_n hx hb dF_learnProduct_20 rfl (lv_at hl 1 rfl) ?_
  refine lv_iload_n hx hb dF_learnProduct_21 rfl (lv_at hl 4 rfl) ?_
  refine dw_calli (wc := [(f0, .inr (2, [.ref aZ, .ref aO, .int (ch)])), (aZ, .inl (cI, 24, .inl (Zs))), (aO, .inl (cI, 24, .inl (On)))]) (wr := []) hG [0, 1, 2] [] rfl rfl (by decide) (by decide) (va_runV (As := [.int (nI (y))]) (rest := [.int ((Zs (x)) ||| (On (x)))]) ⟨hx, hb, hml, hown, hts⟩ (cf_known l dC dI cI cZ f0 aZ aO ch Zs On (y) H.size (by omega)) (dc_V 1 hts tw_193 tw_194 tw_195 tw_3 tw_196 rfl rfl (by decide +kernel) ⟨Nat.le_of_ble_eq_true rfl, Nat.le_of_ble_eq_true rfl⟩) (dw_preV (ci := 2) hG [0, 1, 2] [0, 1] rfl rfl (by decide) rfl rfl (q0 := 0) rfl) rfl rfl hl.1 rfl (lv_room (Nat.le_of_ble_eq_true rfl)) dF_learnProduct_22 ⟨Nat.le_refl _, Nat.le_refl _⟩) (fun r u H locs hp hG => ?_)
  subst hp
  have hG : dw_G (dC, dI) vwCl [(cI, .int), (cZ, .boolean)] A s.heap s [(f0, .inr (2, [.ref aZ, .ref aO, .int (ch)])), (aZ, .inl (cI, 24, .inl (Zs))), (aO, .inl (cI, 24, .inl (On)))] H locs := hG
  refine lv_iand hx hb dF_learnProduct_25 ?_
  refine lv_iconst (v := -1) hx hb dF_learnProduct_26 (by decide) ?_
  refine lv_ixor hx hb dF_learnProduct_27 ?_
  refine dw_calli (wc := []) (wr := [(f0, .inr (2, [.ref aZ, .ref aO, .int (ch)])), (aZ, .inl (cI, 24, .inl (Zs))), (aO, .inl (cI, 24, .inl (On)))]) hG [] [0, 1, 2] rfl rfl (by decide) (by decide) (va_runS (As := [.int ((((Zs (x)) ||| (On (x))) &&& ((Zs (y)) ||| (On (y)))) ^^^ (-1))]) (rest := []) ⟨hx, hb, hml, hown, hts⟩ (jd_tz l dC dI cI cZ ((((Zs (x)) ||| (On (x))) &&& ((Zs (y)) ||| (On (y)))) ^^^ (-1)) H.size ) (dc_S 1 hts tw_201 tw_202 tw_14 tw_203 rfl rfl (by decide +kernel) ⟨Nat.le_of_ble_eq_true rfl, Nat.le_of_ble_eq_true rfl⟩) (dw_preS hG [] [0, 1] rfl rfl (by decide) rfl) rfl rfl hl.1 rfl (lv_room (Nat.le_of_ble_eq_true rfl)) dF_learnProduct_28 ⟨Nat.le_refl _, Nat.le_refl _⟩) (fun r u H locs hp hG => ?_)
  subst hp
  have hG : dw_G (dC, dI) vwCl [(cI, .int), (cZ, .boolean)] A s.heap s [(f0, .inr (2, [.ref aZ, .ref aO, .int (ch)])), (aZ, .inl (cI, 24, .inl (Zs))), (aO, .inl (cI, 24, .inl (On)))] H locs := hG
  have := db_tz_le ((((Zs (x)) ||| (On (x))) &&& ((Zs (y)) ||| (On (y)))) ^^^ (-1))
  refine dw_calli (wc := []) (wr := [(f0, .inr (2, [.ref aZ, .ref aO, .int (ch)])), (aZ, .inl (cI, 24, .inl (Zs))), (aO, .inl (cI, 24, .inl (On)))]) hG [] [0, 1, 2] rfl rfl (by decide) (by decide) (va_runSN (As := [.int (nI (db_tz ((((Zs (x)) ||| (On (x))) &&& ((Zs (y)) ||| (On (y)))) ^^^ (-1))))]) (rest := []) ⟨hx, hb, hml, hown, hts⟩ (cb_lowest l dC dI cI cZ (db_tz ((((Zs (x)) ||| (On (x))) &&& ((Zs (y)) ||| (On (y)))) ^^^ (-1))) H.size (by omega)) (dc_N 1 hts hG.2.2.2.2.2 4 rfl tw_206 tw_1 tw_207 rfl rfl (by decide +kernel) ⟨Nat.le_of_ble_eq_true rfl, Nat.le_of_ble_eq_true rfl⟩) (dw_preS hG [] [0, 1] rfl rfl (by decide) rfl) rfl rfl hl.1 rfl (lv_room (Nat.le_of_ble_eq_true rfl)) dF_learnProduct_31 ⟨Nat.le_refl _, Nat.le_refl _⟩) (fun r u H locs hp hG => ?_)
  subst hp
  have hG : dw_G (dC, dI) vwCl [(cI, .int), (cZ, .boolean)] A s.heap s [(f0, .inr (2, [.ref aZ, .ref aO, .int (ch)])), (aZ, .inl (cI, 24, .inl (Zs))), (aO, .inl (cI, 24, .inl (On)))] H locs := hG
  refine lv_istore (lv' := [(5, .int (db_low (db_tz ((((Zs (x)) ||| (On (x))) &&& ((Zs (y)) ||| (On (y)))) ^^^ (-1))))), (4, .int (((On) (x)) * ((On) (y)))), (0, .ref f0), (1, .int (nI (v))), (2, .int (nI (x))), (3, .int (nI (y)))]) hx hb dF_learnProduct_34 hl (by decide) rfl (fun ls hl => ?_)
  refine lv_aload_n hx hb dF_learnProduct_36 rfl (lv_at hl 2 rfl) ?_
  refine dw_get hx hb hts inFc hown hG 0 0 rfl rfl (by decide) hw89 rfl rfl dF_learnProduct_37 ?_
  refine lv_iload_n hx hb dF_learnProduct_40 rfl (lv_at hl 4 rfl) ?_
  refine dw_ia (x := (Zs) (x)) hx hb hG 1 0 rfl rfl (x) rfl (by omega) (by decide) rfl dF_learnProduct_41 ?_
  refine lv_iconst (v := -1) hx hb dF_learnProduct_42 (by decide) ?_
  refine lv_ixor hx hb dF_learnProduct_43 ?_
  refine dw_calli (wc := []) (wr := [(f0, .inr (2, [.ref aZ, .ref aO, .int (ch)])), (aZ, .inl (cI, 24, .inl (Zs))), (aO, .inl (cI, 24, .inl (On)))]) hG [] [0, 1, 2] rfl rfl (by decide) (by decide) (va_runS (As := [.int (((Zs) (x)) ^^^ (-1))]) (rest := []) ⟨hx, hb, hml, hown, hts⟩ (jd_tz l dC dI cI cZ (((Zs) (x)) ^^^ (-1)) H.size ) (dc_S 1 hts tw_201 tw_202 tw_14 tw_203 rfl rfl (by decide +kernel) ⟨Nat.le_of_ble_eq_true rfl, Nat.le_of_ble_eq_true rfl⟩) (dw_preS hG [] [0, 1] rfl rfl (by decide) rfl) rfl rfl hl.1 rfl (lv_room (Nat.le_of_ble_eq_true rfl)) dF_learnProduct_44 ⟨Nat.le_refl _, Nat.le_refl _⟩) (fun r u H locs hp hG => ?_)
  subst hp
  have hG : dw_G (dC, dI) vwCl [(cI, .int), (cZ, .boolean)] A s.heap s [(f0, .inr (2, [.ref aZ, .ref aO, .int (ch)])), (aZ, .inl (cI, 24, .inl (Zs))), (aO, .inl (cI, 24, .inl (On)))] H locs := hG
  refine lv_aload_n hx hb dF_learnProduct_47 rfl (lv_at hl 2 rfl) ?_
  refine dw_get hx hb hts inFc hown hG 0 0 rfl rfl (by decide) hw89 rfl rfl dF_learnProduct_48 ?_
  refine lv_iload_n hx hb dF_learnProduct_51 rfl (lv_at hl 5 rfl) ?_
  refine dw_ia (x := (Zs) (y)) hx hb hG 1 0 rfl rfl (y) rfl (by omega) (by decide) rfl dF_learnProduct_52 ?_
  refine lv_iconst (v := -1) hx hb dF_learnProduct_53 (by decide) ?_
  refine lv_ixor hx hb dF_learnProduct_54 ?_
  refine dw_calli (wc := []) (wr := [(f0, .inr (2, [.ref aZ, .ref aO, .int (ch)])), (aZ, .inl (cI, 24, .inl (Zs))), (aO, .inl (cI, 24, .inl (On)))]) hG [] [0, 1, 2] rfl rfl (by decide) (by decide) (va_runS (As := [.int (((Zs) (y)) ^^^ (-1))]) (rest := [.int (nI (db_tz (((Zs) (x)) ^^^ (-1))))]) ⟨hx, hb, hml, hown, hts⟩ (jd_tz l dC dI cI cZ (((Zs) (y)) ^^^ (-1)) H.size ) (dc_S 1 hts tw_201 tw_202 tw_14 tw_203 rfl rfl (by decide +kernel) ⟨Nat.le_of_ble_eq_true rfl, Nat.le_of_ble_eq_true rfl⟩) (dw_preS hG [] [0, 1] rfl rfl (by decide) rfl) rfl rfl hl.1 rfl (lv_room (Nat.le_of_ble_eq_true rfl)) dF_learnProduct_55 ⟨Nat.le_refl _, Nat.le_refl _⟩) (fun r u H locs hp hG => ?_)
  subst hp
  have hG : dw_G (dC, dI) vwCl [(cI, .int), (cZ, .boolean)] A s.heap s [(f0, .inr (2, [.ref aZ, .ref aO, .int (ch)])), (aZ, .inl (cI, 24, .inl (Zs))), (aO, .inl (cI, 24, .inl (On)))] H locs := hG
  refine lv_iadd hx hb dF_learnProduct_58 ?_
  refine lv_topi (nm_r (show ((nI (db_tz (((Zs) (x)) ^^^ (-1)))) + (nI (db_tz (((Zs) (y)) ^^^ (-1)))) : Int32) = nI (db_tz (((Zs) (x)) ^^^ (-1)) + (db_tz (((Zs) (y)) ^^^ (-1)))) from nI_add (db_tz (((Zs) (x)) ^^^ (-1))) (db_tz (((Zs) (y)) ^^^ (-1)))) ?_)
  have := db_tz_le (((Zs) (x)) ^^^ (-1))
  have := db_tz_le (((Zs) (y)) ^^^ (-1))
  refine dw_calli (wc := []) (wr := [(f0, .inr (2, [.ref aZ, .ref aO, .int (ch)])), (aZ, .inl (cI, 24, .inl (Zs))), (aO, .inl (cI, 24, .inl (On)))]) hG [] [0, 1, 2] rfl rfl (by decide) (by decide) (va_runSN (As := [.int (nI (db_tz (((Zs) (x)) ^^^ (-1)) + (db_tz (((Zs) (y)) ^^^ (-1)))))]) (rest := []) ⟨hx, hb, hml, hown, hts⟩ (cb_lowest l dC dI cI cZ (db_tz (((Zs) (x)) ^^^ (-1)) + (db_tz (((Zs) (y)) ^^^ (-1)))) H.size (by omega)) (dc_N 1 hts hG.2.2.2.2.2 4 rfl tw_206 tw_1 tw_207 rfl rfl (by decide +kernel) ⟨Nat.le_of_ble_eq_true rfl, Nat.le_of_ble_eq_true rfl⟩) (dw_preS hG [] [0, 1] rfl rfl (by decide) rfl) rfl rfl hl.1 rfl (lv_room (Nat.le_of_ble_eq_true rfl)) dF_learnProduct_59 ⟨Nat.le_refl _, Nat.le_refl _⟩) (fun r u H locs hp hG => ?_)
  subst hp
  have hG : dw_G (dC, dI) vwCl [(cI, .int), (cZ, .boolean)] A s.heap s [(f0, .inr (2, [.ref aZ, .ref aO, .int (ch)])), (aZ, .inl (cI, 24, .inl (Zs))), (aO, .inl (cI, 24, .inl (On)))] H locs := hG
  refine lv_istore (lv' := [(6, .int (db_low (db_tz (((Zs) (x)) ^^^ (-1)) + (db_tz (((Zs) (y)) ^^^ (-1)))))), (5, .int (db_low (db_tz ((((Zs (x)) ||| (On (x))) &&& ((Zs (y)) ||| (On (y)))) ^^^ (-1))))), (4, .int (((On) (x)) * ((On) (y)))), (0, .ref f0), (1, .int (nI (v))), (2, .int (nI (x))), (3, .int (nI (y)))]) hx hb dF_learnProduct_62 hl (by decide) rfl (fun ls hl => ?_)
  refine lv_aload_n hx hb dF_learnProduct_64 rfl (lv_at hl 3 rfl) ?_
  refine lv_iload_n hx hb dF_learnProduct_65 rfl (lv_at hl 4 rfl) ?_
  refine lv_iload hx hb dF_learnProduct_66 (lv_at hl 1 rfl) ?_
  refine lv_iload hx hb dF_learnProduct_68 (lv_at hl 2 rfl) ?_
  refine lv_iconst (v := -1) hx hb dF_learnProduct_70 (by decide) ?_
  refine lv_ixor hx hb dF_learnProduct_71 ?_
  refine lv_iand hx hb dF_learnProduct_72 ?_
  refine lv_iload hx hb dF_learnProduct_73 (lv_at hl 0 rfl) ?_
  refine lv_ior hx hb dF_learnProduct_75 ?_
  refine lv_iload hx hb dF_learnProduct_76 (lv_at hl 1 rfl) ?_
  refine lv_iload hx hb dF_learnProduct_78 (lv_at hl 2 rfl) ?_
  refine lv_iand hx hb dF_learnProduct_80 ?_
  refine dw_callv (wc := [(f0, .inr (2, [.ref aZ, .ref aO, .int (ch)])), (aZ, .inl (cI, 24, .inl (Zs))), (aO, .inl (cI, 24, .inl (On)))]) (wr := []) hG [0, 1, 2] [] rfl rfl (by decide) (by decide) (va_runV (As := [.int (nI (v)), .int (((db_low (db_tz ((((Zs (x)) ||| (On (x))) &&& ((Zs (y)) ||| (On (y)))) ^^^ (-1)))) &&& ((((On) (x)) * ((On) (y))) ^^^ (-1))) ||| (db_low (db_tz (((Zs) (x)) ^^^ (-1)) + (db_tz (((Zs) (y)) ^^^ (-1)))))), .int ((db_low (db_tz ((((Zs (x)) ||| (On (x))) &&& ((Zs (y)) ||| (On (y)))) ^^^ (-1)))) &&& (((On) (x)) * ((On) (y))))]) (rest := []) ⟨hx, hb, hml, hown, hts⟩ (cf_learn l dC dI cI cZ f0 aZ aO ch Zs On (v) (((db_low (db_tz ((((Zs (x)) ||| (On (x))) &&& ((Zs (y)) ||| (On (y)))) ^^^ (-1)))) &&& ((((On) (x)) * ((On) (y))) ^^^ (-1))) ||| (db_low (db_tz (((Zs) (x)) ^^^ (-1)) + (db_tz (((Zs) (y)) ^^^ (-1)))))) ((db_low (db_tz ((((Zs (x)) ||| (On (x))) &&& ((Zs (y)) ||| (On (y)))) ^^^ (-1)))) &&& (((On) (x)) * ((On) (y)))) H.size (by omega)) (dc_V 3 hts tw_181 tw_183 tp_F_learn tw_3 tw_184 rfl rfl (by decide +kernel) ⟨Nat.le_of_ble_eq_true rfl, Nat.le_of_ble_eq_true rfl⟩) (dw_preV (ci := 2) hG [0, 1, 2] [0, 1] rfl rfl (by decide) rfl rfl (q0 := 0) rfl) rfl rfl hl.1 rfl (lv_room (Nat.le_of_ble_eq_true rfl)) dF_learnProduct_81 ⟨Nat.le_refl _, Nat.le_refl _⟩) (fun u H locs hp hG => ?_)
  have hG : dw_G (dC, dI) vwCl [(cI, .int), (cZ, .boolean)] A s.heap s [(f0, .inr (2, [.ref aZ, .ref aO, .int (u)])), (aZ, .inl (cI, 24, .inl (upd Zs (v) (((db_low (db_tz ((((Zs (x)) ||| (On (x))) &&& ((Zs (y)) ||| (On (y)))) ^^^ (-1)))) &&& ((((On) (x)) * ((On) (y))) ^^^ (-1))) ||| (db_low (db_tz (((Zs) (x)) ^^^ (-1)) + (db_tz (((Zs) (y)) ^^^ (-1))))))))), (aO, .inl (cI, 24, .inl (upd On (v) ((db_low (db_tz ((((Zs (x)) ||| (On (x))) &&& ((Zs (y)) ||| (On (y)))) ^^^ (-1)))) &&& (((On) (x)) * ((On) (y)))))))] H locs := hG
  subst hQ
  exact dw_vret hx hb hr hG (u) rfl hp dF_learnProduct_84 hlocks

set_option maxRecDepth 100000 in
set_option maxHeartbeats 4000000 in
theorem cf_moved6 (l : Launch) (dC : Nat → ClassId) (dI : Nat → Nat → Nat) (cI cZ : ClassId) (f0 aZ aO : Nat) (ch : Int32) (Zs On : Nat → Int32) (v x : Nat) (d zy oy zv ov : Int32) (sz : Nat) (hv : v < 24) (hx9 : x < 24) : Met l yF_workOutMoved wsF_workOutMoved { frames := 1, cells := 0, slots := 0, locals := 30 } (va_Pc [.ref f0, .int (6), .int (nI (v)), .int (nI (x)), .int (d)] (dw_pre (dC, dI) vwCl [(f0, .inr (2, [.ref aZ, .ref aO, .int (ch)])), (aZ, .inl (cI, 24, .inl (Zs))), (aO, .inl (cI, 24, .inl (On)))] [(cI, .int), (cZ, .boolean)] sz)) (va_Qv (fun (u : Int32) => db_lrn ch u Zs On v (db_F 6 d (Zs x) (On x) zy oy zv ov).1 (db_F 6 d (Zs x) (On x) zy oy zv ov).2) (fun u t => dw_post (dC, dI) vwCl [(f0, .inr (2, [.ref aZ, .ref aO, .int (u)])), (aZ, .inl (cI, 24, .inl (upd Zs v (db_F 6 d (Zs x) (On x) zy oy zv ov).1))), (aO, .inl (cI, 24, .inl (upd On v (db_F 6 d (Zs x) (On x) zy oy zv ov).2)))] [(cI, .int), (cZ, .boolean)] (va_A [(f0, .inr (2, [.ref aZ, .ref aO, .int (ch)])), (aZ, .inl (cI, 24, .inl (Zs))), (aO, .inl (cI, 24, .inl (On)))] sz) t) (va_A [(f0, .inr (2, [.ref aZ, .ref aO, .int (ch)])), (aZ, .inl (cI, 24, .inl (Zs))), (aO, .inl (cI, 24, .inl (On)))] sz)) 0 0 (va_A [(f0, .inr (2, [.ref aZ, .ref aO, .int (ch)])), (aZ, .inl (cI, 24, .inl (Zs))), (aO, .inl (cI, 24, .inl (On)))] sz) := by
  refine Met.ofW (cc := cF_workOutMoved) (maxL := 5) (ret := none) (by decide) rfl ?_
  intro p e s m args below meth c s₁ B hml hv0
  have hx := B.exec
  have hb := B.bytes
  have hr := B.returns
  have hts := atoms_spec (ws := wsF_workOutMoved) B.pre
  have hown : s.vm.findClass RF = some m.cls := findClass_of_methodNamed B.named
  have hlocks := B.notSynchronized
  obtain ⟨rfl, hsz, hG⟩ := dw_enter hv0
  generalize va_A [(f0, .inr (2, [.ref aZ, .ref aO, .int (ch)])), (aZ, .inl (cI, 24, .inl (Zs))), (aO, .inl (cI, 24, .inl (On)))] sz = A at hG ⊢
  have hl := lv_entry ([.ref f0, .int (6), .int (nI (v)), .int (nI (x)), .int (d)]) (n := 5) (Nat.le_of_ble_eq_true rfl)
  rw [lg_entry_eq]
  generalize (lg_sl ([.ref f0, .int (6), .int (nI (v)), .int (nI (x)), .int (d)]) ++ List.replicate (5 - (lg_sl ([.ref f0, .int (6), .int (nI (v)), .int (nI (x)), .int (d)])).length) Slot.unset).toArray = ls at hl ⊢
  have hl : lv_has ls 5 [(0, .ref f0), (1, .int (6)), (2, .int (nI (v))), (3, .int (nI (x))), (4, .int (d))] := hl
  have hw89 := hts _ (List.mem_cons_of_mem _ tw_89)
  have hw92 := hts _ (List.mem_cons_of_mem _ tw_92)
  refine dw_Q (fun Q hQ => ?_)
  suffices hgo : ∀ (H : Heap) (locs : List Loc), dw_G (dC, dI) vwCl [(cI, .int), (cZ, .boolean)] A s.heap s [(f0, .inr (2, [.ref aZ, .ref aO, .int (ch)])), (aZ, .inl (cI, 24, .inl (Zs))), (aO, .inl (cI, 24, .inl (On)))] H locs → W p l e (headSpec wsF_workOutMoved { frames := 1, cells := 0, slots := 0, locals := 30 }).room s m [.ref f0, .int (6), .int (nI (v)), .int (nI (x)), .int (d)].toArray below meth c H locs 0 0 Q (F0 m 0 ls []) from hgo _ _ hG
  clear hG
  intro H locs hG
  refine lv_iload_n hx hb dF_workOutMoved_0 rfl (lv_at hl 1 rfl) ?_
  refine lv_tableIn (tgt := 44) hx hb dF_workOutMoved_1 (by decide) (by decide) rfl (by decide) ?_
  refine lv_aload_n hx hb dF_workOutMoved_44 rfl (lv_at hl 0 rfl) ?_
  refine lv_iload_n hx hb dF_workOutMoved_45 rfl (lv_at hl 2 rfl) ?_
  refine lv_aload_n hx hb dF_workOutMoved_46 rfl (lv_at hl 0 rfl) ?_
  refine dw_get hx hb hts inFc hown hG 0 0 rfl rfl (by decide) hw89 rfl rfl dF_workOutMoved_47 ?_
  refine lv_iload_n hx hb dF_workOutMoved_50 rfl (lv_at hl 3 rfl) ?_
  refine dw_ia (x := (Zs) (x)) hx hb hG 1 0 rfl rfl (x) rfl (by omega) (by decide) rfl dF_workOutMoved_51 ?_
  refine lv_iload hx hb dF_workOutMoved_52 (lv_at hl 4 rfl) ?_
  refine lv_ishl hx hb dF_workOutMoved_54 ?_
  refine lv_iconst (v := -1) hx hb dF_workOutMoved_55 (by decide) ?_
  refine lv_iload hx hb dF_workOutMoved_56 (lv_at hl 4 rfl) ?_
  refine lv_ishl hx hb dF_workOutMoved_58 ?_
  refine lv_iconst (v := -1) hx hb dF_workOutMoved_59 (by decide) ?_
  refine lv_ixor hx hb dF_workOutMoved_60 ?_
  refine lv_ior hx hb dF_workOutMoved_61 ?_
  refine lv_aload_n hx hb dF_workOutMoved_62 rfl (lv_at hl 0 rfl) ?_
  refine dw_get hx hb hts inFc hown hG 0 1 rfl rfl (by decide) hw92 rfl rfl dF_workOutMoved_63 ?_
  refine lv_iload_n hx hb dF_workOutMoved_66 rfl (lv_at hl 3 rfl) ?_
  refine dw_ia (x := (On) (x)) hx hb hG 2 0 rfl rfl (x) rfl (by omega) (by decide) rfl dF_workOutMoved_67 ?_
  refine lv_iload hx hb dF_workOutMoved_68 (lv_at hl 4 rfl) ?_
  refine lv_ishl hx hb dF_workOutMoved_70 ?_
  refine dw_callv (wc := [(f0, .inr (2, [.ref aZ, .ref aO, .int (ch)])), (aZ, .inl (cI, 24, .inl (Zs))), (aO, .inl (cI, 24, .inl (On)))]) (wr := []) hG [0, 1, 2] [] rfl rfl (by decide) (by decide) (va_runV (As := [.int (nI (v)), .int ((((Zs) (x)) <<< (d &&& 31)) ||| (((-1) <<< (d &&& 31)) ^^^ (-1))), .int (((On) (x)) <<< (d &&& 31))]) (rest := []) ⟨hx, hb, hml, hown, hts⟩ (cf_learn l dC dI cI cZ f0 aZ aO ch Zs On (v) ((((Zs) (x)) <<< (d &&& 31)) ||| (((-1) <<< (d &&& 31)) ^^^ (-1))) (((On) (x)) <<< (d &&& 31)) H.size (by omega)) (dc_V 3 hts tw_181 tw_183 tp_F_learn tw_3 tw_184 rfl rfl (by decide +kernel) ⟨Nat.le_of_ble_eq_true rfl, Nat.le_of_ble_eq_true rfl⟩) (dw_preV (ci := 2) hG [0, 1, 2] [0, 1] rfl rfl (by decide) rfl rfl (q0 := 0) rfl) rfl rfl hl.1 rfl (lv_room (Nat.le_of_ble_eq_true rfl)) dF_workOutMoved_71 ⟨Nat.le_refl _, Nat.le_refl _⟩) (fun u H locs hp hG => ?_)
  have hG : dw_G (dC, dI) vwCl [(cI, .int), (cZ, .boolean)] A s.heap s [(f0, .inr (2, [.ref aZ, .ref aO, .int (u)])), (aZ, .inl (cI, 24, .inl (upd Zs (v) ((((Zs) (x)) <<< (d &&& 31)) ||| (((-1) <<< (d &&& 31)) ^^^ (-1)))))), (aO, .inl (cI, 24, .inl (upd On (v) (((On) (x)) <<< (d &&& 31)))))] H locs := hG
  refine lv_goto (tgt := 187) hx hb dF_workOutMoved_74 (by decide) ?_
  subst hQ
  exact dw_vret hx hb hr hG (u) rfl hp dF_workOutMoved_187 hlocks

set_option maxRecDepth 100000 in
set_option maxHeartbeats 4000000 in
theorem cf_moved7 (l : Launch) (dC : Nat → ClassId) (dI : Nat → Nat → Nat) (cI cZ : ClassId) (f0 aZ aO : Nat) (ch : Int32) (Zs On : Nat → Int32) (v x : Nat) (d zy oy zv ov : Int32) (sz : Nat) (hv : v < 24) (hx9 : x < 24) : Met l yF_workOutMoved wsF_workOutMoved { frames := 1, cells := 0, slots := 0, locals := 30 } (va_Pc [.ref f0, .int (7), .int (nI (v)), .int (nI (x)), .int (d)] (dw_pre (dC, dI) vwCl [(f0, .inr (2, [.ref aZ, .ref aO, .int (ch)])), (aZ, .inl (cI, 24, .inl (Zs))), (aO, .inl (cI, 24, .inl (On)))] [(cI, .int), (cZ, .boolean)] sz)) (va_Qv (fun (u : Int32) => db_lrn ch u Zs On v (db_F 7 d (Zs x) (On x) zy oy zv ov).1 (db_F 7 d (Zs x) (On x) zy oy zv ov).2) (fun u t => dw_post (dC, dI) vwCl [(f0, .inr (2, [.ref aZ, .ref aO, .int (u)])), (aZ, .inl (cI, 24, .inl (upd Zs v (db_F 7 d (Zs x) (On x) zy oy zv ov).1))), (aO, .inl (cI, 24, .inl (upd On v (db_F 7 d (Zs x) (On x) zy oy zv ov).2)))] [(cI, .int), (cZ, .boolean)] (va_A [(f0, .inr (2, [.ref aZ, .ref aO, .int (ch)])), (aZ, .inl (cI, 24, .inl (Zs))), (aO, .inl (cI, 24, .inl (On)))] sz) t) (va_A [(f0, .inr (2, [.ref aZ, .ref aO, .int (ch)])), (aZ, .inl (cI, 24, .inl (Zs))), (aO, .inl (cI, 24, .inl (On)))] sz)) 0 0 (va_A [(f0, .inr (2, [.ref aZ, .ref aO, .int (ch)])), (aZ, .inl (cI, 24, .inl (Zs))), (aO, .inl (cI, 24, .inl (On)))] sz) := by
  refine Met.ofW (cc := cF_workOutMoved) (maxL := 5) (ret := none) (by decide) rfl ?_
  intro p e s m args below meth c s₁ B hml hv0
  have hx := B.exec
  have hb := B.bytes
  have hr := B.returns
  have hts := atoms_spec (ws := wsF_workOutMoved) B.pre
  have hown : s.vm.findClass RF = some m.cls := findClass_of_methodNamed B.named
  have hlocks := B.notSynchronized
  obtain ⟨rfl, hsz, hG⟩ := dw_enter hv0
  generalize va_A [(f0, .inr (2, [.ref aZ, .ref aO, .int (ch)])), (aZ, .inl (cI, 24, .inl (Zs))), (aO, .inl (cI, 24, .inl (On)))] sz = A at hG ⊢
  have hl := lv_entry ([.ref f0, .int (7), .int (nI (v)), .int (nI (x)), .int (d)]) (n := 5) (Nat.le_of_ble_eq_true rfl)
  rw [lg_entry_eq]
  generalize (lg_sl ([.ref f0, .int (7), .int (nI (v)), .int (nI (x)), .int (d)]) ++ List.replicate (5 - (lg_sl ([.ref f0, .int (7), .int (nI (v)), .int (nI (x)), .int (d)])).length) Slot.unset).toArray = ls at hl ⊢
  have hl : lv_has ls 5 [(0, .ref f0), (1, .int (7)), (2, .int (nI (v))), (3, .int (nI (x))), (4, .int (d))] := hl
  have hw89 := hts _ (List.mem_cons_of_mem _ tw_89)
  have hw92 := hts _ (List.mem_cons_of_mem _ tw_92)
  refine dw_Q (fun Q hQ => ?_)
  suffices hgo : ∀ (H : Heap) (locs : List Loc), dw_G (dC, dI) vwCl [(cI, .int), (cZ, .boolean)] A s.heap s [(f0, .inr (2, [.ref aZ, .ref aO, .int (ch)])), (aZ, .inl (cI, 24, .inl (Zs))), (aO, .inl (cI, 24, .inl (On)))] H locs → W p l e (headSpec wsF_workOutMoved { frames := 1, cells := 0, slots := 0, locals := 30 }).room s m [.ref f0, .int (7), .int (nI (v)), .int (nI (x)), .int (d)].toArray below meth c H locs 0 0 Q (F0 m 0 ls []) from hgo _ _ hG
  clear hG
  intro H locs hG
  refine lv_iload_n hx hb dF_workOutMoved_0 rfl (lv_at hl 1 rfl) ?_
  refine lv_tableIn (tgt := 77) hx hb dF_workOutMoved_1 (by decide) (by decide) rfl (by decide) ?_
  refine lv_aload_n hx hb dF_workOutMoved_77 rfl (lv_at hl 0 rfl) ?_
  refine lv_iload_n hx hb dF_workOutMoved_78 rfl (lv_at hl 2 rfl) ?_
  refine lv_aload_n hx hb dF_workOutMoved_79 rfl (lv_at hl 0 rfl) ?_
  refine dw_get hx hb hts inFc hown hG 0 0 rfl rfl (by decide) hw89 rfl rfl dF_workOutMoved_80 ?_
  refine lv_iload_n hx hb dF_workOutMoved_83 rfl (lv_at hl 3 rfl) ?_
  refine dw_ia (x := (Zs) (x)) hx hb hG 1 0 rfl rfl (x) rfl (by omega) (by decide) rfl dF_workOutMoved_84 ?_
  refine lv_iload hx hb dF_workOutMoved_85 (lv_at hl 4 rfl) ?_
  refine lv_ishr hx hb dF_workOutMoved_87 ?_
  refine lv_aload_n hx hb dF_workOutMoved_88 rfl (lv_at hl 0 rfl) ?_
  refine dw_get hx hb hts inFc hown hG 0 1 rfl rfl (by decide) hw92 rfl rfl dF_workOutMoved_89 ?_
  refine lv_iload_n hx hb dF_workOutMoved_92 rfl (lv_at hl 3 rfl) ?_
  refine dw_ia (x := (On) (x)) hx hb hG 2 0 rfl rfl (x) rfl (by omega) (by decide) rfl dF_workOutMoved_93 ?_
  refine lv_iload hx hb dF_workOutMoved_94 (lv_at hl 4 rfl) ?_
  refine lv_ishr hx hb dF_workOutMoved_96 ?_
  refine dw_callv (wc := [(f0, .inr (2, [.ref aZ, .ref aO, .int (ch)])), (aZ, .inl (cI, 24, .inl (Zs))), (aO, .inl (cI, 24, .inl (On)))]) (wr := []) hG [0, 1, 2] [] rfl rfl (by decide) (by decide) (va_runV (As := [.int (nI (v)), .int (((Zs) (x)) >>> (d &&& 31)), .int (((On) (x)) >>> (d &&& 31))]) (rest := []) ⟨hx, hb, hml, hown, hts⟩ (cf_learn l dC dI cI cZ f0 aZ aO ch Zs On (v) (((Zs) (x)) >>> (d &&& 31)) (((On) (x)) >>> (d &&& 31)) H.size (by omega)) (dc_V 3 hts tw_181 tw_183 tp_F_learn tw_3 tw_184 rfl rfl (by decide +kernel) ⟨Nat.le_of_ble_eq_true rfl, Nat.le_of_ble_eq_true rfl⟩) (dw_preV (ci := 2) hG [0, 1, 2] [0, 1] rfl rfl (by decide) rfl rfl (q0 := 0) rfl) rfl rfl hl.1 rfl (lv_room (Nat.le_of_ble_eq_true rfl)) dF_workOutMoved_97 ⟨Nat.le_refl _, Nat.le_refl _⟩) (fun u H locs hp hG => ?_)
  have hG : dw_G (dC, dI) vwCl [(cI, .int), (cZ, .boolean)] A s.heap s [(f0, .inr (2, [.ref aZ, .ref aO, .int (u)])), (aZ, .inl (cI, 24, .inl (upd Zs (v) (((Zs) (x)) >>> (d &&& 31))))), (aO, .inl (cI, 24, .inl (upd On (v) (((On) (x)) >>> (d &&& 31)))))] H locs := hG
  refine lv_goto (tgt := 187) hx hb dF_workOutMoved_100 (by decide) ?_
  subst hQ
  exact dw_vret hx hb hr hG (u) rfl hp dF_workOutMoved_187 hlocks

set_option maxRecDepth 100000 in
set_option maxHeartbeats 4000000 in
theorem cf_moved8 (l : Launch) (dC : Nat → ClassId) (dI : Nat → Nat → Nat) (cI cZ : ClassId) (f0 aZ aO : Nat) (ch : Int32) (Zs On : Nat → Int32) (v x : Nat) (d zy oy zv ov : Int32) (sz : Nat) (hv : v < 24) (hx9 : x < 24) : Met l yF_workOutMoved wsF_workOutMoved { frames := 1, cells := 0, slots := 0, locals := 30 } (va_Pc [.ref f0, .int (8), .int (nI (v)), .int (nI (x)), .int (d)] (dw_pre (dC, dI) vwCl [(f0, .inr (2, [.ref aZ, .ref aO, .int (ch)])), (aZ, .inl (cI, 24, .inl (Zs))), (aO, .inl (cI, 24, .inl (On)))] [(cI, .int), (cZ, .boolean)] sz)) (va_Qv (fun (u : Int32) => db_lrn ch u Zs On v (db_F 8 d (Zs x) (On x) zy oy zv ov).1 (db_F 8 d (Zs x) (On x) zy oy zv ov).2) (fun u t => dw_post (dC, dI) vwCl [(f0, .inr (2, [.ref aZ, .ref aO, .int (u)])), (aZ, .inl (cI, 24, .inl (upd Zs v (db_F 8 d (Zs x) (On x) zy oy zv ov).1))), (aO, .inl (cI, 24, .inl (upd On v (db_F 8 d (Zs x) (On x) zy oy zv ov).2)))] [(cI, .int), (cZ, .boolean)] (va_A [(f0, .inr (2, [.ref aZ, .ref aO, .int (ch)])), (aZ, .inl (cI, 24, .inl (Zs))), (aO, .inl (cI, 24, .inl (On)))] sz) t) (va_A [(f0, .inr (2, [.ref aZ, .ref aO, .int (ch)])), (aZ, .inl (cI, 24, .inl (Zs))), (aO, .inl (cI, 24, .inl (On)))] sz)) 0 0 (va_A [(f0, .inr (2, [.ref aZ, .ref aO, .int (ch)])), (aZ, .inl (cI, 24, .inl (Zs))), (aO, .inl (cI, 24, .inl (On)))] sz) := by
  refine Met.ofW (cc := cF_workOutMoved) (maxL := 5) (ret := none) (by decide) rfl ?_
  intro p e s m args below meth c s₁ B hml hv0
  have hx := B.exec
  have hb := B.bytes
  have hr := B.returns
  have hts := atoms_spec (ws := wsF_workOutMoved) B.pre
  have hown : s.vm.findClass RF = some m.cls := findClass_of_methodNamed B.named
  have hlocks := B.notSynchronized
  obtain ⟨rfl, hsz, hG⟩ := dw_enter hv0
  generalize va_A [(f0, .inr (2, [.ref aZ, .ref aO, .int (ch)])), (aZ, .inl (cI, 24, .inl (Zs))), (aO, .inl (cI, 24, .inl (On)))] sz = A at hG ⊢
  have hl := lv_entry ([.ref f0, .int (8), .int (nI (v)), .int (nI (x)), .int (d)]) (n := 5) (Nat.le_of_ble_eq_true rfl)
  rw [lg_entry_eq]
  generalize (lg_sl ([.ref f0, .int (8), .int (nI (v)), .int (nI (x)), .int (d)]) ++ List.replicate (5 - (lg_sl ([.ref f0, .int (8), .int (nI (v)), .int (nI (x)), .int (d)])).length) Slot.unset).toArray = ls at hl ⊢
  have hl : lv_has ls 5 [(0, .ref f0), (1, .int (8)), (2, .int (nI (v))), (3, .int (nI (x))), (4, .int (d))] := hl
  have hw89 := hts _ (List.mem_cons_of_mem _ tw_89)
  have hw92 := hts _ (List.mem_cons_of_mem _ tw_92)
  refine dw_Q (fun Q hQ => ?_)
  suffices hgo : ∀ (H : Heap) (locs : List Loc), dw_G (dC, dI) vwCl [(cI, .int), (cZ, .boolean)] A s.heap s [(f0, .inr (2, [.ref aZ, .ref aO, .int (ch)])), (aZ, .inl (cI, 24, .inl (Zs))), (aO, .inl (cI, 24, .inl (On)))] H locs → W p l e (headSpec wsF_workOutMoved { frames := 1, cells := 0, slots := 0, locals := 30 }).room s m [.ref f0, .int (8), .int (nI (v)), .int (nI (x)), .int (d)].toArray below meth c H locs 0 0 Q (F0 m 0 ls []) from hgo _ _ hG
  clear hG
  intro H locs hG
  refine lv_iload_n hx hb dF_workOutMoved_0 rfl (lv_at hl 1 rfl) ?_
  refine lv_tableIn (tgt := 103) hx hb dF_workOutMoved_1 (by decide) (by decide) rfl (by decide) ?_
  refine lv_aload_n hx hb dF_workOutMoved_103 rfl (lv_at hl 0 rfl) ?_
  refine lv_iload_n hx hb dF_workOutMoved_104 rfl (lv_at hl 2 rfl) ?_
  refine lv_aload_n hx hb dF_workOutMoved_105 rfl (lv_at hl 0 rfl) ?_
  refine dw_get hx hb hts inFc hown hG 0 0 rfl rfl (by decide) hw89 rfl rfl dF_workOutMoved_106 ?_
  refine lv_iload_n hx hb dF_workOutMoved_109 rfl (lv_at hl 3 rfl) ?_
  refine dw_ia (x := (Zs) (x)) hx hb hG 1 0 rfl rfl (x) rfl (by omega) (by decide) rfl dF_workOutMoved_110 ?_
  refine lv_iload hx hb dF_workOutMoved_111 (lv_at hl 4 rfl) ?_
  refine lv_iushr (v := db_ushr ((Zs) (x)) (d)) hx hb dF_workOutMoved_113 rfl ?_
  refine lv_iconst (v := -1) hx hb dF_workOutMoved_114 (by decide) ?_
  refine lv_iload hx hb dF_workOutMoved_115 (lv_at hl 4 rfl) ?_
  refine lv_iushr (v := db_ushr (-1) (d)) hx hb dF_workOutMoved_117 rfl ?_
  refine lv_iconst (v := -1) hx hb dF_workOutMoved_118 (by decide) ?_
  refine lv_ixor hx hb dF_workOutMoved_119 ?_
  refine lv_ior hx hb dF_workOutMoved_120 ?_
  refine lv_aload_n hx hb dF_workOutMoved_121 rfl (lv_at hl 0 rfl) ?_
  refine dw_get hx hb hts inFc hown hG 0 1 rfl rfl (by decide) hw92 rfl rfl dF_workOutMoved_122 ?_
  refine lv_iload_n hx hb dF_workOutMoved_125 rfl (lv_at hl 3 rfl) ?_
  refine dw_ia (x := (On) (x)) hx hb hG 2 0 rfl rfl (x) rfl (by omega) (by decide) rfl dF_workOutMoved_126 ?_
  refine lv_iload hx hb dF_workOutMoved_127 (lv_at hl 4 rfl) ?_
  refine lv_iushr (v := db_ushr ((On) (x)) (d)) hx hb dF_workOutMoved_129 rfl ?_
  refine dw_callv (wc := [(f0, .inr (2, [.ref aZ, .ref aO, .int (ch)])), (aZ, .inl (cI, 24, .inl (Zs))), (aO, .inl (cI, 24, .inl (On)))]) (wr := []) hG [0, 1, 2] [] rfl rfl (by decide) (by decide) (va_runV (As := [.int (nI (v)), .int ((db_ushr ((Zs) (x)) (d)) ||| ((db_ushr (-1) (d)) ^^^ (-1))), .int (db_ushr ((On) (x)) (d))]) (rest := []) ⟨hx, hb, hml, hown, hts⟩ (cf_learn l dC dI cI cZ f0 aZ aO ch Zs On (v) ((db_ushr ((Zs) (x)) (d)) ||| ((db_ushr (-1) (d)) ^^^ (-1))) (db_ushr ((On) (x)) (d)) H.size (by omega)) (dc_V 3 hts tw_181 tw_183 tp_F_learn tw_3 tw_184 rfl rfl (by decide +kernel) ⟨Nat.le_of_ble_eq_true rfl, Nat.le_of_ble_eq_true rfl⟩) (dw_preV (ci := 2) hG [0, 1, 2] [0, 1] rfl rfl (by decide) rfl rfl (q0 := 0) rfl) rfl rfl hl.1 rfl (lv_room (Nat.le_of_ble_eq_true rfl)) dF_workOutMoved_130 ⟨Nat.le_refl _, Nat.le_refl _⟩) (fun u H locs hp hG => ?_)
  have hG : dw_G (dC, dI) vwCl [(cI, .int), (cZ, .boolean)] A s.heap s [(f0, .inr (2, [.ref aZ, .ref aO, .int (u)])), (aZ, .inl (cI, 24, .inl (upd Zs (v) ((db_ushr ((Zs) (x)) (d)) ||| ((db_ushr (-1) (d)) ^^^ (-1)))))), (aO, .inl (cI, 24, .inl (upd On (v) (db_ushr ((On) (x)) (d)))))] H locs := hG
  refine lv_goto (tgt := 187) hx hb dF_workOutMoved_133 (by decide) ?_
  subst hQ
  exact dw_vret hx hb hr hG (u) rfl hp dF_workOutMoved_187 hlocks

set_option maxRecDepth 100000 in
set_option maxHeartbeats 4000000 in
theorem cf_moved9 (l : Launch) (dC : Nat → ClassId) (dI : Nat → Nat → Nat) (cI cZ : ClassId) (f0 aZ aO : Nat) (ch : Int32) (Zs On : Nat → Int32) (v x : Nat) (d zy oy zv ov : Int32) (sz : Nat) (hv : v < 24) (hx9 : x < 24) : Met l yF_workOutMoved wsF_workOutMoved { frames := 1, cells := 0, slots := 0, locals := 30 } (va_Pc [.ref f0, .int (9), .int (nI (v)), .int (nI (x)), .int (d)] (dw_pre (dC, dI) vwCl [(f0, .inr (2, [.ref aZ, .ref aO, .int (ch)])), (aZ, .inl (cI, 24, .inl (Zs))), (aO, .inl (cI, 24, .inl (On)))] [(cI, .int), (cZ, .boolean)] sz)) (va_Qv (fun (u : Int32) => db_lrn ch u Zs On v (db_F 9 d (Zs x) (On x) zy oy zv ov).1 (db_F 9 d (Zs x) (On x) zy oy zv ov).2) (fun u t => dw_post (dC, dI) vwCl [(f0, .inr (2, [.ref aZ, .ref aO, .int (u)])), (aZ, .inl (cI, 24, .inl (upd Zs v (db_F 9 d (Zs x) (On x) zy oy zv ov).1))), (aO, .inl (cI, 24, .inl (upd On v (db_F 9 d (Zs x) (On x) zy oy zv ov).2)))] [(cI, .int), (cZ, .boolean)] (va_A [(f0, .inr (2, [.ref aZ, .ref aO, .int (ch)])), (aZ, .inl (cI, 24, .inl (Zs))), (aO, .inl (cI, 24, .inl (On)))] sz) t) (va_A [(f0, .inr (2, [.ref aZ, .ref aO, .int (ch)])), (aZ, .inl (cI, 24, .inl (Zs))), (aO, .inl (cI, 24, .inl (On)))] sz)) 0 0 (va_A [(f0, .inr (2, [.ref aZ, .ref aO, .int (ch)])), (aZ, .inl (cI, 24, .inl (Zs))), (aO, .inl (cI, 24, .inl (On)))] sz) := by
  refine Met.ofW (cc := cF_workOutMoved) (maxL := 5) (ret := none) (by decide) rfl ?_
  intro p e s m args below meth c s₁ B hml hv0
  have hx := B.exec
  have hb := B.bytes
  have hr := B.returns
  have hts := atoms_spec (ws := wsF_workOutMoved) B.pre
  have hown : s.vm.findClass RF = some m.cls := findClass_of_methodNamed B.named
  have hlocks := B.notSynchronized
  obtain ⟨rfl, hsz, hG⟩ := dw_enter hv0
  generalize va_A [(f0, .inr (2, [.ref aZ, .ref aO, .int (ch)])), (aZ, .inl (cI, 24, .inl (Zs))), (aO, .inl (cI, 24, .inl (On)))] sz = A at hG ⊢
  have hl := lv_entry ([.ref f0, .int (9), .int (nI (v)), .int (nI (x)), .int (d)]) (n := 5) (Nat.le_of_ble_eq_true rfl)
  rw [lg_entry_eq]
  generalize (lg_sl ([.ref f0, .int (9), .int (nI (v)), .int (nI (x)), .int (d)]) ++ List.replicate (5 - (lg_sl ([.ref f0, .int (9), .int (nI (v)), .int (nI (x)), .int (d)])).length) Slot.unset).toArray = ls at hl ⊢
  have hl : lv_has ls 5 [(0, .ref f0), (1, .int (9)), (2, .int (nI (v))), (3, .int (nI (x))), (4, .int (d))] := hl
  refine dw_Q (fun Q hQ => ?_)
  suffices hgo : ∀ (H : Heap) (locs : List Loc), dw_G (dC, dI) vwCl [(cI, .int), (cZ, .boolean)] A s.heap s [(f0, .inr (2, [.ref aZ, .ref aO, .int (ch)])), (aZ, .inl (cI, 24, .inl (Zs))), (aO, .inl (cI, 24, .inl (On)))] H locs → W p l e (headSpec wsF_workOutMoved { frames := 1, cells := 0, slots := 0, locals := 30 }).room s m [.ref f0, .int (9), .int (nI (v)), .int (nI (x)), .int (d)].toArray below meth c H locs 0 0 Q (F0 m 0 ls []) from hgo _ _ hG
  clear hG
  intro H locs hG
  refine lv_iload_n hx hb dF_workOutMoved_0 rfl (lv_at hl 1 rfl) ?_
  refine lv_tableIn (tgt := 180) hx hb dF_workOutMoved_1 (by decide) (by decide) rfl (by decide) ?_
  refine lv_aload_n hx hb dF_workOutMoved_180 rfl (lv_at hl 0 rfl) ?_
  refine lv_iload_n hx hb dF_workOutMoved_181 rfl (lv_at hl 2 rfl) ?_
  refine lv_iconst (v := 0) hx hb dF_workOutMoved_182 (by decide) ?_
  refine lv_iconst (v := 0) hx hb dF_workOutMoved_183 (by decide) ?_
  refine dw_callv (wc := [(f0, .inr (2, [.ref aZ, .ref aO, .int (ch)])), (aZ, .inl (cI, 24, .inl (Zs))), (aO, .inl (cI, 24, .inl (On)))]) (wr := []) hG [0, 1, 2] [] rfl rfl (by decide) (by decide) (va_runV (As := [.int (nI (v)), .int (0), .int (0)]) (rest := []) ⟨hx, hb, hml, hown, hts⟩ (cf_learn l dC dI cI cZ f0 aZ aO ch Zs On (v) (0) (0) H.size (by omega)) (dc_V 3 hts tw_181 tw_183 tp_F_learn tw_3 tw_184 rfl rfl (by decide +kernel) ⟨Nat.le_of_ble_eq_true rfl, Nat.le_of_ble_eq_true rfl⟩) (dw_preV (ci := 2) hG [0, 1, 2] [0, 1] rfl rfl (by decide) rfl rfl (q0 := 0) rfl) rfl rfl hl.1 rfl (lv_room (Nat.le_of_ble_eq_true rfl)) dF_workOutMoved_184 ⟨Nat.le_refl _, Nat.le_refl _⟩) (fun u H locs hp hG => ?_)
  have hG : dw_G (dC, dI) vwCl [(cI, .int), (cZ, .boolean)] A s.heap s [(f0, .inr (2, [.ref aZ, .ref aO, .int (u)])), (aZ, .inl (cI, 24, .inl (upd Zs (v) (0)))), (aO, .inl (cI, 24, .inl (upd On (v) (0))))] H locs := hG
  subst hQ
  exact dw_vret hx hb hr hG (u) rfl hp dF_workOutMoved_187 hlocks

set_option maxRecDepth 100000 in
set_option maxHeartbeats 4000000 in
theorem cf_moved11 (l : Launch) (dC : Nat → ClassId) (dI : Nat → Nat → Nat) (cI cZ : ClassId) (f0 aZ aO : Nat) (ch : Int32) (Zs On : Nat → Int32) (v x : Nat) (d zy oy zv ov : Int32) (sz : Nat) (hv : v < 24) (hx9 : x < 24) : Met l yF_workOutMoved wsF_workOutMoved { frames := 1, cells := 0, slots := 0, locals := 30 } (va_Pc [.ref f0, .int (11), .int (nI (v)), .int (nI (x)), .int (d)] (dw_pre (dC, dI) vwCl [(f0, .inr (2, [.ref aZ, .ref aO, .int (ch)])), (aZ, .inl (cI, 24, .inl (Zs))), (aO, .inl (cI, 24, .inl (On)))] [(cI, .int), (cZ, .boolean)] sz)) (va_Qv (fun (u : Int32) => db_lrn ch u Zs On v (db_F 11 d (Zs x) (On x) zy oy zv ov).1 (db_F 11 d (Zs x) (On x) zy oy zv ov).2) (fun u t => dw_post (dC, dI) vwCl [(f0, .inr (2, [.ref aZ, .ref aO, .int (u)])), (aZ, .inl (cI, 24, .inl (upd Zs v (db_F 11 d (Zs x) (On x) zy oy zv ov).1))), (aO, .inl (cI, 24, .inl (upd On v (db_F 11 d (Zs x) (On x) zy oy zv ov).2)))] [(cI, .int), (cZ, .boolean)] (va_A [(f0, .inr (2, [.ref aZ, .ref aO, .int (ch)])), (aZ, .inl (cI, 24, .inl (Zs))), (aO, .inl (cI, 24, .inl (On)))] sz) t) (va_A [(f0, .inr (2, [.ref aZ, .ref aO, .int (ch)])), (aZ, .inl (cI, 24, .inl (Zs))), (aO, .inl (cI, 24, .inl (On)))] sz)) 0 0 (va_A [(f0, .inr (2, [.ref aZ, .ref aO, .int (ch)])), (aZ, .inl (cI, 24, .inl (Zs))), (aO, .inl (cI, 24, .inl (On)))] sz) := by
  refine Met.ofW (cc := cF_workOutMoved) (maxL := 5) (ret := none) (by decide) rfl ?_
  intro p e s m args below meth c s₁ B hml hv0
  have hx := B.exec
  have hb := B.bytes
  have hr := B.returns
  have hts := atoms_spec (ws := wsF_workOutMoved) B.pre
  have hown : s.vm.findClass RF = some m.cls := findClass_of_methodNamed B.named
  have hlocks := B.notSynchronized
  obtain ⟨rfl, hsz, hG⟩ := dw_enter hv0
  generalize va_A [(f0, .inr (2, [.ref aZ, .ref aO, .int (ch)])), (aZ, .inl (cI, 24, .inl (Zs))), (aO, .inl (cI, 24, .inl (On)))] sz = A at hG ⊢
  have hl := lv_entry ([.ref f0, .int (11), .int (nI (v)), .int (nI (x)), .int (d)]) (n := 5) (Nat.le_of_ble_eq_true rfl)
  rw [lg_entry_eq]
  generalize (lg_sl ([.ref f0, .int (11), .int (nI (v)), .int (nI (x)), .int (d)]) ++ List.replicate (5 - (lg_sl ([.ref f0, .int (11), .int (nI (v)), .int (nI (x)), .int (d)])).length) Slot.unset).toArray = ls at hl ⊢
  have hl : lv_has ls 5 [(0, .ref f0), (1, .int (11)), (2, .int (nI (v))), (3, .int (nI (x))), (4, .int (d))] := hl
  have hw89 := hts _ (List.mem_cons_of_mem _ tw_89)
  have hw92 := hts _ (List.mem_cons_of_mem _ tw_92)
  refine dw_Q (fun Q hQ => ?_)
  suffices hgo : ∀ (H : Heap) (locs : List Loc), dw_G (dC, dI) vwCl [(cI, .int), (cZ, .boolean)] A s.heap s [(f0, .inr (2, [.ref aZ, .ref aO, .int (ch)])), (aZ, .inl (cI, 24, .inl (Zs))), (aO, .inl (cI, 24, .inl (On)))] H locs → W p l e (headSpec wsF_workOutMoved { frames := 1, cells := 0, slots := 0, locals := 30 }).room s m [.ref f0, .int (11), .int (nI (v)), .int (nI (x)), .int (d)].toArray below meth c H locs 0 0 Q (F0 m 0 ls []) from hgo _ _ hG
  clear hG
  intro H locs hG
  refine lv_iload_n hx hb dF_workOutMoved_0 rfl (lv_at hl 1 rfl) ?_
  refine lv_tableIn (tgt := 136) hx hb dF_workOutMoved_1 (by decide) (by decide) rfl (by decide) ?_
  refine lv_aload_n hx hb dF_workOutMoved_136 rfl (lv_at hl 0 rfl) ?_
  refine lv_iload_n hx hb dF_workOutMoved_137 rfl (lv_at hl 2 rfl) ?_
  refine lv_aload_n hx hb dF_workOutMoved_138 rfl (lv_at hl 0 rfl) ?_
  refine dw_get hx hb hts inFc hown hG 0 0 rfl rfl (by decide) hw89 rfl rfl dF_workOutMoved_139 ?_
  refine lv_iload_n hx hb dF_workOutMoved_142 rfl (lv_at hl 3 rfl) ?_
  refine dw_ia (x := (Zs) (x)) hx hb hG 1 0 rfl rfl (x) rfl (by omega) (by decide) rfl dF_workOutMoved_143 ?_
  refine lv_i2b hx hb dF_workOutMoved_144 rfl ?_
  refine lv_aload_n hx hb dF_workOutMoved_145 rfl (lv_at hl 0 rfl) ?_
  refine dw_get hx hb hts inFc hown hG 0 1 rfl rfl (by decide) hw92 rfl rfl dF_workOutMoved_146 ?_
  refine lv_iload_n hx hb dF_workOutMoved_149 rfl (lv_at hl 3 rfl) ?_
  refine dw_ia (x := (On) (x)) hx hb hG 2 0 rfl rfl (x) rfl (by omega) (by decide) rfl dF_workOutMoved_150 ?_
  refine lv_i2b hx hb dF_workOutMoved_151 rfl ?_
  refine dw_callv (wc := [(f0, .inr (2, [.ref aZ, .ref aO, .int (ch)])), (aZ, .inl (cI, 24, .inl (Zs))), (aO, .inl (cI, 24, .inl (On)))]) (wr := []) hG [0, 1, 2] [] rfl rfl (by decide) (by decide) (va_runV (As := [.int (nI (v)), .int (((Zs) (x)).toInt8.toInt32), .int (((On) (x)).toInt8.toInt32)]) (rest := []) ⟨hx, hb, hml, hown, hts⟩ (cf_learn l dC dI cI cZ f0 aZ aO ch Zs On (v) (((Zs) (x)).toInt8.toInt32) (((On) (x)).toInt8.toInt32) H.size (by omega)) (dc_V 3 hts tw_181 tw_183 tp_F_learn tw_3 tw_184 rfl rfl (by decide +kernel) ⟨Nat.le_of_ble_eq_true rfl, Nat.le_of_ble_eq_true rfl⟩) (dw_preV (ci := 2) hG [0, 1, 2] [0, 1] rfl rfl (by decide) rfl rfl (q0 := 0) rfl) rfl rfl hl.1 rfl (lv_room (Nat.le_of_ble_eq_true rfl)) dF_workOutMoved_152 ⟨Nat.le_refl _, Nat.le_refl _⟩) (fun u H locs hp hG => ?_)
  have hG : dw_G (dC, dI) vwCl [(cI, .int), (cZ, .boolean)] A s.heap s [(f0, .inr (2, [.ref aZ, .ref aO, .int (u)])), (aZ, .inl (cI, 24, .inl (upd Zs (v) (((Zs) (x)).toInt8.toInt32)))), (aO, .inl (cI, 24, .inl (upd On (v) (((On) (x)).toInt8.toInt32))))] H locs := hG
  refine lv_goto (tgt := 187) hx hb dF_workOutMoved_155 (by decide) ?_
  subst hQ
  exact dw_vret hx hb hr hG (u) rfl hp dF_workOutMoved_187 hlocks

set_option maxRecDepth 100000 in
set_option maxHeartbeats 4000000 in
theorem cf_moved12 (l : Launch) (dC : Nat → ClassId) (dI : Nat → Nat → Nat) (cI cZ : ClassId) (f0 aZ aO : Nat) (ch : Int32) (Zs On : Nat → Int32) (v x : Nat) (d zy oy zv ov : Int32) (sz : Nat) (hv : v < 24) (hx9 : x < 24) : Met l yF_workOutMoved wsF_workOutMoved { frames := 1, cells := 0, slots := 0, locals := 30 } (va_Pc [.ref f0, .int (12), .int (nI (v)), .int (nI (x)), .int (d)] (dw_pre (dC, dI) vwCl [(f0, .inr (2, [.ref aZ, .ref aO, .int (ch)])), (aZ, .inl (cI, 24, .inl (Zs))), (aO, .inl (cI, 24, .inl (On)))] [(cI, .int), (cZ, .boolean)] sz)) (va_Qv (fun (u : Int32) => db_lrn ch u Zs On v (db_F 12 d (Zs x) (On x) zy oy zv ov).1 (db_F 12 d (Zs x) (On x) zy oy zv ov).2) (fun u t => dw_post (dC, dI) vwCl [(f0, .inr (2, [.ref aZ, .ref aO, .int (u)])), (aZ, .inl (cI, 24, .inl (upd Zs v (db_F 12 d (Zs x) (On x) zy oy zv ov).1))), (aO, .inl (cI, 24, .inl (upd On v (db_F 12 d (Zs x) (On x) zy oy zv ov).2)))] [(cI, .int), (cZ, .boolean)] (va_A [(f0, .inr (2, [.ref aZ, .ref aO, .int (ch)])), (aZ, .inl (cI, 24, .inl (Zs))), (aO, .inl (cI, 24, .inl (On)))] sz) t) (va_A [(f0, .inr (2, [.ref aZ, .ref aO, .int (ch)])), (aZ, .inl (cI, 24, .inl (Zs))), (aO, .inl (cI, 24, .inl (On)))] sz)) 0 0 (va_A [(f0, .inr (2, [.ref aZ, .ref aO, .int (ch)])), (aZ, .inl (cI, 24, .inl (Zs))), (aO, .inl (cI, 24, .inl (On)))] sz) := by
  refine Met.ofW (cc := cF_workOutMoved) (maxL := 5) (ret := none) (by decide) rfl ?_
  intro p e s m args below meth c s₁ B hml hv0
  have hx := B.exec
  have hb := B.bytes
  have hr := B.returns
  have hts := atoms_spec (ws := wsF_workOutMoved) B.pre
  have hown : s.vm.findClass RF = some m.cls := findClass_of_methodNamed B.named
  have hlocks := B.notSynchronized
  obtain ⟨rfl, hsz, hG⟩ := dw_enter hv0
  generalize va_A [(f0, .inr (2, [.ref aZ, .ref aO, .int (ch)])), (aZ, .inl (cI, 24, .inl (Zs))), (aO, .inl (cI, 24, .inl (On)))] sz = A at hG ⊢
  have hl := lv_entry ([.ref f0, .int (12), .int (nI (v)), .int (nI (x)), .int (d)]) (n := 5) (Nat.le_of_ble_eq_true rfl)
  rw [lg_entry_eq]
  generalize (lg_sl ([.ref f0, .int (12), .int (nI (v)), .int (nI (x)), .int (d)]) ++ List.replicate (5 - (lg_sl ([.ref f0, .int (12), .int (nI (v)), .int (nI (x)), .int (d)])).length) Slot.unset).toArray = ls at hl ⊢
  have hl : lv_has ls 5 [(0, .ref f0), (1, .int (12)), (2, .int (nI (v))), (3, .int (nI (x))), (4, .int (d))] := hl
  have hw89 := hts _ (List.mem_cons_of_mem _ tw_89)
  have hw92 := hts _ (List.mem_cons_of_mem _ tw_92)
  refine dw_Q (fun Q hQ => ?_)
  suffices hgo : ∀ (H : Heap) (locs : List Loc), dw_G (dC, dI) vwCl [(cI, .int), (cZ, .boolean)] A s.heap s [(f0, .inr (2, [.ref aZ, .ref aO, .int (ch)])), (aZ, .inl (cI, 24, .inl (Zs))), (aO, .inl (cI, 24, .inl (On)))] H locs → W p l e (headSpec wsF_workOutMoved { frames := 1, cells := 0, slots := 0, locals := 30 }).room s m [.ref f0, .int (12), .int (nI (v)), .int (nI (x)), .int (d)].toArray below meth c H locs 0 0 Q (F0 m 0 ls []) from hgo _ _ hG
  clear hG
  intro H locs hG
  refine lv_iload_n hx hb dF_workOutMoved_0 rfl (lv_at hl 1 rfl) ?_
  refine lv_tableIn (tgt := 158) hx hb dF_workOutMoved_1 (by decide) (by decide) rfl (by decide) ?_
  refine lv_aload_n hx hb dF_workOutMoved_158 rfl (lv_at hl 0 rfl) ?_
  refine lv_iload_n hx hb dF_workOutMoved_159 rfl (lv_at hl 2 rfl) ?_
  refine lv_aload_n hx hb dF_workOutMoved_160 rfl (lv_at hl 0 rfl) ?_
  refine dw_get hx hb hts inFc hown hG 0 0 rfl rfl (by decide) hw89 rfl rfl dF_workOutMoved_161 ?_
  refine lv_iload_n hx hb dF_workOutMoved_164 rfl (lv_at hl 3 rfl) ?_
  refine dw_ia (x := (Zs) (x)) hx hb hG 1 0 rfl rfl (x) rfl (by omega) (by decide) rfl dF_workOutMoved_165 ?_
  refine lv_i2s hx hb dF_workOutMoved_166 rfl ?_
  refine lv_aload_n hx hb dF_workOutMoved_167 rfl (lv_at hl 0 rfl) ?_
  refine dw_get hx hb hts inFc hown hG 0 1 rfl rfl (by decide) hw92 rfl rfl dF_workOutMoved_168 ?_
  refine lv_iload_n hx hb dF_workOutMoved_171 rfl (lv_at hl 3 rfl) ?_
  refine dw_ia (x := (On) (x)) hx hb hG 2 0 rfl rfl (x) rfl (by omega) (by decide) rfl dF_workOutMoved_172 ?_
  refine lv_i2s hx hb dF_workOutMoved_173 rfl ?_
  refine dw_callv (wc := [(f0, .inr (2, [.ref aZ, .ref aO, .int (ch)])), (aZ, .inl (cI, 24, .inl (Zs))), (aO, .inl (cI, 24, .inl (On)))]) (wr := []) hG [0, 1, 2] [] rfl rfl (by decide) (by decide) (va_runV (As := [.int (nI (v)), .int (((Zs) (x)).toInt16.toInt32), .int (((On) (x)).toInt16.toInt32)]) (rest := []) ⟨hx, hb, hml, hown, hts⟩ (cf_learn l dC dI cI cZ f0 aZ aO ch Zs On (v) (((Zs) (x)).toInt16.toInt32) (((On) (x)).toInt16.toInt32) H.size (by omega)) (dc_V 3 hts tw_181 tw_183 tp_F_learn tw_3 tw_184 rfl rfl (by decide +kernel) ⟨Nat.le_of_ble_eq_true rfl, Nat.le_of_ble_eq_true rfl⟩) (dw_preV (ci := 2) hG [0, 1, 2] [0, 1] rfl rfl (by decide) rfl rfl (q0 := 0) rfl) rfl rfl hl.1 rfl (lv_room (Nat.le_of_ble_eq_true rfl)) dF_workOutMoved_174 ⟨Nat.le_refl _, Nat.le_refl _⟩) (fun u H locs hp hG => ?_)
  have hG : dw_G (dC, dI) vwCl [(cI, .int), (cZ, .boolean)] A s.heap s [(f0, .inr (2, [.ref aZ, .ref aO, .int (u)])), (aZ, .inl (cI, 24, .inl (upd Zs (v) (((Zs) (x)).toInt16.toInt32)))), (aO, .inl (cI, 24, .inl (upd On (v) (((On) (x)).toInt16.toInt32))))] H locs := hG
  refine lv_goto (tgt := 187) hx hb dF_workOutMoved_177 (by decide) ?_
  subst hQ
  exact dw_vret hx hb hr hG (u) rfl hp dF_workOutMoved_187 hlocks

