set_option maxRecDepth 100000 in
set_option maxHeartbeats 4000000 in
theorem rf_learn0 (l : Launch) (dC : Nat → ClassId) (dI : Nat → Nat → Nat) (cI cZ : ClassId) (m0 aMd aO1 aT2 aSh aMk aFa aDe aNe aBy aPi aNw aNs aBf : Nat) (ft vl rs pd rn rr : Int32) (v x y : Nat) (d : Int32) (Md O1 T2 Fa : Nat → Int32) (zx ox zy oy : Int32) (sz : Nat) (hv : v < 24) (em : Md v = nI 0) (hxv : x < v) (e1 : O1 v = nI x) (hfx : db_rep Fa x zx ox) (hax : db_ap zx ox) (hyv : y < v) (e2 : T2 v = nI y) (hfy : db_rep Fa y zy oy) (hay : db_ap zy oy) : Met l yM_learn wsM_learn { frames := 2, cells := 0, slots := 0, locals := 60 } (va_Pc [.ref m0, .int (nI (v))] (dw_pre (dC, dI) vwCl [(m0, .inr (5, [.int (ft), .int (vl), .ref aMd, .ref aO1, .ref aT2, .int (rs), .ref aSh, .ref aMk, .ref aFa, .ref aDe, .ref aNe, .ref aBy, .ref aPi, .int (pd), .ref aNw, .ref aNs, .ref aBf, .int (rn), .int (rr)])), (aMd, .inl (cI, 24, .inl (Md))), (aO1, .inl (cI, 24, .inl (O1))), (aT2, .inl (cI, 24, .inl (T2))), (aFa, .inl (cI, 768, .inl (Fa)))] [(cI, .int), (cZ, .boolean)] sz)) (va_Qv (fun (u : Nat → Int32) => db_out Fa u v ∧ db_rep u v (db_F 0 d zx ox zy oy 0 0).1 (db_F 0 d zx ox zy oy 0 0).2) (fun u t => dw_post (dC, dI) vwCl [(m0, .inr (5, [.int (ft), .int (vl), .ref aMd, .ref aO1, .ref aT2, .int (rs), .ref aSh, .ref aMk, .ref aFa, .ref aDe, .ref aNe, .ref aBy, .ref aPi, .int (pd), .ref aNw, .ref aNs, .ref aBf, .int (rn), .int (rr)])), (aMd, .inl (cI, 24, .inl (Md))), (aO1, .inl (cI, 24, .inl (O1))), (aT2, .inl (cI, 24, .inl (T2))), (aFa, .inl (cI, 768, .inl (u)))] [(cI, .int), (cZ, .boolean)] (va_A [(m0, .inr (5, [.int (ft), .int (vl), .ref aMd, .ref aO1, .ref aT2, .int (rs), .ref aSh, .ref aMk, .ref aFa, .ref aDe, .ref aNe, .ref aBy, .ref aPi, .int (pd), .ref aNw, .ref aNs, .ref aBf, .int (rn), .int (rr)])), (aMd, .inl (cI, 24, .inl (Md))), (aO1, .inl (cI, 24, .inl (O1))), (aT2, .inl (cI, 24, .inl (T2))), (aFa, .inl (cI, 768, .inl (Fa)))] sz) t) (va_A [(m0, .inr (5, [.int (ft), .int (vl), .ref aMd, .ref aO1, .ref aT2, .int (rs), .ref aSh, .ref aMk, .ref aFa, .ref aDe, .ref aNe, .ref aBy, .ref aPi, .int (pd), .ref aNw, .ref aNs, .ref aBf, .int (rn), .int (rr)])), (aMd, .inl (cI, 24, .inl (Md))), (aO1, .inl (cI, 24, .inl (O1))), (aT2, .inl (cI, 24, .inl (T2))), (aFa, .inl (cI, 768, .inl (Fa)))] sz)) 0 0 (va_A [(m0, .inr (5, [.int (ft), .int (vl), .ref aMd, .ref aO1, .ref aT2, .int (rs), .ref aSh, .ref aMk, .ref aFa, .ref aDe, .ref aNe, .ref aBy, .ref aPi, .int (pd), .ref aNw, .ref aNs, .ref aBf, .int (rn), .int (rr)])), (aMd, .inl (cI, 24, .inl (Md))), (aO1, .inl (cI, 24, .inl (O1))), (aT2, .inl (cI, 24, .inl (T2))), (aFa, .inl (cI, 768, .inl (Fa)))] sz) := by
  refine Met.ofW (cc := cM_learn) (maxL := 6) (ret := none) (by decide) rfl ?_
  intro p e s m args below meth c s₁ B hml hv0
  have hx := B.exec
  have hb := B.bytes
  have hr := B.returns
  have hts := atoms_spec (ws := wsM_learn) B.pre
  have hown : s.vm.findClass RM = some m.cls := findClass_of_methodNamed B.named
  have hlocks := B.notSynchronized
  obtain ⟨rfl, hsz, hG⟩ := dw_enter hv0
  generalize va_A [(m0, .inr (5, [.int (ft), .int (vl), .ref aMd, .ref aO1, .ref aT2, .int (rs), .ref aSh, .ref aMk, .ref aFa, .ref aDe, .ref aNe, .ref aBy, .ref aPi, .int (pd), .ref aNw, .ref aNs, .ref aBf, .int (rn), .int (rr)])), (aMd, .inl (cI, 24, .inl (Md))), (aO1, .inl (cI, 24, .inl (O1))), (aT2, .inl (cI, 24, .inl (T2))), (aFa, .inl (cI, 768, .inl (Fa)))] sz = A at hG ⊢
  have hl := lv_entry ([.ref m0, .int (nI (v))]) (n := 6) (Nat.le_of_ble_eq_true rfl)
  rw [lg_entry_eq]
  generalize (lg_sl ([.ref m0, .int (nI (v))]) ++ List.replicate (6 - (lg_sl ([.ref m0, .int (nI (v))])).length) Slot.unset).toArray = ls at hl ⊢
  have hl : lv_has ls 6 [(0, .ref m0), (1, .int (nI (v)))] := hl
  have hw496 := hts _ (List.mem_cons_of_mem _ tw_496)
  refine dw_Q (fun Q hQ => ?_)
  suffices hgo : ∀ (H : Heap) (locs : List Loc), dw_G (dC, dI) vwCl [(cI, .int), (cZ, .boolean)] A s.heap s [(m0, .inr (5, [.int (ft), .int (vl), .ref aMd, .ref aO1, .ref aT2, .int (rs), .ref aSh, .ref aMk, .ref aFa, .ref aDe, .ref aNe, .ref aBy, .ref aPi, .int (pd), .ref aNw, .ref aNs, .ref aBf, .int (rn), .int (rr)])), (aMd, .inl (cI, 24, .inl (Md))), (aO1, .inl (cI, 24, .inl (O1))), (aT2, .inl (cI, 24, .inl (T2))), (aFa, .inl (cI, 768, .inl (Fa)))] H locs → W p l e (headSpec wsM_learn { frames := 2, cells := 0, slots := 0, locals := 60 }).room s m [.ref m0, .int (nI (v))].toArray below meth c H locs 0 0 Q (F0 m 0 ls []) from hgo _ _ hG
  clear hG
  intro H locs hG
  refine lv_aload_n hx hb dM_learn_0 rfl (lv_at hl 0 rfl) ?_
  refine dw_get hx hb hts inMc hown hG 0 2 rfl rfl (by decide) hw496 rfl rfl dM_learn_1 ?_
  refine lv_iload_n hx hb dM_learn_4 rfl (lv_at hl 1 rfl) ?_
  refine dw_ia (x := 0) hx hb hG 1 0 rfl rfl (v) rfl (by omega) (by decide) em dM_learn_5 ?_
  refine lv_if_eq (tgt := 19) hx hb dM_learn_6 (by decide) (fun h6 => ?_) (fun h6 => ?_)
  · skip
    replace h6 := (nI_eq (a := 0) (b := 0) (by omega) (by omega)).mp h6
    refine lv_aload_n hx hb dM_learn_19 rfl (lv_at hl 0 rfl) ?_
    refine lv_iload_n hx hb dM_learn_20 rfl (lv_at hl 1 rfl) ?_
    refine lv_aload_n hx hb dM_learn_21 rfl (lv_at hl 0 rfl) ?_
    refine dw_get hx hb hts inMc hown hG 0 2 rfl rfl (by decide) hw496 rfl rfl dM_learn_22 ?_
    refine lv_iload_n hx hb dM_learn_25 rfl (lv_at hl 1 rfl) ?_
    refine dw_ia (x := 0) hx hb hG 1 0 rfl rfl (v) rfl (by omega) (by decide) em dM_learn_26 ?_
    refine lv_iconst (v := 1) hx hb dM_learn_27 (by decide) ?_
    refine lv_icmp_ne (tgt := 35) hx hb dM_learn_28 (by decide) (fun h28 => ?_) (fun h28 => ?_)
    · skip
      replace h28 : ¬ 0 = 1 := fun q => h28 ((nI_eq (a := 0) (b := 1) (by omega) (by omega)).mpr q)
      refine lv_iconst (v := 0) hx hb dM_learn_35 (by decide) ?_
      refine dw_callv (wc := [(m0, .inr (5, [.int (ft), .int (vl), .ref aMd, .ref aO1, .ref aT2, .int (rs), .ref aSh, .ref aMk, .ref aFa, .ref aDe, .ref aNe, .ref aBy, .ref aPi, .int (pd), .ref aNw, .ref aNs, .ref aBf, .int (rn), .int (rr)])), (aO1, .inl (cI, 24, .inl (O1))), (aT2, .inl (cI, 24, .inl (T2))), (aFa, .inl (cI, 768, .inl (Fa)))]) (wr := [(aMd, .inl (cI, 24, .inl (Md)))]) hG [0, 2, 3, 4] [1] rfl rfl (by decide) (by decide) (va_runV (As := [.int (nI (v)), .int (0)]) (rest := []) ⟨hx, hb, hml, hown, hts⟩ (rf_add0 l dC dI cI cZ m0 aMd aO1 aT2 aSh aMk aFa aDe aNe aBy aPi aNw aNs aBf ft vl rs pd rn rr v x y O1 T2 Fa zx ox zy oy H.size hv hxv hyv e1 e2 hfx hfy hax hay) (dc_V 2 hts tw_613 tw_615 tp_M_add tw_7 tw_616 rfl rfl (by decide +kernel) ⟨Nat.le_of_ble_eq_true rfl, Nat.le_of_ble_eq_true rfl⟩) (dw_preV (ci := 5) hG [0, 2, 3, 4] [0, 1] rfl rfl (by decide) rfl rfl (q0 := 0) rfl) rfl rfl hl.1 rfl (lv_room (Nat.le_of_ble_eq_true rfl)) dM_learn_36 ⟨Nat.le_refl _, Nat.le_refl _⟩) (fun u H locs hp hG => ?_)
      have hG : dw_G (dC, dI) vwCl [(cI, .int), (cZ, .boolean)] A s.heap s [(aMd, .inl (cI, 24, .inl (Md))), (m0, .inr (5, [.int (ft), .int (vl), .ref aMd, .ref aO1, .ref aT2, .int (rs), .ref aSh, .ref aMk, .ref aFa, .ref aDe, .ref aNe, .ref aBy, .ref aPi, .int (pd), .ref aNw, .ref aNs, .ref aBf, .int (rn), .int (rr)])), (aO1, .inl (cI, 24, .inl (O1))), (aT2, .inl (cI, 24, .inl (T2))), (aFa, .inl (cI, 768, .inl (u)))] H locs := hG
      refine lv_goto (tgt := 312) hx hb dM_learn_39 (by decide) ?_
      subst hQ
      exact dw_vret hx hb hr (dw_perm hG [1, 0, 2, 3, 4] (by decide) rfl rfl) (u) rfl hp dM_learn_312 hlocks
    replace h28 := (nI_eq (a := 0) (b := 1) (by omega) (by omega)).mp h28
    (exfalso; omega)
  replace h6 : ¬ 0 = 0 := fun q => h6 ((nI_eq (a := 0) (b := 0) (by omega) (by omega)).mpr q)
  (exfalso; omega)

set_option maxRecDepth 100000 in
set_option maxHeartbeats 4000000 in
theorem rf_learn1 (l : Launch) (dC : Nat → ClassId) (dI : Nat → Nat → Nat) (cI cZ : ClassId) (m0 aMd aO1 aT2 aSh aMk aFa aDe aNe aBy aPi aNw aNs aBf : Nat) (ft vl rs pd rn rr : Int32) (v x y : Nat) (d : Int32) (Md O1 T2 Fa : Nat → Int32) (zx ox zy oy : Int32) (sz : Nat) (hv : v < 24) (em : Md v = nI 1) (hxv : x < v) (e1 : O1 v = nI x) (hfx : db_rep Fa x zx ox) (hax : db_ap zx ox) (hyv : y < v) (e2 : T2 v = nI y) (hfy : db_rep Fa y zy oy) (hay : db_ap zy oy) : Met l yM_learn wsM_learn { frames := 2, cells := 0, slots := 0, locals := 60 } (va_Pc [.ref m0, .int (nI (v))] (dw_pre (dC, dI) vwCl [(m0, .inr (5, [.int (ft), .int (vl), .ref aMd, .ref aO1, .ref aT2, .int (rs), .ref aSh, .ref aMk, .ref aFa, .ref aDe, .ref aNe, .ref aBy, .ref aPi, .int (pd), .ref aNw, .ref aNs, .ref aBf, .int (rn), .int (rr)])), (aMd, .inl (cI, 24, .inl (Md))), (aO1, .inl (cI, 24, .inl (O1))), (aT2, .inl (cI, 24, .inl (T2))), (aFa, .inl (cI, 768, .inl (Fa)))] [(cI, .int), (cZ, .boolean)] sz)) (va_Qv (fun (u : Nat → Int32) => db_out Fa u v ∧ db_rep u v (db_F 1 d zx ox zy oy 0 0).1 (db_F 1 d zx ox zy oy 0 0).2) (fun u t => dw_post (dC, dI) vwCl [(m0, .inr (5, [.int (ft), .int (vl), .ref aMd, .ref aO1, .ref aT2, .int (rs), .ref aSh, .ref aMk, .ref aFa, .ref aDe, .ref aNe, .ref aBy, .ref aPi, .int (pd), .ref aNw, .ref aNs, .ref aBf, .int (rn), .int (rr)])), (aMd, .inl (cI, 24, .inl (Md))), (aO1, .inl (cI, 24, .inl (O1))), (aT2, .inl (cI, 24, .inl (T2))), (aFa, .inl (cI, 768, .inl (u)))] [(cI, .int), (cZ, .boolean)] (va_A [(m0, .inr (5, [.int (ft), .int (vl), .ref aMd, .ref aO1, .ref aT2, .int (rs), .ref aSh, .ref aMk, .ref aFa, .ref aDe, .ref aNe, .ref aBy, .ref aPi, .int (pd), .ref aNw, .ref aNs, .ref aBf, .int (rn), .int (rr)])), (aMd, .inl (cI, 24, .inl (Md))), (aO1, .inl (cI, 24, .inl (O1))), (aT2, .inl (cI, 24, .inl (T2))), (aFa, .inl (cI, 768, .inl (Fa)))] sz) t) (va_A [(m0, .inr (5, [.int (ft), .int (vl), .ref aMd, .ref aO1, .ref aT2, .int (rs), .ref aSh, .ref aMk, .ref aFa, .ref aDe, .ref aNe, .ref aBy, .ref aPi, .int (pd), .ref aNw, .ref aNs, .ref aBf, .int (rn), .int (rr)])), (aMd, .inl (cI, 24, .inl (Md))), (aO1, .inl (cI, 24, .inl (O1))), (aT2, .inl (cI, 24, .inl (T2))), (aFa, .inl (cI, 768, .inl (Fa)))] sz)) 0 0 (va_A [(m0, .inr (5, [.int (ft), .int (vl), .ref aMd, .ref aO1, .ref aT2, .int (rs), .ref aSh, .ref aMk, .ref aFa, .ref aDe, .ref aNe, .ref aBy, .ref aPi, .int (pd), .ref aNw, .ref aNs, .ref aBf, .int (rn), .int (rr)])), (aMd, .inl (cI, 24, .inl (Md))), (aO1, .inl (cI, 24, .inl (O1))), (aT2, .inl (cI, 24, .inl (T2))), (aFa, .inl (cI, 768, .inl (Fa)))] sz) := by
  refine Met.ofW (cc := cM_learn) (maxL := 6) (ret := none) (by decide) rfl ?_
  intro p e s m args below meth c s₁ B hml hv0
  have hx := B.exec
  have hb := B.bytes
  have hr := B.returns
  have hts := atoms_spec (ws := wsM_learn) B.pre
  have hown : s.vm.findClass RM = some m.cls := findClass_of_methodNamed B.named
  have hlocks := B.notSynchronized
  obtain ⟨rfl, hsz, hG⟩ := dw_enter hv0
  generalize va_A [(m0, .inr (5, [.int (ft), .int (vl), .ref aMd, .ref aO1, .ref aT2, .int (rs), .ref aSh, .ref aMk, .ref aFa, .ref aDe, .ref aNe, .ref aBy, .ref aPi, .int (pd), .ref aNw, .ref aNs, .ref aBf, .int (rn), .int (rr)])), (aMd, .inl (cI, 24, .inl (Md))), (aO1, .inl (cI, 24, .inl (O1))), (aT2, .inl (cI, 24, .inl (T2))), (aFa, .inl (cI, 768, .inl (Fa)))] sz = A at hG ⊢
  have hl := lv_entry ([.ref m0, .int (nI (v))]) (n := 6) (Nat.le_of_ble_eq_true rfl)
  rw [lg_entry_eq]
  generalize (lg_sl ([.ref m0, .int (nI (v))]) ++ List.replicate (6 - (lg_sl ([.ref m0, .int (nI (v))])).length) Slot.unset).toArray = ls at hl ⊢
  have hl : lv_has ls 6 [(0, .ref m0), (1, .int (nI (v)))] := hl
  have hw496 := hts _ (List.mem_cons_of_mem _ tw_496)
  refine dw_Q (fun Q hQ => ?_)
  suffices hgo : ∀ (H : Heap) (locs : List Loc), dw_G (dC, dI) vwCl [(cI, .int), (cZ, .boolean)] A s.heap s [(m0, .inr (5, [.int (ft), .int (vl), .ref aMd, .ref aO1, .ref aT2, .int (rs), .ref aSh, .ref aMk, .ref aFa, .ref aDe, .ref aNe, .ref aBy, .ref aPi, .int (pd), .ref aNw, .ref aNs, .ref aBf, .int (rn), .int (rr)])), (aMd, .inl (cI, 24, .inl (Md))), (aO1, .inl (cI, 24, .inl (O1))), (aT2, .inl (cI, 24, .inl (T2))), (aFa, .inl (cI, 768, .inl (Fa)))] H locs → W p l e (headSpec wsM_learn { frames := 2, cells := 0, slots := 0, locals := 60 }).room s m [.ref m0, .int (nI (v))].toArray below meth c H locs 0 0 Q (F0 m 0 ls []) from hgo _ _ hG
  clear hG
  intro H locs hG
  refine lv_aload_n hx hb dM_learn_0 rfl (lv_at hl 0 rfl) ?_
  refine dw_get hx hb hts inMc hown hG 0 2 rfl rfl (by decide) hw496 rfl rfl dM_learn_1 ?_
  refine lv_iload_n hx hb dM_learn_4 rfl (lv_at hl 1 rfl) ?_
  refine dw_ia (x := 1) hx hb hG 1 0 rfl rfl (v) rfl (by omega) (by decide) em dM_learn_5 ?_
  refine lv_if_eq (tgt := 19) hx hb dM_learn_6 (by decide) (fun h6 => ?_) (fun h6 => ?_)
  · skip
    replace h6 := (nI_eq (a := 1) (b := 0) (by omega) (by omega)).mp h6
    (exfalso; omega)
  replace h6 : ¬ 1 = 0 := fun q => h6 ((nI_eq (a := 1) (b := 0) (by omega) (by omega)).mpr q)
  refine lv_aload_n hx hb dM_learn_9 rfl (lv_at hl 0 rfl) ?_
  refine dw_get hx hb hts inMc hown hG 0 2 rfl rfl (by decide) hw496 rfl rfl dM_learn_10 ?_
  refine lv_iload_n hx hb dM_learn_13 rfl (lv_at hl 1 rfl) ?_
  refine dw_ia (x := 1) hx hb hG 1 0 rfl rfl (v) rfl (by omega) (by decide) em dM_learn_14 ?_
  refine lv_iconst (v := 1) hx hb dM_learn_15 (by decide) ?_
  refine lv_icmp_ne (tgt := 42) hx hb dM_learn_16 (by decide) (fun h16 => ?_) (fun h16 => ?_)
  · skip
    replace h16 : ¬ 1 = 1 := fun q => h16 ((nI_eq (a := 1) (b := 1) (by omega) (by omega)).mpr q)
    (exfalso; omega)
  replace h16 := (nI_eq (a := 1) (b := 1) (by omega) (by omega)).mp h16
  refine lv_aload_n hx hb dM_learn_19 rfl (lv_at hl 0 rfl) ?_
  refine lv_iload_n hx hb dM_learn_20 rfl (lv_at hl 1 rfl) ?_
  refine lv_aload_n hx hb dM_learn_21 rfl (lv_at hl 0 rfl) ?_
  refine dw_get hx hb hts inMc hown hG 0 2 rfl rfl (by decide) hw496 rfl rfl dM_learn_22 ?_
  refine lv_iload_n hx hb dM_learn_25 rfl (lv_at hl 1 rfl) ?_
  refine dw_ia (x := 1) hx hb hG 1 0 rfl rfl (v) rfl (by omega) (by decide) em dM_learn_26 ?_
  refine lv_iconst (v := 1) hx hb dM_learn_27 (by decide) ?_
  refine lv_icmp_ne (tgt := 35) hx hb dM_learn_28 (by decide) (fun h28 => ?_) (fun h28 => ?_)
  · skip
    replace h28 : ¬ 1 = 1 := fun q => h28 ((nI_eq (a := 1) (b := 1) (by omega) (by omega)).mpr q)
    (exfalso; omega)
  replace h28 := (nI_eq (a := 1) (b := 1) (by omega) (by omega)).mp h28
  refine lv_iconst (v := 1) hx hb dM_learn_31 (by decide) ?_
  refine lv_goto (tgt := 36) hx hb dM_learn_32 (by decide) ?_
  refine dw_callv (wc := [(m0, .inr (5, [.int (ft), .int (vl), .ref aMd, .ref aO1, .ref aT2, .int (rs), .ref aSh, .ref aMk, .ref aFa, .ref aDe, .ref aNe, .ref aBy, .ref aPi, .int (pd), .ref aNw, .ref aNs, .ref aBf, .int (rn), .int (rr)])), (aO1, .inl (cI, 24, .inl (O1))), (aT2, .inl (cI, 24, .inl (T2))), (aFa, .inl (cI, 768, .inl (Fa)))]) (wr := [(aMd, .inl (cI, 24, .inl (Md)))]) hG [0, 2, 3, 4] [1] rfl rfl (by decide) (by decide) (va_runV (As := [.int (nI (v)), .int (1)]) (rest := []) ⟨hx, hb, hml, hown, hts⟩ (rf_add1 l dC dI cI cZ m0 aMd aO1 aT2 aSh aMk aFa aDe aNe aBy aPi aNw aNs aBf ft vl rs pd rn rr v x y O1 T2 Fa zx ox zy oy H.size hv hxv hyv e1 e2 hfx hfy hax hay) (dc_V 2 hts tw_613 tw_615 tp_M_add tw_7 tw_616 rfl rfl (by decide +kernel) ⟨Nat.le_of_ble_eq_true rfl, Nat.le_of_ble_eq_true rfl⟩) (dw_preV (ci := 5) hG [0, 2, 3, 4] [0, 1] rfl rfl (by decide) rfl rfl (q0 := 0) rfl) rfl rfl hl.1 rfl (lv_room (Nat.le_of_ble_eq_true rfl)) dM_learn_36 ⟨Nat.le_refl _, Nat.le_refl _⟩) (fun u H locs hp hG => ?_)
  have hG : dw_G (dC, dI) vwCl [(cI, .int), (cZ, .boolean)] A s.heap s [(aMd, .inl (cI, 24, .inl (Md))), (m0, .inr (5, [.int (ft), .int (vl), .ref aMd, .ref aO1, .ref aT2, .int (rs), .ref aSh, .ref aMk, .ref aFa, .ref aDe, .ref aNe, .ref aBy, .ref aPi, .int (pd), .ref aNw, .ref aNs, .ref aBf, .int (rn), .int (rr)])), (aO1, .inl (cI, 24, .inl (O1))), (aT2, .inl (cI, 24, .inl (T2))), (aFa, .inl (cI, 768, .inl (u)))] H locs := hG
  refine lv_goto (tgt := 312) hx hb dM_learn_39 (by decide) ?_
  subst hQ
  exact dw_vret hx hb hr (dw_perm hG [1, 0, 2, 3, 4] (by decide) rfl rfl) (u) rfl hp dM_learn_312 hlocks

set_option maxRecDepth 100000 in
set_option maxHeartbeats 4000000 in
theorem rf_learn2 (l : Launch) (dC : Nat → ClassId) (dI : Nat → Nat → Nat) (cI cZ : ClassId) (m0 aMd aO1 aT2 aSh aMk aFa aDe aNe aBy aPi aNw aNs aBf : Nat) (ft vl rs pd rn rr : Int32) (v x y : Nat) (d : Int32) (Md O1 T2 Fa : Nat → Int32) (zx ox zy oy : Int32) (sz : Nat) (hv : v < 24) (em : Md v = nI 2) (hxv : x < v) (e1 : O1 v = nI x) (hfx : db_rep Fa x zx ox) (hax : db_ap zx ox) (hyv : y < v) (e2 : T2 v = nI y) (hfy : db_rep Fa y zy oy) (hay : db_ap zy oy) : Met l yM_learn wsM_learn { frames := 2, cells := 0, slots := 0, locals := 60 } (va_Pc [.ref m0, .int (nI (v))] (dw_pre (dC, dI) vwCl [(m0, .inr (5, [.int (ft), .int (vl), .ref aMd, .ref aO1, .ref aT2, .int (rs), .ref aSh, .ref aMk, .ref aFa, .ref aDe, .ref aNe, .ref aBy, .ref aPi, .int (pd), .ref aNw, .ref aNs, .ref aBf, .int (rn), .int (rr)])), (aMd, .inl (cI, 24, .inl (Md))), (aO1, .inl (cI, 24, .inl (O1))), (aT2, .inl (cI, 24, .inl (T2))), (aFa, .inl (cI, 768, .inl (Fa)))] [(cI, .int), (cZ, .boolean)] sz)) (va_Qv (fun (u : Nat → Int32) => db_out Fa u v ∧ db_rep u v (db_F 2 d zx ox zy oy 0 0).1 (db_F 2 d zx ox zy oy 0 0).2) (fun u t => dw_post (dC, dI) vwCl [(m0, .inr (5, [.int (ft), .int (vl), .ref aMd, .ref aO1, .ref aT2, .int (rs), .ref aSh, .ref aMk, .ref aFa, .ref aDe, .ref aNe, .ref aBy, .ref aPi, .int (pd), .ref aNw, .ref aNs, .ref aBf, .int (rn), .int (rr)])), (aMd, .inl (cI, 24, .inl (Md))), (aO1, .inl (cI, 24, .inl (O1))), (aT2, .inl (cI, 24, .inl (T2))), (aFa, .inl (cI, 768, .inl (u)))] [(cI, .int), (cZ, .boolean)] (va_A [(m0, .inr (5, [.int (ft), .int (vl), .ref aMd, .ref aO1, .ref aT2, .int (rs), .ref aSh, .ref aMk, .ref aFa, .ref aDe, .ref aNe, .ref aBy, .ref aPi, .int (pd), .ref aNw, .ref aNs, .ref aBf, .int (rn), .int (rr)])), (aMd, .inl (cI, 24, .inl (Md))), (aO1, .inl (cI, 24, .inl (O1))), (aT2, .inl (cI, 24, .inl (T2))), (aFa, .inl (cI, 768, .inl (Fa)))] sz) t) (va_A [(m0, .inr (5, [.int (ft), .int (vl), .ref aMd, .ref aO1, .ref aT2, .int (rs), .ref aSh, .ref aMk, .ref aFa, .ref aDe, .ref aNe, .ref aBy, .ref aPi, .int (pd), .ref aNw, .ref aNs, .ref aBf, .int (rn), .int (rr)])), (aMd, .inl (cI, 24, .inl (Md))), (aO1, .inl (cI, 24, .inl (O1))), (aT2, .inl (cI, 24, .inl (T2))), (aFa, .inl (cI, 768, .inl (Fa)))] sz)) 0 0 (va_A [(m0, .inr (5, [.int (ft), .int (vl), .ref aMd, .ref aO1, .ref aT2, .int (rs), .ref aSh, .ref aMk, .ref aFa, .ref aDe, .ref aNe, .ref aBy, .ref aPi, .int (pd), .ref aNw, .ref aNs, .ref aBf, .int (rn), .int (rr)])), (aMd, .inl (cI, 24, .inl (Md))), (aO1, .inl (cI, 24, .inl (O1))), (aT2, .inl (cI, 24, .inl (T2))), (aFa, .inl (cI, 768, .inl (Fa)))] sz) := by
  refine Met.ofW (cc := cM_learn) (maxL := 6) (ret := none) (by decide) rfl ?_
  intro p e s m args below meth c s₁ B hml hv0
  have hx := B.exec
  have hb := B.bytes
  have hr := B.returns
  have hts := atoms_spec (ws := wsM_learn) B.pre
  have hown : s.vm.findClass RM = some m.cls := findClass_of_methodNamed B.named
  have hlocks := B.notSynchronized
  obtain ⟨rfl, hsz, hG⟩ := dw_enter hv0
  generalize va_A [(m0, .inr (5, [.int (ft), .int (vl), .ref aMd, .ref aO1, .ref aT2, .int (rs), .ref aSh, .ref aMk, .ref aFa, .ref aDe, .ref aNe, .ref aBy, .ref aPi, .int (pd), .ref aNw, .ref aNs, .ref aBf, .int (rn), .int (rr)])), (aMd, .inl (cI, 24, .inl (Md))), (aO1, .inl (cI, 24, .inl (O1))), (aT2, .inl (cI, 24, .inl (T2))), (aFa, .inl (cI, 768, .inl (Fa)))] sz = A at hG ⊢
  have hl := lv_entry ([.ref m0, .int (nI (v))]) (n := 6) (Nat.le_of_ble_eq_true rfl)
  rw [lg_entry_eq]
  generalize (lg_sl ([.ref m0, .int (nI (v))]) ++ List.replicate (6 - (lg_sl ([.ref m0, .int (nI (v))])).length) Slot.unset).toArray = ls at hl ⊢
  have hl : lv_has ls 6 [(0, .ref m0), (1, .int (nI (v)))] := hl
  have hw496 := hts _ (List.mem_cons_of_mem _ tw_496)
  refine dw_Q (fun Q hQ => ?_)
  suffices hgo : ∀ (H : Heap) (locs : List Loc), dw_G (dC, dI) vwCl [(cI, .int), (cZ, .boolean)] A s.heap s [(m0, .inr (5, [.int (ft), .int (vl), .ref aMd, .ref aO1, .ref aT2, .int (rs), .ref aSh, .ref aMk, .ref aFa, .ref aDe, .ref aNe, .ref aBy, .ref aPi, .int (pd), .ref aNw, .ref aNs, .ref aBf, .int (rn), .int (rr)])), (aMd, .inl (cI, 24, .inl (Md))), (aO1, .inl (cI, 24, .inl (O1))), (aT2, .inl (cI, 24, .inl (T2))), (aFa, .inl (cI, 768, .inl (Fa)))] H locs → W p l e (headSpec wsM_learn { frames := 2, cells := 0, slots := 0, locals := 60 }).room s m [.ref m0, .int (nI (v))].toArray below meth c H locs 0 0 Q (F0 m 0 ls []) from hgo _ _ hG
  clear hG
  intro H locs hG
  refine lv_aload_n hx hb dM_learn_0 rfl (lv_at hl 0 rfl) ?_
  refine dw_get hx hb hts inMc hown hG 0 2 rfl rfl (by decide) hw496 rfl rfl dM_learn_1 ?_
  refine lv_iload_n hx hb dM_learn_4 rfl (lv_at hl 1 rfl) ?_
  refine dw_ia (x := 2) hx hb hG 1 0 rfl rfl (v) rfl (by omega) (by decide) em dM_learn_5 ?_
  refine lv_if_eq (tgt := 19) hx hb dM_learn_6 (by decide) (fun h6 => ?_) (fun h6 => ?_)
  · skip
    replace h6 := (nI_eq (a := 2) (b := 0) (by omega) (by omega)).mp h6
    (exfalso; omega)
  replace h6 : ¬ 2 = 0 := fun q => h6 ((nI_eq (a := 2) (b := 0) (by omega) (by omega)).mpr q)
  refine lv_aload_n hx hb dM_learn_9 rfl (lv_at hl 0 rfl) ?_
  refine dw_get hx hb hts inMc hown hG 0 2 rfl rfl (by decide) hw496 rfl rfl dM_learn_10 ?_
  refine lv_iload_n hx hb dM_learn_13 rfl (lv_at hl 1 rfl) ?_
  refine dw_ia (x := 2) hx hb hG 1 0 rfl rfl (v) rfl (by omega) (by decide) em dM_learn_14 ?_
  refine lv_iconst (v := 1) hx hb dM_learn_15 (by decide) ?_
  refine lv_icmp_ne (tgt := 42) hx hb dM_learn_16 (by decide) (fun h16 => ?_) (fun h16 => ?_)
  · skip
    replace h16 : ¬ 2 = 1 := fun q => h16 ((nI_eq (a := 2) (b := 1) (by omega) (by omega)).mpr q)
    refine lv_aload_n hx hb dM_learn_42 rfl (lv_at hl 0 rfl) ?_
    refine dw_get hx hb hts inMc hown hG 0 2 rfl rfl (by decide) hw496 rfl rfl dM_learn_43 ?_
    refine lv_iload_n hx hb dM_learn_46 rfl (lv_at hl 1 rfl) ?_
    refine dw_ia (x := 2) hx hb hG 1 0 rfl rfl (v) rfl (by omega) (by decide) em dM_learn_47 ?_
    refine lv_iconst (v := 2) hx hb dM_learn_48 (by decide) ?_
    refine lv_icmp_ne (tgt := 60) hx hb dM_learn_49 (by decide) (fun h49 => ?_) (fun h49 => ?_)
    · skip
      replace h49 : ¬ 2 = 2 := fun q => h49 ((nI_eq (a := 2) (b := 2) (by omega) (by omega)).mpr q)
      (exfalso; omega)
    replace h49 := (nI_eq (a := 2) (b := 2) (by omega) (by omega)).mp h49
    refine lv_aload_n hx hb dM_learn_52 rfl (lv_at hl 0 rfl) ?_
    refine lv_iload_n hx hb dM_learn_53 rfl (lv_at hl 1 rfl) ?_
    refine dw_callv (wc := [(m0, .inr (5, [.int (ft), .int (vl), .ref aMd, .ref aO1, .ref aT2, .int (rs), .ref aSh, .ref aMk, .ref aFa, .ref aDe, .ref aNe, .ref aBy, .ref aPi, .int (pd), .ref aNw, .ref aNs, .ref aBf, .int (rn), .int (rr)])), (aO1, .inl (cI, 24, .inl (O1))), (aT2, .inl (cI, 24, .inl (T2))), (aFa, .inl (cI, 768, .inl (Fa)))]) (wr := [(aMd, .inl (cI, 24, .inl (Md)))]) hG [0, 2, 3, 4] [1] rfl rfl (by decide) (by decide) (va_runV (As := [.int (nI (v))]) (rest := []) ⟨hx, hb, hml, hown, hts⟩ (rf_multiply l dC dI cI cZ m0 aMd aO1 aT2 aSh aMk aFa aDe aNe aBy aPi aNw aNs aBf ft vl rs pd rn rr v x y O1 T2 Fa zx ox zy oy H.size hv hxv hyv e1 e2 hfx hfy hax hay) (dc_V 1 hts tw_626 tw_628 tp_M_multiply tw_7 tw_629 rfl rfl (by decide +kernel) ⟨Nat.le_of_ble_eq_true rfl, Nat.le_of_ble_eq_true rfl⟩) (dw_preV (ci := 5) hG [0, 2, 3, 4] [0, 1] rfl rfl (by decide) rfl rfl (q0 := 0) rfl) rfl rfl hl.1 rfl (lv_room (Nat.le_of_ble_eq_true rfl)) dM_learn_54 ⟨Nat.le_refl _, Nat.le_refl _⟩) (fun u H locs hp hG => ?_)
    have hG : dw_G (dC, dI) vwCl [(cI, .int), (cZ, .boolean)] A s.heap s [(aMd, .inl (cI, 24, .inl (Md))), (m0, .inr (5, [.int (ft), .int (vl), .ref aMd, .ref aO1, .ref aT2, .int (rs), .ref aSh, .ref aMk, .ref aFa, .ref aDe, .ref aNe, .ref aBy, .ref aPi, .int (pd), .ref aNw, .ref aNs, .ref aBf, .int (rn), .int (rr)])), (aO1, .inl (cI, 24, .inl (O1))), (aT2, .inl (cI, 24, .inl (T2))), (aFa, .inl (cI, 768, .inl (u)))] H locs := hG
    refine lv_goto (tgt := 312) hx hb dM_learn_57 (by decide) ?_
    subst hQ
    exact dw_vret hx hb hr (dw_perm hG [1, 0, 2, 3, 4] (by decide) rfl rfl) (u) rfl hp dM_learn_312 hlocks
  replace h16 := (nI_eq (a := 2) (b := 1) (by omega) (by omega)).mp h16
  (exfalso; omega)

set_option maxRecDepth 100000 in
set_option maxHeartbeats 4000000 in
theorem rf_learn3 (l : Launch) (dC : Nat → ClassId) (dI : Nat → Nat → Nat) (cI cZ : ClassId) (m0 aMd aO1 aT2 aSh aMk aFa aDe aNe aBy aPi aNw aNs aBf : Nat) (ft vl rs pd rn rr : Int32) (v x y : Nat) (d : Int32) (Md O1 T2 Fa : Nat → Int32) (zx ox zy oy : Int32) (sz : Nat) (hv : v < 24) (em : Md v = nI 3) (hxv : x < v) (e1 : O1 v = nI x) (hfx : db_rep Fa x zx ox) (hax : db_ap zx ox) (hyv : y < v) (e2 : T2 v = nI y) (hfy : db_rep Fa y zy oy) (hay : db_ap zy oy) : Met l yM_learn wsM_learn { frames := 2, cells := 0, slots := 0, locals := 60 } (va_Pc [.ref m0, .int (nI (v))] (dw_pre (dC, dI) vwCl [(m0, .inr (5, [.int (ft), .int (vl), .ref aMd, .ref aO1, .ref aT2, .int (rs), .ref aSh, .ref aMk, .ref aFa, .ref aDe, .ref aNe, .ref aBy, .ref aPi, .int (pd), .ref aNw, .ref aNs, .ref aBf, .int (rn), .int (rr)])), (aMd, .inl (cI, 24, .inl (Md))), (aO1, .inl (cI, 24, .inl (O1))), (aT2, .inl (cI, 24, .inl (T2))), (aFa, .inl (cI, 768, .inl (Fa)))] [(cI, .int), (cZ, .boolean)] sz)) (va_Qv (fun (u : Nat → Int32) => db_out Fa u v ∧ db_rep u v (db_F 3 d zx ox zy oy 0 0).1 (db_F 3 d zx ox zy oy 0 0).2) (fun u t => dw_post (dC, dI) vwCl [(m0, .inr (5, [.int (ft), .int (vl), .ref aMd, .ref aO1, .ref aT2, .int (rs), .ref aSh, .ref aMk, .ref aFa, .ref aDe, .ref aNe, .ref aBy, .ref aPi, .int (pd), .ref aNw, .ref aNs, .ref aBf, .int (rn), .int (rr)])), (aMd, .inl (cI, 24, .inl (Md))), (aO1, .inl (cI, 24, .inl (O1))), (aT2, .inl (cI, 24, .inl (T2))), (aFa, .inl (cI, 768, .inl (u)))] [(cI, .int), (cZ, .boolean)] (va_A [(m0, .inr (5, [.int (ft), .int (vl), .ref aMd, .ref aO1, .ref aT2, .int (rs), .ref aSh, .ref aMk, .ref aFa, .ref aDe, .ref aNe, .ref aBy, .ref aPi, .int (pd), .ref aNw, .ref aNs, .ref aBf, .int (rn), .int (rr)])), (aMd, .inl (cI, 24, .inl (Md))), (aO1, .inl (cI, 24, .inl (O1))), (aT2, .inl (cI, 24, .inl (T2))), (aFa, .inl (cI, 768, .inl (Fa)))] sz) t) (va_A [(m0, .inr (5, [.int (ft), .int (vl), .ref aMd, .ref aO1, .ref aT2, .int (rs), .ref aSh, .ref aMk, .ref aFa, .ref aDe, .ref aNe, .ref aBy, .ref aPi, .int (pd), .ref aNw, .ref aNs, .ref aBf, .int (rn), .int (rr)])), (aMd, .inl (cI, 24, .inl (Md))), (aO1, .inl (cI, 24, .inl (O1))), (aT2, .inl (cI, 24, .inl (T2))), (aFa, .inl (cI, 768, .inl (Fa)))] sz)) 0 0 (va_A [(m0, .inr (5, [.int (ft), .int (vl), .ref aMd, .ref aO1, .ref aT2, .int (rs), .ref aSh, .ref aMk, .ref aFa, .ref aDe, .ref aNe, .ref aBy, .ref aPi, .int (pd), .ref aNw, .ref aNs, .ref aBf, .int (rn), .int (rr)])), (aMd, .inl (cI, 24, .inl (Md))), (aO1, .inl (cI, 24, .inl (O1))), (aT2, .inl (cI, 24, .inl (T2))), (aFa, .inl (cI, 768, .inl (Fa)))] sz) := by
  refine Met.ofW (cc := cM_learn) (maxL := 6) (ret := none) (by decide) rfl ?_
  intro p e s m args below meth c s₁ B hml hv0
  have hx := B.exec
  have hb := B.bytes
  have hr := B.returns
  have hts := atoms_spec (ws := wsM_learn) B.pre
  have hown : s.vm.findClass RM = some m.cls := findClass_of_methodNamed B.named
  have hlocks := B.notSynchronized
  obtain ⟨rfl, hsz, hG⟩ := dw_enter hv0
  generalize va_A [(m0, .inr (5, [.int (ft), .int (vl), .ref aMd, .ref aO1, .ref aT2, .int (rs), .ref aSh, .ref aMk, .ref aFa, .ref aDe, .ref aNe, .ref aBy, .ref aPi, .int (pd), .ref aNw, .ref aNs, .ref aBf, .int (rn), .int (rr)])), (aMd, .inl (cI, 24, .inl (Md))), (aO1, .inl (cI, 24, .inl (O1))), (aT2, .inl (cI, 24, .inl (T2))), (aFa, .inl (cI, 768, .inl (Fa)))] sz = A at hG ⊢
  have hl := lv_entry ([.ref m0, .int (nI (v))]) (n := 6) (Nat.le_of_ble_eq_true rfl)
  rw [lg_entry_eq]
  generalize (lg_sl ([.ref m0, .int (nI (v))]) ++ List.replicate (6 - (lg_sl ([.ref m0, .int (nI (v))])).length) Slot.unset).toArray = ls at hl ⊢
  have hl : lv_has ls 6 [(0, .ref m0), (1, .int (nI (v)))] := hl
  have hw496 := hts _ (List.mem_cons_of_mem _ tw_496)
  have hw502 := hts _ (List.mem_cons_of_mem _ tw_502)
  have hw497 := hts _ (List.mem_cons_of_mem _ tw_497)
  have hw498 := hts _ (List.mem_cons_of_mem _ tw_498)
  refine dw_Q (fun Q hQ => ?_)
  suffices hgo : ∀ (H : Heap) (locs : List Loc), dw_G (dC, dI) vwCl [(cI, .int), (cZ, .boolean)] A s.heap s [(m0, .inr (5, [.int (ft), .int (vl), .ref aMd, .ref aO1, .ref aT2, .int (rs), .ref aSh, .ref aMk, .ref aFa, .ref aDe, .ref aNe, .ref aBy, .ref aPi, .int (pd), .ref aNw, .ref aNs, .ref aBf, .int (rn), .int (rr)])), (aMd, .inl (cI, 24, .inl (Md))), (aO1, .inl (cI, 24, .inl (O1))), (aT2, .inl (cI, 24, .inl (T2))), (aFa, .inl (cI, 768, .inl (Fa)))] H locs → W p l e (headSpec wsM_learn { frames := 2, cells := 0, slots := 0, locals := 60 }).room s m [.ref m0, .int (nI (v))].toArray below meth c H locs 0 0 Q (F0 m 0 ls []) from hgo _ _ hG
  clear hG
  intro H locs hG
  refine lv_aload_n hx hb dM_learn_0 rfl (lv_at hl 0 rfl) ?_
  refine dw_get hx hb hts inMc hown hG 0 2 rfl rfl (by decide) hw496 rfl rfl dM_learn_1 ?_
  refine lv_iload_n hx hb dM_learn_4 rfl (lv_at hl 1 rfl) ?_
  refine dw_ia (x := 3) hx hb hG 1 0 rfl rfl (v) rfl (by omega) (by decide) em dM_learn_5 ?_
  refine lv_if_eq (tgt := 19) hx hb dM_learn_6 (by decide) (fun h6 => ?_) (fun h6 => ?_)
  · skip
    replace h6 := (nI_eq (a := 3) (b := 0) (by omega) (by omega)).mp h6
    (exfalso; omega)
  replace h6 : ¬ 3 = 0 := fun q => h6 ((nI_eq (a := 3) (b := 0) (by omega) (by omega)).mpr q)
  refine lv_aload_n hx hb dM_learn_9 rfl (lv_at hl 0 rfl) ?_
  refine dw_get hx hb hts inMc hown hG 0 2 rfl rfl (by decide) hw496 rfl rfl dM_learn_10 ?_
  refine lv_iload_n hx hb dM_learn_13 rfl (lv_at hl 1 rfl) ?_
  refine dw_ia (x := 3) hx hb hG 1 0 rfl rfl (v) rfl (by omega) (by decide) em dM_learn_14 ?_
  refine lv_iconst (v := 1) hx hb dM_learn_15 (by decide) ?_
  refine lv_icmp_ne (tgt := 42) hx hb dM_learn_16 (by decide) (fun h16 => ?_) (fun h16 => ?_)
  · skip
    replace h16 : ¬ 3 = 1 := fun q => h16 ((nI_eq (a := 3) (b := 1) (by omega) (by omega)).mpr q)
    refine lv_aload_n hx hb dM_learn_42 rfl (lv_at hl 0 rfl) ?_
    refine dw_get hx hb hts inMc hown hG 0 2 rfl rfl (by decide) hw496 rfl rfl dM_learn_43 ?_
    refine lv_iload_n hx hb dM_learn_46 rfl (lv_at hl 1 rfl) ?_
    refine dw_ia (x := 3) hx hb hG 1 0 rfl rfl (v) rfl (by omega) (by decide) em dM_learn_47 ?_
    refine lv_iconst (v := 2) hx hb dM_learn_48 (by decide) ?_
    refine lv_icmp_ne (tgt := 60) hx hb dM_learn_49 (by decide) (fun h49 => ?_) (fun h49 => ?_)
    · skip
      replace h49 : ¬ 3 = 2 := fun q => h49 ((nI_eq (a := 3) (b := 2) (by omega) (by omega)).mpr q)
      refine lv_iconst (v := 0) hx hb dM_learn_60 (by decide) ?_
      refine lv_istore_n (lv' := [(2, .int (0)), (0, .ref m0), (1, .int (nI (v)))]) hx hb dM_learn_61 rfl hl (by decide) rfl (fun ls hl => ?_)
      have L62 : ∀ (zz : Nat) (k : Nat) (G : Nat → Int32) (ls : Array Slot) (H : Heap) (locs : List Loc), 32 - k < zz → k ≤ 32 → db_out Fa G v → db_part G v k (db_F 3 d zx ox zy oy 0 0).1 (db_F 3 d zx ox zy oy 0 0).2 → lv_has ls 6 [(0, .ref m0), (1, .int (nI (v))), (2, .int (nI (k)))] → dw_G (dC, dI) vwCl [(cI, .int), (cZ, .boolean)] A s.heap s [(m0, .inr (5, [.int (ft), .int (vl), .ref aMd, .ref aO1, .ref aT2, .int (rs), .ref aSh, .ref aMk, .ref aFa, .ref aDe, .ref aNe, .ref aBy, .ref aPi, .int (pd), .ref aNw, .ref aNs, .ref aBf, .int (rn), .int (rr)])), (aMd, .inl (cI, 24, .inl (Md))), (aO1, .inl (cI, 24, .inl (O1))), (aT2, .inl (cI, 24, .inl (T2))), (aFa, .inl (cI, 768, .inl (G)))] H locs → W p l e (headSpec wsM_learn { frames := 2, cells := 0, slots := 0, locals := 60 }).room s m [.ref m0, .int (nI (v))].toArray below meth c H locs 0 0 Q (F0 m 62 ls []) := by
        intro zz
        induction zz with
        | zero => intro k G ls H locs hz; exact absurd hz (Nat.not_lt_zero _)
        | succ zz L62_ih =>
          intro k G ls H locs hz hk ho hp9 hl hG
          refine lv_iload_n hx hb dM_learn_62 rfl (lv_at hl 2 rfl) ?_
          refine lv_bipush (v := 32) hx hb dM_learn_63 (by decide) ?_
          refine lv_icmp_ge (tgt := 312) hx hb dM_learn_65 (by decide) (fun h65 => ?_) (fun h65 => ?_)
          · skip
            replace h65 := (nI_leI (a := 32) (b := k) (by omega) (by omega)).mp h65
            subst hQ
            exact dw_vret hx hb hr hG (G) rfl ⟨ho, by rw [show k = 32 by omega] at hp9; exact hp9⟩ dM_learn_312 hlocks
          replace h65 : ¬ 32 ≤ k := fun q => h65 ((nI_leI (a := 32) (b := k) (by omega) (by omega)).mpr q)
          refine lv_aload_n hx hb dM_learn_68 rfl (lv_at hl 0 rfl) ?_
          refine dw_get hx hb hts inMc hown hG 0 2 rfl rfl (by decide) hw496 rfl rfl dM_learn_69 ?_
          refine lv_iload_n hx hb dM_learn_72 rfl (lv_at hl 1 rfl) ?_
          refine dw_ia (x := 3) hx hb hG 1 0 rfl rfl (v) rfl (by omega) (by decide) em dM_learn_73 ?_
          refine lv_iconst (v := 5) hx hb dM_learn_74 (by decide) ?_
          refine lv_icmp_gt (tgt := 97) hx hb dM_learn_75 (by decide) (fun h75 => ?_) (fun h75 => ?_)
          · skip
            replace h75 := (nI_ltI (a := 5) (b := 3) (by omega) (by omega)).mp h75
            (exfalso; omega)
          replace h75 : ¬ 5 < 3 := fun q => h75 ((nI_ltI (a := 5) (b := 3) (by omega) (by omega)).mpr q)
          refine lv_aload_n hx hb dM_learn_78 rfl (lv_at hl 0 rfl) ?_
          refine dw_get hx hb hts inMc hown hG 0 8 rfl rfl (by decide) hw502 rfl rfl dM_learn_79 ?_
          refine lv_bipush (v := 32) hx hb dM_learn_82 (by decide) ?_
          refine lv_aload_n hx hb dM_learn_84 rfl (lv_at hl 0 rfl) ?_
          refine dw_get hx hb hts inMc hown hG 0 3 rfl rfl (by decide) hw497 rfl rfl dM_learn_85 ?_
          refine lv_iload_n hx hb dM_learn_88 rfl (lv_at hl 1 rfl) ?_
          refine dw_ia (x := nI (x)) hx hb hG 2 0 rfl rfl (v) rfl (by omega) (by decide) e1 dM_learn_89 ?_
          refine lv_imul hx hb dM_learn_90 ?_
          refine lv_topi (nm_r (pk_mul (32) (x)) ?_)
          refine lv_iload_n hx hb dM_learn_91 rfl (lv_at hl 2 rfl) ?_
          refine lv_iadd hx hb dM_learn_92 ?_
          refine lv_topi (nm_r (nI_add (32 * (x)) (k)) ?_)
          refine dw_ia (x := db_tri (bt zx k) (bt ox k)) hx hb hG 4 0 rfl rfl (32 * (x) + k) rfl (by omega) (by decide) (by rw [ho _ (by omega)]; exact hfx k (by omega)) dM_learn_93 ?_
          refine lv_goto (tgt := 98) hx hb dM_learn_94 (by decide) ?_
          refine lv_istore_n (lv' := [(3, .int (db_tri (bt zx k) (bt ox k))), (0, .ref m0), (1, .int (nI (v))), (2, .int (nI (k)))]) hx hb dM_learn_98 rfl hl (by decide) rfl (fun ls hl => ?_)
          refine lv_aload_n hx hb dM_learn_99 rfl (lv_at hl 1 rfl) ?_
          refine dw_get hx hb hts inMc hown hG 0 2 rfl rfl (by decide) hw496 rfl rfl dM_learn_100 ?_
          refine lv_iload_n hx hb dM_learn_103 rfl (lv_at hl 2 rfl) ?_
          refine dw_ia (x := 3) hx hb hG 1 0 rfl rfl (v) rfl (by omega) (by decide) em dM_learn_104 ?_
          refine lv_iconst (v := 5) hx hb dM_learn_105 (by decide) ?_
          refine lv_icmp_gt (tgt := 128) hx hb dM_learn_106 (by decide) (fun h106 => ?_) (fun h106 => ?_)
          · skip
            replace h106 := (nI_ltI (a := 5) (b := 3) (by omega) (by omega)).mp h106
            (exfalso; omega)
          replace h106 : ¬ 5 < 3 := fun q => h106 ((nI_ltI (a := 5) (b := 3) (by omega) (by omega)).mpr q)
          refine lv_aload_n hx hb dM_learn_109 rfl (lv_at hl 1 rfl) ?_
          refine dw_get hx hb hts inMc hown hG 0 8 rfl rfl (by decide) hw502 rfl rfl dM_learn_110 ?_
          refine lv_bipush (v := 32) hx hb dM_learn_113 (by decide) ?_
          refine lv_aload_n hx hb dM_learn_115 rfl (lv_at hl 1 rfl) ?_
          refine dw_get hx hb hts inMc hown hG 0 4 rfl rfl (by decide) hw498 rfl rfl dM_learn_116 ?_
          refine lv_iload_n hx hb dM_learn_119 rfl (lv_at hl 2 rfl) ?_
          refine dw_ia (x := nI (y)) hx hb hG 3 0 rfl rfl (v) rfl (by omega) (by decide) e2 dM_learn_120 ?_
          refine lv_imul hx hb dM_learn_121 ?_
          refine lv_topi (nm_r (pk_mul (32) (y)) ?_)
          refine lv_iload_n hx hb dM_learn_122 rfl (lv_at hl 3 rfl) ?_
          refine lv_iadd hx hb dM_learn_123 ?_
          refine lv_topi (nm_r (nI_add (32 * (y)) (k)) ?_)
          refine dw_ia (x := db_tri (bt zy k) (bt oy k)) hx hb hG 4 0 rfl rfl (32 * (y) + k) rfl (by omega) (by decide) (by rw [ho _ (by omega)]; exact hfy k (by omega)) dM_learn_124 ?_
          refine lv_goto (tgt := 129) hx hb dM_learn_125 (by decide) ?_
          refine lv_istore (lv' := [(4, .int (db_tri (bt zy k) (bt oy k))), (3, .int (db_tri (bt zx k) (bt ox k))), (0, .ref m0), (1, .int (nI (v))), (2, .int (nI (k)))]) hx hb dM_learn_129 hl (by decide) rfl (fun ls hl => ?_)
          refine lv_bipush (v := 32) hx hb dM_learn_131 (by decide) ?_
          refine lv_iload_n hx hb dM_learn_133 rfl (lv_at hl 3 rfl) ?_
          refine lv_imul hx hb dM_learn_134 ?_
          refine lv_topi (nm_r (pk_mul (32) (v)) ?_)
          refine lv_iload_n hx hb dM_learn_135 rfl (lv_at hl 4 rfl) ?_
          refine lv_iadd hx hb dM_learn_136 ?_
          refine lv_topi (nm_r (nI_add (32 * (v)) (k)) ?_)
          refine lv_istore (lv' := [(5, .int (nI (32 * (v) + k))), (4, .int (db_tri (bt zy k) (bt oy k))), (3, .int (db_tri (bt zx k) (bt ox k))), (0, .ref m0), (1, .int (nI (v))), (2, .int (nI (k)))]) hx hb dM_learn_137 hl (by decide) rfl (fun ls hl => ?_)
          refine lv_aload_n hx hb dM_learn_139 rfl (lv_at hl 3 rfl) ?_
          refine dw_get hx hb hts inMc hown hG 0 2 rfl rfl (by decide) hw496 rfl rfl dM_learn_140 ?_
          refine lv_iload_n hx hb dM_learn_143 rfl (lv_at hl 4 rfl) ?_
          refine dw_ia (x := 3) hx hb hG 1 0 rfl rfl (v) rfl (by omega) (by decide) em dM_learn_144 ?_
          refine lv_tableIn (tgt := 235) hx hb dM_learn_145 (by decide) (by decide) rfl (by decide) ?_
          refine lv_aload_n hx hb dM_learn_235 rfl (lv_at hl 3 rfl) ?_
          refine dw_get hx hb hts inMc hown hG 0 8 rfl rfl (by decide) hw502 rfl rfl dM_learn_236 ?_
          refine lv_iload hx hb dM_learn_239 (lv_at hl 0 rfl) ?_
          refine lv_iload_n hx hb dM_learn_241 rfl (lv_at hl 2 rfl) ?_
          refine lv_iload hx hb dM_learn_242 (lv_at hl 1 rfl) ?_
          refine dw_calli (wc := []) (wr := [(m0, .inr (5, [.int (ft), .int (vl), .ref aMd, .ref aO1, .ref aT2, .int (rs), .ref aSh, .ref aMk, .ref aFa, .ref aDe, .ref aNe, .ref aBy, .ref aPi, .int (pd), .ref aNw, .ref aNs, .ref aBf, .int (rn), .int (rr)])), (aMd, .inl (cI, 24, .inl (Md))), (aO1, .inl (cI, 24, .inl (O1))), (aT2, .inl (cI, 24, .inl (T2))), (aFa, .inl (cI, 768, .inl (G)))]) hG [] [0, 1, 2, 3, 4] rfl rfl (by decide) (by decide) (va_runS (As := [.int (db_tri (bt zx k) (bt ox k)), .int (db_tri (bt zy k) (bt oy k))]) (rest := [.int (nI (32 * (v) + k)), .ref aFa]) ⟨hx, hb, hml, hown, hts⟩ (rf_and l dC dI cI cZ (db_tri (bt zx k) (bt ox k)) (db_tri (bt zy k) (bt oy k)) H.size ) (dc_S 2 hts tw_633 tw_634 tw_7 tw_635 rfl rfl (by decide +kernel) ⟨Nat.le_of_ble_eq_true rfl, Nat.le_of_ble_eq_true rfl⟩) (dw_preS hG [] [0, 1] rfl rfl (by decide) rfl) rfl rfl hl.1 rfl (lv_room (Nat.le_of_ble_eq_true rfl)) dM_learn_244 ⟨Nat.le_refl _, Nat.le_refl _⟩) (fun r u H locs hp hG => ?_)
          subst hp
          have hG : dw_G (dC, dI) vwCl [(cI, .int), (cZ, .boolean)] A s.heap s [(m0, .inr (5, [.int (ft), .int (vl), .ref aMd, .ref aO1, .ref aT2, .int (rs), .ref aSh, .ref aMk, .ref aFa, .ref aDe, .ref aNe, .ref aBy, .ref aPi, .int (pd), .ref aNw, .ref aNs, .ref aBf, .int (rn), .int (rr)])), (aMd, .inl (cI, 24, .inl (Md))), (aO1, .inl (cI, 24, .inl (O1))), (aT2, .inl (cI, 24, .inl (T2))), (aFa, .inl (cI, 768, .inl (G)))] H locs := hG
          refine dw_is (ws' := [(m0, .inr (5, [.int (ft), .int (vl), .ref aMd, .ref aO1, .ref aT2, .int (rs), .ref aSh, .ref aMk, .ref aFa, .ref aDe, .ref aNe, .ref aBy, .ref aPi, .int (pd), .ref aNw, .ref aNs, .ref aBf, .int (rn), .int (rr)])), (aMd, .inl (cI, 24, .inl (Md))), (aO1, .inl (cI, 24, .inl (O1))), (aT2, .inl (cI, 24, .inl (T2))), (aFa, .inl (cI, 768, .inl (upd (G) (32 * (v) + k) (db_and3 (db_tri (bt zx k) (bt ox k)) (db_tri (bt zy k) (bt oy k))))))]) hx hb hG 4 0 rfl rfl (32 * (v) + k) rfl (by omega) (by decide) dM_learn_247 rfl (fun H locs hG => ?_)
          refine lv_goto (tgt := 306) hx hb dM_learn_248 (by decide) ?_
          refine lv_iinc (v := nI (k + 1)) (lv' := [(2, .int (nI (k + 1))), (5, .int (nI (32 * (v) + k))), (4, .int (db_tri (bt zy k) (bt oy k))), (3, .int (db_tri (bt zx k) (bt ox k))), (0, .ref m0), (1, .int (nI (v)))]) hx hb dM_learn_306 hl (k := 5) rfl (dw_inc (k)) (by decide) rfl (fun ls hl => ?_)
          refine lv_goto (tgt := 62) hx hb dM_learn_309 (by decide) ?_
          exact L62_ih (k + 1) (upd (G) (32 * (v) + k) (db_and3 (db_tri (bt zx k) (bt ox k)) (db_tri (bt zy k) (bt oy k)))) ls H locs (by omega) (by omega) (db_out_upd _ ho (by omega)) (db_part_s hp9 (by rw [db_and_tri _ _ _ _ (hax k (by omega)) (hay k (by omega))]; show _ = db_tri (bt (zx ||| zy) k) (bt (ox &&& oy) k); rw [b_or, b_and])) (lv_sub hl [4, 5, 0] rfl) hG
      exact L62 _ (0) (Fa) ls H locs (Nat.lt_succ_self _) (by omega) (db_out_rfl _ _) (db_part0 _ _ _ _) (lv_sub hl [1, 2, 0] rfl) hG
    replace h49 := (nI_eq (a := 3) (b := 2) (by omega) (by omega)).mp h49
    (exfalso; omega)
  replace h16 := (nI_eq (a := 3) (b := 1) (by omega) (by omega)).mp h16
  (exfalso; omega)

set_option maxRecDepth 100000 in
set_option maxHeartbeats 4000000 in
theorem rf_learn4 (l : Launch) (dC : Nat → ClassId) (dI : Nat → Nat → Nat) (cI cZ : ClassId) (m0 aMd aO1 aT2 aSh aMk aFa aDe aNe aBy aPi aNw aNs aBf : Nat) (ft vl rs pd rn rr : Int32) (v x y : Nat) (d : Int32) (Md O1 T2 Fa : Nat → Int32) (zx ox zy oy : Int32) (sz : Nat) (hv : v < 24) (em : Md v = nI 4) (hxv : x < v) (e1 : O1 v = nI x) (hfx : db_rep Fa x zx ox) (hax : db_ap zx ox) (hyv : y < v) (e2 : T2 v = nI y) (hfy : db_rep Fa y zy oy) (hay : db_ap zy oy) : Met l yM_learn wsM_learn { frames := 2, cells := 0, slots := 0, locals := 60 } (va_Pc [.ref m0, .int (nI (v))] (dw_pre (dC, dI) vwCl [(m0, .inr (5, [.int (ft), .int (vl), .ref aMd, .ref aO1, .ref aT2, .int (rs), .ref aSh, .ref aMk, .ref aFa, .ref aDe, .ref aNe, .ref aBy, .ref aPi, .int (pd), .ref aNw, .ref aNs, .ref aBf, .int (rn), .int (rr)])), (aMd, .inl (cI, 24, .inl (Md))), (aO1, .inl (cI, 24, .inl (O1))), (aT2, .inl (cI, 24, .inl (T2))), (aFa, .inl (cI, 768, .inl (Fa)))] [(cI, .int), (cZ, .boolean)] sz)) (va_Qv (fun (u : Nat → Int32) => db_out Fa u v ∧ db_rep u v (db_F 4 d zx ox zy oy 0 0).1 (db_F 4 d zx ox zy oy 0 0).2) (fun u t => dw_post (dC, dI) vwCl [(m0, .inr (5, [.int (ft), .int (vl), .ref aMd, .ref aO1, .ref aT2, .int (rs), .ref aSh, .ref aMk, .ref aFa, .ref aDe, .ref aNe, .ref aBy, .ref aPi, .int (pd), .ref aNw, .ref aNs, .ref aBf, .int (rn), .int (rr)])), (aMd, .inl (cI, 24, .inl (Md))), (aO1, .inl (cI, 24, .inl (O1))), (aT2, .inl (cI, 24, .inl (T2))), (aFa, .inl (cI, 768, .inl (u)))] [(cI, .int), (cZ, .boolean)] (va_A [(m0, .inr (5, [.int (ft), .int (vl), .ref aMd, .ref aO1, .ref aT2, .int (rs), .ref aSh, .ref aMk, .ref aFa, .ref aDe, .ref aNe, .ref aBy, .ref aPi, .int (pd), .ref aNw, .ref aNs, .ref aBf, .int (rn), .int (rr)])), (aMd, .inl (cI, 24, .inl (Md))), (aO1, .inl (cI, 24, .inl (O1))), (aT2, .inl (cI, 24, .inl (T2))), (aFa, .inl (cI, 768, .inl (Fa)))] sz) t) (va_A [(m0, .inr (5, [.int (ft), .int (vl), .ref aMd, .ref aO1, .ref aT2, .int (rs), .ref aSh, .ref aMk, .ref aFa, .ref aDe, .ref aNe, .ref aBy, .ref aPi, .int (pd), .ref aNw, .ref aNs, .ref aBf, .int (rn), .int (rr)])), (aMd, .inl (cI, 24, .inl (Md))), (aO1, .inl (cI, 24, .inl (O1))), (aT2, .inl (cI, 24, .inl (T2))), (aFa, .inl (cI, 768, .inl (Fa)))] sz)) 0 0 (va_A [(m0, .inr (5, [.int (ft), .int (vl), .ref aMd, .ref aO1, .ref aT2, .int (rs), .ref aSh, .ref aMk, .ref aFa, .ref aDe, .ref aNe, .ref aBy, .ref aPi, .int (pd), .ref aNw, .ref aNs, .ref aBf, .int (rn), .int (rr)])), (aMd, .inl (cI, 24, .inl (Md))), (aO1, .inl (cI, 24, .inl (O1))), (aT2, .inl (cI, 24, .inl (T2))), (aFa, .inl (cI, 768, .inl (Fa)))] sz) := by
  refine Met.ofW (cc := cM_learn) (maxL := 6) (ret := none) (by decide) rfl ?_
  intro p e s m args below meth c s₁ B hml hv0
  have hx := B.exec
  have hb := B.bytes
  have hr := B.returns
  have hts := atoms_spec (ws := wsM_learn) B.pre
  have hown : s.vm.findClass RM = some m.cls := findClass_of_methodNamed B.named
  have hlocks := B.notSynchronized
  obtain ⟨rfl, hsz, hG⟩ := dw_enter hv0
  generalize va_A [(m0, .inr (5, [.int (ft), .int (vl), .ref aMd, .ref aO1, .ref aT2, .int (rs), .ref aSh, .ref aMk, .ref aFa, .ref aDe, .ref aNe, .ref aBy, .ref aPi, .int (pd), .ref aNw, .ref aNs, .ref aBf, .int (rn), .int (rr)])), (aMd, .inl (cI, 24, .inl (Md))), (aO1, .inl (cI, 24, .inl (O1))), (aT2, .inl (cI, 24, .inl (T2))), (aFa, .inl (cI, 768, .inl (Fa)))] sz = A at hG ⊢
  have hl := lv_entry ([.ref m0, .int (nI (v))]) (n := 6) (Nat.le_of_ble_eq_true rfl)
  rw [lg_entry_eq]
  generalize (lg_sl ([.ref m0, .int (nI (v))]) ++ List.replicate (6 - (lg_sl ([.ref m0, .int (nI (v))])).length) Slot.unset).toArray = ls at hl ⊢
  have hl : lv_has ls 6 [(0, .ref m0), (1, .int (nI (v)))] := hl
  have hw496 := hts _ (List.mem_cons_of_mem _ tw_496)
  have hw502 := hts _ (List.mem_cons_of_mem _ tw_502)
  have hw497 := hts _ (List.mem_cons_of_mem _ tw_497)
  have hw498 := hts _ (List.mem_cons_of_mem _ tw_498)
  refine dw_Q (fun Q hQ => ?_)
  suffices hgo : ∀ (H : Heap) (locs : List Loc), dw_G (dC, dI) vwCl [(cI, .int), (cZ, .boolean)] A s.heap s [(m0, .inr (5, [.int (ft), .int (vl), .ref aMd, .ref aO1, .ref aT2, .int (rs), .ref aSh, .ref aMk, .ref aFa, .ref aDe, .ref aNe, .ref aBy, .ref aPi, .int (pd), .ref aNw, .ref aNs, .ref aBf, .int (rn), .int (rr)])), (aMd, .inl (cI, 24, .inl (Md))), (aO1, .inl (cI, 24, .inl (O1))), (aT2, .inl (cI, 24, .inl (T2))), (aFa, .inl (cI, 768, .inl (Fa)))] H locs → W p l e (headSpec wsM_learn { frames := 2, cells := 0, slots := 0, locals := 60 }).room s m [.ref m0, .int (nI (v))].toArray below meth c H locs 0 0 Q (F0 m 0 ls []) from hgo _ _ hG
  clear hG
  intro H locs hG
  refine lv_aload_n hx hb dM_learn_0 rfl (lv_at hl 0 rfl) ?_
  refine dw_get hx hb hts inMc hown hG 0 2 rfl rfl (by decide) hw496 rfl rfl dM_learn_1 ?_
  refine lv_iload_n hx hb dM_learn_4 rfl (lv_at hl 1 rfl) ?_
  refine dw_ia (x := 4) hx hb hG 1 0 rfl rfl (v) rfl (by omega) (by decide) em dM_learn_5 ?_
  refine lv_if_eq (tgt := 19) hx hb dM_learn_6 (by decide) (fun h6 => ?_) (fun h6 => ?_)
  · skip
    replace h6 := (nI_eq (a := 4) (b := 0) (by omega) (by omega)).mp h6
    (exfalso; omega)
  replace h6 : ¬ 4 = 0 := fun q => h6 ((nI_eq (a := 4) (b := 0) (by omega) (by omega)).mpr q)
  refine lv_aload_n hx hb dM_learn_9 rfl (lv_at hl 0 rfl) ?_
  refine dw_get hx hb hts inMc hown hG 0 2 rfl rfl (by decide) hw496 rfl rfl dM_learn_10 ?_
  refine lv_iload_n hx hb dM_learn_13 rfl (lv_at hl 1 rfl) ?_
  refine dw_ia (x := 4) hx hb hG 1 0 rfl rfl (v) rfl (by omega) (by decide) em dM_learn_14 ?_
  refine lv_iconst (v := 1) hx hb dM_learn_15 (by decide) ?_
  refine lv_icmp_ne (tgt := 42) hx hb dM_learn_16 (by decide) (fun h16 => ?_) (fun h16 => ?_)
  · skip
    replace h16 : ¬ 4 = 1 := fun q => h16 ((nI_eq (a := 4) (b := 1) (by omega) (by omega)).mpr q)
    refine lv_aload_n hx hb dM_learn_42 rfl (lv_at hl 0 rfl) ?_
    refine dw_get hx hb hts inMc hown hG 0 2 rfl rfl (by decide) hw496 rfl rfl dM_learn_43 ?_
    refine lv_iload_n hx hb dM_learn_46 rfl (lv_at hl 1 rfl) ?_
    refine dw_ia (x := 4) hx hb hG 1 0 rfl rfl (v) rfl (by omega) (by decide) em dM_learn_47 ?_
    refine lv_iconst (v := 2) hx hb dM_learn_48 (by decide) ?_
    refine lv_icmp_ne (tgt := 60) hx hb dM_learn_49 (by decide) (fun h49 => ?_) (fun h49 => ?_)
    · skip
      replace h49 : ¬ 4 = 2 := fun q => h49 ((nI_eq (a := 4) (b := 2) (by omega) (by omega)).mpr q)
      refine lv_iconst (v := 0) hx hb dM_learn_60 (by decide) ?_
      refine lv_istore_n (lv' := [(2, .int (0)), (0, .ref m0), (1, .int (nI (v)))]) hx hb dM_learn_61 rfl hl (by decide) rfl (fun ls hl => ?_)
      have L62 : ∀ (zz : Nat) (k : Nat) (G : Nat → Int32) (ls : Array Slot) (H : Heap) (locs : List Loc), 32 - k < zz → k ≤ 32 → db_out Fa G v → db_part G v k (db_F 4 d zx ox zy oy 0 0).1 (db_F 4 d zx ox zy oy 0 0).2 → lv_has ls 6 [(0, .ref m0), (1, .int (nI (v))), (2, .int (nI (k)))] → dw_G (dC, dI) vwCl [(cI, .int), (cZ, .boolean)] A s.heap s [(m0, .inr (5, [.int (ft), .int (vl), .ref aMd, .ref aO1, .ref aT2, .int (rs), .ref aSh, .ref aMk, .ref aFa, .ref aDe, .ref aNe, .ref aBy, .ref aPi, .int (pd), .ref aNw, .ref aNs, .ref aBf, .int (rn), .int (rr)])), (aMd, .inl (cI, 24, .inl (Md))), (aO1, .inl (cI, 24, .inl (O1))), (aT2, .inl (cI, 24, .inl (T2))), (aFa, .inl (cI, 768, .inl (G)))] H locs → W p l e (headSpec wsM_learn { frames := 2, cells := 0, slots := 0, locals := 60 }).room s m [.ref m0, .int (nI (v))].toArray below meth c H locs 0 0 Q (F0 m 62 ls []) := by
        intro zz
        induction zz with
        | zero => intro k G ls H locs hz; exact absurd hz (Nat.not_lt_zero _)
        | succ zz L62_ih =>
          intro k G ls H locs hz hk ho hp9 hl hG
          refine lv_iload_n hx hb dM_learn_62 rfl (lv_at hl 2 rfl) ?_
          refine lv_bipush (v := 32) hx hb dM_learn_63 (by decide) ?_
          refine lv_icmp_ge (tgt := 312) hx hb dM_learn_65 (by decide) (fun h65 => ?_) (fun h65 => ?_)
          · skip
            replace h65 := (nI_leI (a := 32) (b := k) (by omega) (by omega)).mp h65
            subst hQ
            exact dw_vret hx hb hr hG (G) rfl ⟨ho, by rw [show k = 32 by omega] at hp9; exact hp9⟩ dM_learn_312 hlocks
          replace h65 : ¬ 32 ≤ k := fun q => h65 ((nI_leI (a := 32) (b := k) (by omega) (by omega)).mpr q)
          refine lv_aload_n hx hb dM_learn_68 rfl (lv_at hl 0 rfl) ?_
          refine dw_get hx hb hts inMc hown hG 0 2 rfl rfl (by decide) hw496 rfl rfl dM_learn_69 ?_
          refine lv_iload_n hx hb dM_learn_72 rfl (lv_at hl 1 rfl) ?_
          refine dw_ia (x := 4) hx hb hG 1 0 rfl rfl (v) rfl (by omega) (by decide) em dM_learn_73 ?_
          refine lv_iconst (v := 5) hx hb dM_learn_74 (by decide) ?_
          refine lv_icmp_gt (tgt := 97) hx hb dM_learn_75 (by decide) (fun h75 => ?_) (fun h75 => ?_)
          · skip
            replace h75 := (nI_ltI (a := 5) (b := 4) (by omega) (by omega)).mp h75
            (exfalso; omega)
          replace h75 : ¬ 5 < 4 := fun q => h75 ((nI_ltI (a := 5) (b := 4) (by omega) (by omega)).mpr q)
          refine lv_aload_n hx hb dM_learn_78 rfl (lv_at hl 0 rfl) ?_
          refine dw_get hx hb hts inMc hown hG 0 8 rfl rfl (by decide) hw502 rfl rfl dM_learn_79 ?_
          refine lv_bipush (v := 32) hx hb dM_learn_82 (by decide) ?_
          refine lv_aload_n hx hb dM_learn_84 rfl (lv_at hl 0 rfl) ?_
          refine dw_get hx hb hts inMc hown hG 0 3 rfl rfl (by decide) hw497 rfl rfl dM_learn_85 ?_
          refine lv_iload_n hx hb dM_learn_88 rfl (lv_at hl 1 rfl) ?_
          refine dw_ia (x := nI (x)) hx hb hG 2 0 rfl rfl (v) rfl (by omega) (by decide) e1 dM_learn_89 ?_
          refine lv_imul hx hb dM_learn_90 ?_
          refine lv_topi (nm_r (pk_mul (32) (x)) ?_)
          refine lv_iload_n hx hb dM_learn_91 rfl (lv_at hl 2 rfl) ?_
          refine lv_iadd hx hb dM_learn_92 ?_
          refine lv_topi (nm_r (nI_add (32 * (x)) (k)) ?_)
          refine dw_ia (x := db_tri (bt zx k) (bt ox k)) hx hb hG 4 0 rfl rfl (32 * (x) + k) rfl (by omega) (by decide) (by rw [ho _ (by omega)]; exact hfx k (by omega)) dM_learn_93 ?_
          refine lv_goto (tgt := 98) hx hb dM_learn_94 (by decide) ?_
          refine lv_istore_n (lv' := [(3, .int (db_tri (bt zx k) (bt ox k))), (0, .ref m0), (1, .int (nI (v))), (2, .int (nI (k)))]) hx hb dM_learn_98 rfl hl (by decide) rfl (fun ls hl => ?_)
          refine lv_aload_n hx hb dM_learn_99 rfl (lv_at hl 1 rfl) ?_
          refine dw_get hx hb hts inMc hown hG 0 2 rfl rfl (by decide) hw496 rfl rfl dM_learn_100 ?_
          refine lv_iload_n hx hb dM_learn_103 rfl (lv_at hl 2 rfl) ?_
          refine dw_ia (x := 4) hx hb hG 1 0 rfl rfl (v) rfl (by omega) (by decide) em dM_learn_104 ?_
          refine lv_iconst (v := 5) hx hb dM_learn_105 (by decide) ?_
          refine lv_icmp_gt (tgt := 128) hx hb dM_learn_106 (by decide) (fun h106 => ?_) (fun h106 => ?_)
          · skip
            replace h106 := (nI_ltI (a := 5) (b := 4) (by omega) (by omega)).mp h106
            (exfalso; omega)
          replace h106 : ¬ 5 < 4 := fun q => h106 ((nI_ltI (a := 5) (b := 4) (by omega) (by omega)).mpr q)
          refine lv_aload_n hx hb dM_learn_109 rfl (lv_at hl 1 rfl) ?_
          refine dw_get hx hb hts inMc hown hG 0 8 rfl rfl (by decide) hw502 rfl rfl dM_learn_110 ?_
          refine lv_bipush (v := 32) hx hb dM_learn_113 (by decide) ?_
          refine lv_aload_n hx hb dM_learn_115 rfl (lv_at hl 1 rfl) ?_
          refine dw_get hx hb hts inMc hown hG 0 4 rfl rfl (by decide) hw498 rfl rfl dM_learn_116 ?_
          refine lv_iload_n hx hb dM_learn_119 rfl (lv_at hl 2 rfl) ?_
          refine dw_ia (x := nI (y)) hx hb hG 3 0 rfl rfl (v) rfl (by omega) (by decide) e2 dM_learn_120 ?_
          refine lv_imul hx hb dM_learn_121 ?_
          refine lv_topi (nm_r (pk_mul (32) (y)) ?_)
          refine lv_iload_n hx hb dM_learn_122 rfl (lv_at hl 3 rfl) ?_
          refine lv_iadd hx hb dM_learn_123 ?_
          refine lv_topi (nm_r (nI_add (32 * (y)) (k)) ?_)
          refine dw_ia (x := db_tri (bt zy k) (bt oy k)) hx hb hG 4 0 rfl rfl (32 * (y) + k) rfl (by omega) (by decide) (by rw [ho _ (by omega)]; exact hfy k (by omega)) dM_learn_124 ?_
          refine lv_goto (tgt := 129) hx hb dM_learn_125 (by decide) ?_
          refine lv_istore (lv' := [(4, .int (db_tri (bt zy k) (bt oy k))), (3, .int (db_tri (bt zx k) (bt ox k))), (0, .ref m0), (1, .int (nI (v))), (2, .int (nI (k)))]) hx hb dM_learn_129 hl (by decide) rfl (fun ls hl => ?_)
          refine lv_bipush (v := 32) hx hb dM_learn_131 (by decide) ?_
          refine lv_iload_n hx hb dM_learn_133 rfl (lv_at hl 3 rfl) ?_
          refine lv_imul hx hb dM_learn_134 ?_
          refine lv_topi (nm_r (pk_mul (32) (v)) ?_)
          refine lv_iload_n hx hb dM_learn_135 rfl (lv_at hl 4 rfl) ?_
          refine lv_iadd hx hb dM_learn_136 ?_
          refine lv_topi (nm_r (nI_add (32 * (v)) (k)) ?_)
          refine lv_istore (lv' := [(5, .int (nI (32 * (v) + k))), (4, .int (db_tri (bt zy k) (bt oy k))), (3, .int (db_tri (bt zx k) (bt ox k))), (0, .ref m0), (1, .int (nI (v))), (2, .int (nI (k)))]) hx hb dM_learn_137 hl (by decide) rfl (fun ls hl => ?_)
          refine lv_aload_n hx hb dM_learn_139 rfl (lv_at hl 3 rfl) ?_
          refine dw_get hx hb hts inMc hown hG 0 2 rfl rfl (by decide) hw496 rfl rfl dM_learn_140 ?_
          refine lv_iload_n hx hb dM_learn_143 rfl (lv_at hl 4 rfl) ?_
          refine dw_ia (x := 4) hx hb hG 1 0 rfl rfl (v) rfl (by omega) (by decide) em dM_learn_144 ?_
          refine lv_tableIn (tgt := 251) hx hb dM_learn_145 (by decide) (by decide) rfl (by decide) ?_
          refine lv_aload_n hx hb dM_learn_251 rfl (lv_at hl 3 rfl) ?_
          refine dw_get hx hb hts inMc hown hG 0 8 rfl rfl (by decide) hw502 rfl rfl dM_learn_252 ?_
          refine lv_iload hx hb dM_learn_255 (lv_at hl 0 rfl) ?_
          refine lv_iload_n hx hb dM_learn_257 rfl (lv_at hl 2 rfl) ?_
          refine dw_calli (wc := []) (wr := [(m0, .inr (5, [.int (ft), .int (vl), .ref aMd, .ref aO1, .ref aT2, .int (rs), .ref aSh, .ref aMk, .ref aFa, .ref aDe, .ref aNe, .ref aBy, .ref aPi, .int (pd), .ref aNw, .ref aNs, .ref aBf, .int (rn), .int (rr)])), (aMd, .inl (cI, 24, .inl (Md))), (aO1, .inl (cI, 24, .inl (O1))), (aT2, .inl (cI, 24, .inl (T2))), (aFa, .inl (cI, 768, .inl (G)))]) hG [] [0, 1, 2, 3, 4] rfl rfl (by decide) (by decide) (va_runS (As := [.int (db_tri (bt zx k) (bt ox k))]) (rest := [.int (nI (32 * (v) + k)), .ref aFa]) ⟨hx, hb, hml, hown, hts⟩ (rf_turned l dC dI cI cZ (db_tri (bt zx k) (bt ox k)) H.size ) (dc_S 1 hts tw_617 tw_618 tw_7 tw_619 rfl rfl (by decide +kernel) ⟨Nat.le_of_ble_eq_true rfl, Nat.le_of_ble_eq_true rfl⟩) (dw_preS hG [] [0, 1] rfl rfl (by decide) rfl) rfl rfl hl.1 rfl (lv_room (Nat.le_of_ble_eq_true rfl)) dM_learn_258 ⟨Nat.le_refl _, Nat.le_refl _⟩) (fun r u H locs hp hG => ?_)
          subst hp
          have hG : dw_G (dC, dI) vwCl [(cI, .int), (cZ, .boolean)] A s.heap s [(m0, .inr (5, [.int (ft), .int (vl), .ref aMd, .ref aO1, .ref aT2, .int (rs), .ref aSh, .ref aMk, .ref aFa, .ref aDe, .ref aNe, .ref aBy, .ref aPi, .int (pd), .ref aNw, .ref aNs, .ref aBf, .int (rn), .int (rr)])), (aMd, .inl (cI, 24, .inl (Md))), (aO1, .inl (cI, 24, .inl (O1))), (aT2, .inl (cI, 24, .inl (T2))), (aFa, .inl (cI, 768, .inl (G)))] H locs := hG
          refine lv_iload hx hb dM_learn_261 (lv_at hl 1 rfl) ?_
          refine dw_calli (wc := []) (wr := [(m0, .inr (5, [.int (ft), .int (vl), .ref aMd, .ref aO1, .ref aT2, .int (rs), .ref aSh, .ref aMk, .ref aFa, .ref aDe, .ref aNe, .ref aBy, .ref aPi, .int (pd), .ref aNw, .ref aNs, .ref aBf, .int (rn), .int (rr)])), (aMd, .inl (cI, 24, .inl (Md))), (aO1, .inl (cI, 24, .inl (O1))), (aT2, .inl (cI, 24, .inl (T2))), (aFa, .inl (cI, 768, .inl (G)))]) hG [] [0, 1, 2, 3, 4] rfl rfl (by decide) (by decide) (va_runS (As := [.int (db_tri (bt zy k) (bt oy k))]) (rest := [.int (db_turn (db_tri (bt zx k) (bt ox k))), .int (nI (32 * (v) + k)), .ref aFa]) ⟨hx, hb, hml, hown, hts⟩ (rf_turned l dC dI cI cZ (db_tri (bt zy k) (bt oy k)) H.size ) (dc_S 1 hts tw_617 tw_618 tw_7 tw_619 rfl rfl (by decide +kernel) ⟨Nat.le_of_ble_eq_true rfl, Nat.le_of_ble_eq_true rfl⟩) (dw_preS hG [] [0, 1] rfl rfl (by decide) rfl) rfl rfl hl.1 rfl (lv_room (Nat.le_of_ble_eq_true rfl)) dM_learn_263 ⟨Nat.le_refl _, Nat.le_refl _⟩) (fun r u H locs hp hG => ?_)
          subst hp
          have hG : dw_G (dC, dI) vwCl [(cI, .int), (cZ, .boolean)] A s.heap s [(m0, .inr (5, [.int (ft), .int (vl), .ref aMd, .ref aO1, .ref aT2, .int (rs), .ref aSh, .ref aMk, .ref aFa, .ref aDe, .ref aNe, .ref aBy, .ref aPi, .int (pd), .ref aNw, .ref aNs, .ref aBf, .int (rn), .int (rr)])), (aMd, .inl (cI, 24, .inl (Md))), (aO1, .inl (cI, 24, .inl (O1))), (aT2, .inl (cI, 24, .inl (T2))), (aFa, .inl (cI, 768, .inl (G)))] H locs := hG
          refine dw_calli (wc := []) (wr := [(m0, .inr (5, [.int (ft), .int (vl), .ref aMd, .ref aO1, .ref aT2, .int (rs), .ref aSh, .ref aMk, .ref aFa, .ref aDe, .ref aNe, .ref aBy, .ref aPi, .int (pd), .ref aNw, .ref aNs, .ref aBf, .int (rn), .int (rr)])), (aMd, .inl (cI, 24, .inl (Md))), (aO1, .inl (cI, 24, .inl (O1))), (aT2, .inl (cI, 24, .inl (T2))), (aFa, .inl (cI, 768, .inl (G)))]) hG [] [0, 1, 2, 3, 4] rfl rfl (by decide) (by decide) (va_runS (As := [.int (db_turn (db_tri (bt zx k) (bt ox k))), .int (db_turn (db_tri (bt zy k) (bt oy k)))]) (rest := [.int (nI (32 * (v) + k)), .ref aFa]) ⟨hx, hb, hml, hown, hts⟩ (rf_and l dC dI cI cZ (db_turn (db_tri (bt zx k) (bt ox k))) (db_turn (db_tri (bt zy k) (bt oy k))) H.size ) (dc_S 2 hts tw_633 tw_634 tw_7 tw_635 rfl rfl (by decide +kernel) ⟨Nat.le_of_ble_eq_true rfl, Nat.le_of_ble_eq_true rfl⟩) (dw_preS hG [] [0, 1] rfl rfl (by decide) rfl) rfl rfl hl.1 rfl (lv_room (Nat.le_of_ble_eq_true rfl)) dM_learn_266 ⟨Nat.le_refl _, Nat.le_refl _⟩) (fun r u H locs hp hG => ?_)
          subst hp
          have hG : dw_G (dC, dI) vwCl [(cI, .int), (cZ, .boolean)] A s.heap s [(m0, .inr (5, [.int (ft), .int (vl), .ref aMd, .ref aO1, .ref aT2, .int (rs), .ref aSh, .ref aMk, .ref aFa, .ref aDe, .ref aNe, .ref aBy, .ref aPi, .int (pd), .ref aNw, .ref aNs, .ref aBf, .int (rn), .int (rr)])), (aMd, .inl (cI, 24, .inl (Md))), (aO1, .inl (cI, 24, .inl (O1))), (aT2, .inl (cI, 24, .inl (T2))), (aFa, .inl (cI, 768, .inl (G)))] H locs := hG
          refine dw_calli (wc := []) (wr := [(m0, .inr (5, [.int (ft), .int (vl), .ref aMd, .ref aO1, .ref aT2, .int (rs), .ref aSh, .ref aMk, .ref aFa, .ref aDe, .ref aNe, .ref aBy, .ref aPi, .int (pd), .ref aNw, .ref aNs, .ref aBf, .int (rn), .int (rr)])), (aMd, .inl (cI, 24, .inl (Md))), (aO1, .inl (cI, 24, .inl (O1))), (aT2, .inl (cI, 24, .inl (T2))), (aFa, .inl (cI, 768, .inl (G)))]) hG [] [0, 1, 2, 3, 4] rfl rfl (by decide) (by decide) (va_runS (As := [.int (db_and3 (db_turn (db_tri (bt zx k) (bt ox k))) (db_turn (db_tri (bt zy k) (bt oy k))))]) (rest := [.int (nI (32 * (v) + k)), .ref aFa]) ⟨hx, hb, hml, hown, hts⟩ (rf_turned l dC dI cI cZ (db_and3 (db_turn (db_tri (bt zx k) (bt ox k))) (db_turn (db_tri (bt zy k) (bt oy k)))) H.size ) (dc_S 1 hts tw_617 tw_618 tw_7 tw_619 rfl rfl (by decide +kernel) ⟨Nat.le_of_ble_eq_true rfl, Nat.le_of_ble_eq_true rfl⟩) (dw_preS hG [] [0, 1] rfl rfl (by decide) rfl) rfl rfl hl.1 rfl (lv_room (Nat.le_of_ble_eq_true rfl)) dM_learn_269 ⟨Nat.le_refl _, Nat.le_refl _⟩) (fun r u H locs hp hG => ?_)
          subst hp
          have hG : dw_G (dC, dI) vwCl [(cI, .int), (cZ, .boolean)] A s.heap s [(m0, .inr (5, [.int (ft), .int (vl), .ref aMd, .ref aO1, .ref aT2, .int (rs), .ref aSh, .ref aMk, .ref aFa, .ref aDe, .ref aNe, .ref aBy, .ref aPi, .int (pd), .ref aNw, .ref aNs, .ref aBf, .int (rn), .int (rr)])), (aMd, .inl (cI, 24, .inl (Md))), (aO1, .inl (cI, 24, .inl (O1))), (aT2, .inl (cI, 24, .inl (T2))), (aFa, .inl (cI, 768, .inl (G)))] H locs := hG
          refine dw_is (ws' := [(m0, .inr (5, [.int (ft), .int (vl), .ref aMd, .ref aO1, .ref aT2, .int (rs), .ref aSh, .ref aMk, .ref aFa, .ref aDe, .ref aNe, .ref aBy, .ref aPi, .int (pd), .ref aNw, .ref aNs, .ref aBf, .int (rn), .int (rr)])), (aMd, .inl (cI, 24, .inl (Md))), (aO1, .inl (cI, 24, .inl (O1))), (aT2, .inl (cI, 24, .inl (T2))), (aFa, .inl (cI, 768, .inl (upd (G) (32 * (v) + k) (db_turn (db_and3 (db_turn (db_tri (bt zx k) (bt ox k))) (db_turn (db_tri (bt zy k) (bt oy k))))))))]) hx hb hG 4 0 rfl rfl (32 * (v) + k) rfl (by omega) (by decide) dM_learn_272 rfl (fun H locs hG => ?_)
          refine lv_goto (tgt := 306) hx hb dM_learn_273 (by decide) ?_
          refine lv_iinc (v := nI (k + 1)) (lv' := [(2, .int (nI (k + 1))), (5, .int (nI (32 * (v) + k))), (4, .int (db_tri (bt zy k) (bt oy k))), (3, .int (db_tri (bt zx k) (bt ox k))), (0, .ref m0), (1, .int (nI (v)))]) hx hb dM_learn_306 hl (k := 5) rfl (dw_inc (k)) (by decide) rfl (fun ls hl => ?_)
          refine lv_goto (tgt := 62) hx hb dM_learn_309 (by decide) ?_
          exact L62_ih (k + 1) (upd (G) (32 * (v) + k) (db_turn (db_and3 (db_turn (db_tri (bt zx k) (bt ox k))) (db_turn (db_tri (bt zy k) (bt oy k)))))) ls H locs (by omega) (by omega) (db_out_upd _ ho (by omega)) (db_part_s hp9 (by rw [db_or_tri _ _ _ _ (hax k (by omega)) (hay k (by omega))]; show _ = db_tri (bt (zx &&& zy) k) (bt (ox ||| oy) k); rw [b_or, b_and])) (lv_sub hl [4, 5, 0] rfl) hG
      exact L62 _ (0) (Fa) ls H locs (Nat.lt_succ_self _) (by omega) (db_out_rfl _ _) (db_part0 _ _ _ _) (lv_sub hl [1, 2, 0] rfl) hG
    replace h49 := (nI_eq (a := 4) (b := 2) (by omega) (by omega)).mp h49
    (exfalso; omega)
  replace h16 := (nI_eq (a := 4) (b := 1) (by omega) (by omega)).mp h16
  (exfalso; omega)

set_option maxRecDepth 100000 in
set_option maxHeartbeats 4000000 in
theorem rf_learn5 (l : Launch) (dC : Nat → ClassId) (dI : Nat → Nat → Nat) (cI cZ : ClassId) (m0 aMd aO1 aT2 aSh aMk aFa aDe aNe aBy aPi aNw aNs aBf : Nat) (ft vl rs pd rn rr : Int32) (v x y : Nat) (d : Int32) (Md O1 T2 Fa : Nat → Int32) (zx ox zy oy : Int32) (sz : Nat) (hv : v < 24) (em : Md v = nI 5) (hxv : x < v) (e1 : O1 v = nI x) (hfx : db_rep Fa x zx ox) (hax : db_ap zx ox) (hyv : y < v) (e2 : T2 v = nI y) (hfy : db_rep Fa y zy oy) (hay : db_ap zy oy) : Met l yM_learn wsM_learn { frames := 2, cells := 0, slots := 0, locals := 60 } (va_Pc [.ref m0, .int (nI (v))] (dw_pre (dC, dI) vwCl [(m0, .inr (5, [.int (ft), .int (vl), .ref aMd, .ref aO1, .ref aT2, .int (rs), .ref aSh, .ref aMk, .ref aFa, .ref aDe, .ref aNe, .ref aBy, .ref aPi, .int (pd), .ref aNw, .ref aNs, .ref aBf, .int (rn), .int (rr)])), (aMd, .inl (cI, 24, .inl (Md))), (aO1, .inl (cI, 24, .inl (O1))), (aT2, .inl (cI, 24, .inl (T2))), (aFa, .inl (cI, 768, .inl (Fa)))] [(cI, .int), (cZ, .boolean)] sz)) (va_Qv (fun (u : Nat → Int32) => db_out Fa u v ∧ db_rep u v (db_F 5 d zx ox zy oy 0 0).1 (db_F 5 d zx ox zy oy 0 0).2) (fun u t => dw_post (dC, dI) vwCl [(m0, .inr (5, [.int (ft), .int (vl), .ref aMd, .ref aO1, .ref aT2, .int (rs), .ref aSh, .ref aMk, .ref aFa, .ref aDe, .ref aNe, .ref aBy, .ref aPi, .int (pd), .ref aNw, .ref aNs, .ref aBf, .int (rn), .int (rr)])), (aMd, .inl (cI, 24, .inl (Md))), (aO1, .inl (cI, 24, .inl (O1))), (aT2, .inl (cI, 24, .inl (T2))), (aFa, .inl (cI, 768, .inl (u)))] [(cI, .int), (cZ, .boolean)] (va_A [(m0, .inr (5, [.int (ft), .int (vl), .ref aMd, .ref aO1, .ref aT2, .int (rs), .ref aSh, .ref aMk, .ref aFa, .ref aDe, .ref aNe, .ref aBy, .ref aPi, .int (pd), .ref aNw, .ref aNs, .ref aBf, .int (rn), .int (rr)])), (aMd, .inl (cI, 24, .inl (Md))), (aO1, .inl (cI, 24, .inl (O1))), (aT2, .inl (cI, 24, .inl (T2))), (aFa, .inl (cI, 768, .inl (Fa)))] sz) t) (va_A [(m0, .inr (5, [.int (ft), .int (vl), .ref aMd, .ref aO1, .ref aT2, .int (rs), .ref aSh, .ref aMk, .ref aFa, .ref aDe, .ref aNe, .ref aBy, .ref aPi, .int (pd), .ref aNw, .ref aNs, .ref aBf, .int (rn), .int (rr)])), (aMd, .inl (cI, 24, .inl (Md))), (aO1, .inl (cI, 24, .inl (O1))), (aT2, .inl (cI, 24, .inl (T2))), (aFa, .inl (cI, 768, .inl (Fa)))] sz)) 0 0 (va_A [(m0, .inr (5, [.int (ft), .int (vl), .ref aMd, .ref aO1, .ref aT2, .int (rs), .ref aSh, .ref aMk, .ref aFa, .ref aDe, .ref aNe, .ref aBy, .ref aPi, .int (pd), .ref aNw, .ref aNs, .ref aBf, .int (rn), .int (rr)])), (aMd, .inl (cI, 24, .inl (Md))), (aO1, .inl (cI, 24, .inl (O1))), (aT2, .inl (cI, 24, .inl (T2))), (aFa, .inl (cI, 768, .inl (Fa)))] sz) := by
  refine Met.ofW (cc := cM_learn) (maxL := 6) (ret := none) (by decide) rfl ?_
  intro p e s m args below meth c s₁ B hml hv0
  have hx := B.exec
  have hb := B.bytes
  have hr := B.returns
  have hts := atoms_spec (ws := wsM_learn) B.pre
  have hown : s.vm.findClass RM = some m.cls := findClass_of_methodNamed B.named
  have hlocks := B.notSynchronized
  obtain ⟨rfl, hsz, hG⟩ := dw_enter hv0
  generalize va_A [(m0, .inr (5, [.int (ft), .int (vl), .ref aMd, .ref aO1, .ref aT2, .int (rs), .ref aSh, .ref aMk, .ref aFa, .ref aDe, .ref aNe, .ref aBy, .ref aPi, .int (pd), .ref aNw, .ref aNs, .ref aBf, .int (rn), .int (rr)])), (aMd, .inl (cI, 24, .inl (Md))), (aO1, .inl (cI, 24, .inl (O1))), (aT2, .inl (cI, 24, .inl (T2))), (aFa, .inl (cI, 768, .inl (Fa)))] sz = A at hG ⊢
  have hl := lv_entry ([.ref m0, .int (nI (v))]) (n := 6) (Nat.le_of_ble_eq_true rfl)
  rw [lg_entry_eq]
  generalize (lg_sl ([.ref m0, .int (nI (v))]) ++ List.replicate (6 - (lg_sl ([.ref m0, .int (nI (v))])).length) Slot.unset).toArray = ls at hl ⊢
  have hl : lv_has ls 6 [(0, .ref m0), (1, .int (nI (v)))] := hl
  have hw496 := hts _ (List.mem_cons_of_mem _ tw_496)
  have hw502 := hts _ (List.mem_cons_of_mem _ tw_502)
  have hw497 := hts _ (List.mem_cons_of_mem _ tw_497)
  have hw498 := hts _ (List.mem_cons_of_mem _ tw_498)
  refine dw_Q (fun Q hQ => ?_)
  suffices hgo : ∀ (H : Heap) (locs : List Loc), dw_G (dC, dI) vwCl [(cI, .int), (cZ, .boolean)] A s.heap s [(m0, .inr (5, [.int (ft), .int (vl), .ref aMd, .ref aO1, .ref aT2, .int (rs), .ref aSh, .ref aMk, .ref aFa, .ref aDe, .ref aNe, .ref aBy, .ref aPi, .int (pd), .ref aNw, .ref aNs, .ref aBf, .int (rn), .int (rr)])), (aMd, .inl (cI, 24, .inl (Md))), (aO1, .inl (cI, 24, .inl (O1))), (aT2, .inl (cI, 24, .inl (T2))), (aFa, .inl (cI, 768, .inl (Fa)))] H locs → W p l e (headSpec wsM_learn { frames := 2, cells := 0, slots := 0, locals := 60 }).room s m [.ref m0, .int (nI (v))].toArray below meth c H locs 0 0 Q (F0 m 0 ls []) from hgo _ _ hG
  clear hG
  intro H locs hG
  refine lv_aload_n hx hb dM_learn_0 rfl (lv_at hl 0 rfl) ?_
  refine dw_get hx hb hts inMc hown hG 0 2 rfl rfl (by decide) hw496 rfl rfl dM_learn_1 ?_
  refine lv_iload_n hx hb dM_learn_4 rfl (lv_at hl 1 rfl) ?_
  refine dw_ia (x := 5) hx hb hG 1 0 rfl rfl (v) rfl (by omega) (by decide) em dM_learn_5 ?_
  refine lv_if_eq (tgt := 19) hx hb dM_learn_6 (by decide) (fun h6 => ?_) (fun h6 => ?_)
  · skip
    replace h6 := (nI_eq (a := 5) (b := 0) (by omega) (by omega)).mp h6
    (exfalso; omega)
  replace h6 : ¬ 5 = 0 := fun q => h6 ((nI_eq (a := 5) (b := 0) (by omega) (by omega)).mpr q)
  refine lv_aload_n hx hb dM_learn_9 rfl (lv_at hl 0 rfl) ?_
  refine dw_get hx hb hts inMc hown hG 0 2 rfl rfl (by decide) hw496 rfl rfl dM_learn_10 ?_
  refine lv_iload_n hx hb dM_learn_13 rfl (lv_at hl 1 rfl) ?_
  refine dw_ia (x := 5) hx hb hG 1 0 rfl rfl (v) rfl (by omega) (by decide) em dM_learn_14 ?_
  refine lv_iconst (v := 1) hx hb dM_learn_15 (by decide) ?_
  refine lv_icmp_ne (tgt := 42) hx hb dM_learn_16 (by decide) (fun h16 => ?_) (fun h16 => ?_)
  · skip
    replace h16 : ¬ 5 = 1 := fun q => h16 ((nI_eq (a := 5) (b := 1) (by omega) (by omega)).mpr q)
    refine lv_aload_n hx hb dM_learn_42 rfl (lv_at hl 0 rfl) ?_
    refine dw_get hx hb hts inMc hown hG 0 2 rfl rfl (by decide) hw496 rfl rfl dM_learn_43 ?_
    refine lv_iload_n hx hb dM_learn_46 rfl (lv_at hl 1 rfl) ?_
    refine dw_ia (x := 5) hx hb hG 1 0 rfl rfl (v) rfl (by omega) (by decide) em dM_learn_47 ?_
    refine lv_iconst (v := 2) hx hb dM_learn_48 (by decide) ?_
    refine lv_icmp_ne (tgt := 60) hx hb dM_learn_49 (by decide) (fun h49 => ?_) (fun h49 => ?_)
    · skip
      replace h49 : ¬ 5 = 2 := fun q => h49 ((nI_eq (a := 5) (b := 2) (by omega) (by omega)).mpr q)
      refine lv_iconst (v := 0) hx hb dM_learn_60 (by decide) ?_
      refine lv_istore_n (lv' := [(2, .int (0)), (0, .ref m0), (1, .int (nI (v)))]) hx hb dM_learn_61 rfl hl (by decide) rfl (fun ls hl => ?_)
      have L62 : ∀ (zz : Nat) (k : Nat) (G : Nat → Int32) (ls : Array Slot) (H : Heap) (locs : List Loc), 32 - k < zz → k ≤ 32 → db_out Fa G v → db_part G v k (db_F 5 d zx ox zy oy 0 0).1 (db_F 5 d zx ox zy oy 0 0).2 → lv_has ls 6 [(0, .ref m0), (1, .int (nI (v))), (2, .int (nI (k)))] → dw_G (dC, dI) vwCl [(cI, .int), (cZ, .boolean)] A s.heap s [(m0, .inr (5, [.int (ft), .int (vl), .ref aMd, .ref aO1, .ref aT2, .int (rs), .ref aSh, .ref aMk, .ref aFa, .ref aDe, .ref aNe, .ref aBy, .ref aPi, .int (pd), .ref aNw, .ref aNs, .ref aBf, .int (rn), .int (rr)])), (aMd, .inl (cI, 24, .inl (Md))), (aO1, .inl (cI, 24, .inl (O1))), (aT2, .inl (cI, 24, .inl (T2))), (aFa, .inl (cI, 768, .inl (G)))] H locs → W p l e (headSpec wsM_learn { frames := 2, cells := 0, slots := 0, locals := 60 }).room s m [.ref m0, .int (nI (v))].toArray below meth c H locs 0 0 Q (F0 m 62 ls []) := by
        intro zz
        induction zz with
        | zero => intro k G ls H locs hz; exact absurd hz (Nat.not_lt_zero _)
        | succ zz L62_ih =>
          intro k G ls H locs hz hk ho hp9 hl hG
          refine lv_iload_n hx hb dM_learn_62 rfl (lv_at hl 2 rfl) ?_
          refine lv_bipush (v := 32) hx hb dM_learn_63 (by decide) ?_
          refine lv_icmp_ge (tgt := 312) hx hb dM_learn_65 (by decide) (fun h65 => ?_) (fun h65 => ?_)
          · skip
            replace h65 := (nI_leI (a := 32) (b := k) (by omega) (by omega)).mp h65
            subst hQ
            exact dw_vret hx hb hr hG (G) rfl ⟨ho, by rw [show k = 32 by omega] at hp9; exact hp9⟩ dM_learn_312 hlocks
          replace h65 : ¬ 32 ≤ k := fun q => h65 ((nI_leI (a := 32) (b := k) (by omega) (by omega)).mpr q)
          refine lv_aload_n hx hb dM_learn_68 rfl (lv_at hl 0 rfl) ?_
          refine dw_get hx hb hts inMc hown hG 0 2 rfl rfl (by decide) hw496 rfl rfl dM_learn_69 ?_
          refine lv_iload_n hx hb dM_learn_72 rfl (lv_at hl 1 rfl) ?_
          refine dw_ia (x := 5) hx hb hG 1 0 rfl rfl (v) rfl (by omega) (by decide) em dM_learn_73 ?_
          refine lv_iconst (v := 5) hx hb dM_learn_74 (by decide) ?_
          refine lv_icmp_gt (tgt := 97) hx hb dM_learn_75 (by decide) (fun h75 => ?_) (fun h75 => ?_)
          · skip
            replace h75 := (nI_ltI (a := 5) (b := 5) (by omega) (by omega)).mp h75
            (exfalso; omega)
          replace h75 : ¬ 5 < 5 := fun q => h75 ((nI_ltI (a := 5) (b := 5) (by omega) (by omega)).mpr q)
          refine lv_aload_n hx hb dM_learn_78 rfl (lv_at hl 0 rfl) ?_
          refine dw_get hx hb hts inMc hown hG 0 8 rfl rfl (by decide) hw502 rfl rfl dM_learn_79 ?_
          refine lv_bipush (v := 32) hx hb dM_learn_82 (by decide) ?_
          refine lv_aload_n hx hb dM_learn_84 rfl (lv_at hl 0 rfl) ?_
          refine dw_get hx hb hts inMc hown hG 0 3 rfl rfl (by decide) hw497 rfl rfl dM_learn_85 ?_
          refine lv_iload_n hx hb dM_learn_88 rfl (lv_at hl 1 rfl) ?_
          refine dw_ia (x := nI (x)) hx hb hG 2 0 rfl rfl (v) rfl (by omega) (by decide) e1 dM_learn_89 ?_
          refine lv_imul hx hb dM_learn_90 ?_
          refine lv_topi (nm_r (pk_mul (32) (x)) ?_)
          refine lv_iload_n hx hb dM_learn_91 rfl (lv_at hl 2 rfl) ?_
          refine lv_iadd hx hb dM_learn_92 ?_
          refine lv_topi (nm_r (nI_add (32 * (x)) (k)) ?_)
          refine dw_ia (x := db_tri (bt zx k) (bt ox k)) hx hb hG 4 0 rfl rfl (32 * (x) + k) rfl (by omega) (by decide) (by rw [ho _ (by omega)]; exact hfx k (by omega)) dM_learn_93 ?_
          refine lv_goto (tgt := 98) hx hb dM_learn_94 (by decide) ?_
          refine lv_istore_n (lv' := [(3, .int (db_tri (bt zx k) (bt ox k))), (0, .ref m0), (1, .int (nI (v))), (2, .int (nI (k)))]) hx hb dM_learn_98 rfl hl (by decide) rfl (fun ls hl => ?_)
          refine lv_aload_n hx hb dM_learn_99 rfl (lv_at hl 1 rfl) ?_
          refine dw_get hx hb hts inMc hown hG 0 2 rfl rfl (by decide) hw496 rfl rfl dM_learn_100 ?_
          refine lv_iload_n hx hb dM_learn_103 rfl (lv_at hl 2 rfl) ?_
          refine dw_ia (x := 5) hx hb hG 1 0 rfl rfl (v) rfl (by omega) (by decide) em dM_learn_104 ?_
          refine lv_iconst (v := 5) hx hb dM_learn_105 (by decide) ?_
          refine lv_icmp_gt (tgt := 128) hx hb dM_learn_106 (by decide) (fun h106 => ?_) (fun h106 => ?_)
          · skip
            replace h106 := (nI_ltI (a := 5) (b := 5) (by omega) (by omega)).mp h106
            (exfalso; omega)
          replace h106 : ¬ 5 < 5 := fun q => h106 ((nI_ltI (a := 5) (b := 5) (by omega) (by omega)).mpr q)
          refine lv_aload_n hx hb dM_learn_109 rfl (lv_at hl 1 rfl) ?_
          refine dw_get hx hb hts inMc hown hG 0 8 rfl rfl (by decide) hw502 rfl rfl dM_learn_110 ?_
          refine lv_bipush (v := 32) hx hb dM_learn_113 (by decide) ?_
          refine lv_aload_n hx hb dM_learn_115 rfl (lv_at hl 1 rfl) ?_
          refine dw_get hx hb hts inMc hown hG 0 4 rfl rfl (by decide) hw498 rfl rfl dM_learn_116 ?_
          refine lv_iload_n hx hb dM_learn_119 rfl (lv_at hl 2 rfl) ?_
          refine dw_ia (x := nI (y)) hx hb hG 3 0 rfl rfl (v) rfl (by omega) (by decide) e2 dM_learn_120 ?_
          refine lv_imul hx hb dM_learn_121 ?_
          refine lv_topi (nm_r (pk_mul (32) (y)) ?_)
          refine lv_iload_n hx hb dM_learn_122 rfl (lv_at hl 3 rfl) ?_
          refine lv_iadd hx hb dM_learn_123 ?_
          refine lv_topi (nm_r (nI_add (32 * (y)) (k)) ?_)
          refine dw_ia (x := db_tri (bt zy k) (bt oy k)) hx hb hG 4 0 rfl rfl (32 * (y) + k) rfl (by omega) (by decide) (by rw [ho _ (by omega)]; exact hfy k (by omega)) dM_learn_124 ?_
          refine lv_goto (tgt := 129) hx hb dM_learn_125 (by decide) ?_
          refine lv_istore (lv' := [(4, .int (db_tri (bt zy k) (bt oy k))), (3, .int (db_tri (bt zx k) (bt ox k))), (0, .ref m0), (1, .int (nI (v))), (2, .int (nI (k)))]) hx hb dM_learn_129 hl (by decide) rfl (fun ls hl => ?_)
          refine lv_bipush (v := 32) hx hb dM_learn_131 (by decide) ?_
          refine lv_iload_n hx hb dM_learn_133 rfl (lv_at hl 3 rfl) ?_
          refine lv_imul hx hb dM_learn_134 ?_
          refine lv_topi (nm_r (pk_mul (32) (v)) ?_)
          refine lv_iload_n hx hb dM_learn_135 rfl (lv_at hl 4 rfl) ?_
          refine lv_iadd hx hb dM_learn_136 ?_
          refine lv_topi (nm_r (nI_add (32 * (v)) (k)) ?_)
          refine lv_istore (lv' := [(5, .int (nI (32 * (v) + k))), (4, .int (db_tri (bt zy k) (bt oy k))), (3, .int (db_tri (bt zx k) (bt ox k))), (0, .ref m0), (1, .int (nI (v))), (2, .int (nI (k)))]) hx hb dM_learn_137 hl (by decide) rfl (fun ls hl => ?_)
          refine lv_aload_n hx hb dM_learn_139 rfl (lv_at hl 3 rfl) ?_
          refine dw_get hx hb hts inMc hown hG 0 2 rfl rfl (by decide) hw496 rfl rfl dM_learn_140 ?_
          refine lv_iload_n hx hb dM_learn_143 rfl (lv_at hl 4 rfl) ?_
          refine dw_ia (x := 5) hx hb hG 1 0 rfl rfl (v) rfl (by omega) (by decide) em dM_learn_144 ?_
          refine lv_tableIn (tgt := 276) hx hb dM_learn_145 (by decide) (by decide) rfl (by decide) ?_
          refine lv_aload_n hx hb dM_learn_276 rfl (lv_at hl 3 rfl) ?_
          refine dw_get hx hb hts inMc hown hG 0 8 rfl rfl (by decide) hw502 rfl rfl dM_learn_277 ?_
          refine lv_iload hx hb dM_learn_280 (lv_at hl 0 rfl) ?_
          refine lv_iload_n hx hb dM_learn_282 rfl (lv_at hl 2 rfl) ?_
          refine lv_iload hx hb dM_learn_283 (lv_at hl 1 rfl) ?_
          refine lv_iconst (v := 0) hx hb dM_learn_285 (by decide) ?_
          refine dw_calli (wc := []) (wr := [(m0, .inr (5, [.int (ft), .int (vl), .ref aMd, .ref aO1, .ref aT2, .int (rs), .ref aSh, .ref aMk, .ref aFa, .ref aDe, .ref aNe, .ref aBy, .ref aPi, .int (pd), .ref aNw, .ref aNs, .ref aBf, .int (rn), .int (rr)])), (aMd, .inl (cI, 24, .inl (Md))), (aO1, .inl (cI, 24, .inl (O1))), (aT2, .inl (cI, 24, .inl (T2))), (aFa, .inl (cI, 768, .inl (G)))]) hG [] [0, 1, 2, 3, 4] rfl rfl (by decide) (by decide) (va_runS (As := [.int (db_tri (bt zx k) (bt ox k)), .int (db_tri (bt zy k) (bt oy k)), .int (0)]) (rest := [.int (nI (32 * (v) + k)), .ref aFa]) ⟨hx, hb, hml, hown, hts⟩ (rf_sum l dC dI cI cZ (db_tri (bt zx k) (bt ox k)) (db_tri (bt zy k) (bt oy k)) (0) H.size ) (dc_S 3 hts tw_620 tw_621 tw_7 tw_622 rfl rfl (by decide +kernel) ⟨Nat.le_of_ble_eq_true rfl, Nat.le_of_ble_eq_true rfl⟩) (dw_preS hG [] [0, 1] rfl rfl (by decide) rfl) rfl rfl hl.1 rfl (lv_room (Nat.le_of_ble_eq_true rfl)) dM_learn_286 ⟨Nat.le_refl _, Nat.le_refl _⟩) (fun r u H locs hp hG => ?_)
          subst hp
          have hG : dw_G (dC, dI) vwCl [(cI, .int), (cZ, .boolean)] A s.heap s [(m0, .inr (5, [.int (ft), .int (vl), .ref aMd, .ref aO1, .ref aT2, .int (rs), .ref aSh, .ref aMk, .ref aFa, .ref aDe, .ref aNe, .ref aBy, .ref aPi, .int (pd), .ref aNw, .ref aNs, .ref aBf, .int (rn), .int (rr)])), (aMd, .inl (cI, 24, .inl (Md))), (aO1, .inl (cI, 24, .inl (O1))), (aT2, .inl (cI, 24, .inl (T2))), (aFa, .inl (cI, 768, .inl (G)))] H locs := hG
          refine dw_is (ws' := [(m0, .inr (5, [.int (ft), .int (vl), .ref aMd, .ref aO1, .ref aT2, .int (rs), .ref aSh, .ref aMk, .ref aFa, .ref aDe, .ref aNe, .ref aBy, .ref aPi, .int (pd), .ref aNw, .ref aNs, .ref aBf, .int (rn), .int (rr)])), (aMd, .inl (cI, 24, .inl (Md))), (aO1, .inl (cI, 24, .inl (O1))), (aT2, .inl (cI, 24, .inl (T2))), (aFa, .inl (cI, 768, .inl (upd (G) (32 * (v) + k) (db_sum3 (db_tri (bt zx k) (bt ox k)) (db_tri (bt zy k) (bt oy k)) (0)))))]) hx hb hG 4 0 rfl rfl (32 * (v) + k) rfl (by omega) (by decide) dM_learn_289 rfl (fun H locs hG => ?_)
          refine lv_goto (tgt := 306) hx hb dM_learn_290 (by decide) ?_
          refine lv_iinc (v := nI (k + 1)) (lv' := [(2, .int (nI (k + 1))), (5, .int (nI (32 * (v) + k))), (4, .int (db_tri (bt zy k) (bt oy k))), (3, .int (db_tri (bt zx k) (bt ox k))), (0, .ref m0), (1, .int (nI (v)))]) hx hb dM_learn_306 hl (k := 5) rfl (dw_inc (k)) (by decide) rfl (fun ls hl => ?_)
          refine lv_goto (tgt := 62) hx hb dM_learn_309 (by decide) ?_
          exact L62_ih (k + 1) (upd (G) (32 * (v) + k) (db_sum3 (db_tri (bt zx k) (bt ox k)) (db_tri (bt zy k) (bt oy k)) (0))) ls H locs (by omega) (by omega) (db_out_upd _ ho (by omega)) (db_part_s hp9 (by rw [db_xor_tri _ _ _ _ (hax k (by omega)) (hay k (by omega))]; show _ = db_tri (bt (zx &&& zy ||| ox &&& oy) k) (bt (zx &&& oy ||| ox &&& zy) k); rw [b_or, b_or, b_and, b_and, b_and, b_and])) (lv_sub hl [4, 5, 0] rfl) hG
      exact L62 _ (0) (Fa) ls H locs (Nat.lt_succ_self _) (by omega) (db_out_rfl _ _) (db_part0 _ _ _ _) (lv_sub hl [1, 2, 0] rfl) hG
    replace h49 := (nI_eq (a := 5) (b := 2) (by omega) (by omega)).mp h49
    (exfalso; omega)
  replace h16 := (nI_eq (a := 5) (b := 1) (by omega) (by omega)).mp h16
  (exfalso; omega)

set_option maxRecDepth 100000 in
set_option maxHeartbeats 4000000 in
theorem rf_learn6 (l : Launch) (dC : Nat → ClassId) (dI : Nat → Nat → Nat) (cI cZ : ClassId) (m0 aMd aO1 aT2 aSh aMk aFa aDe aNe aBy aPi aNw aNs aBf : Nat) (ft vl rs pd rn rr : Int32) (v x y : Nat) (d : Int32) (Md O1 T2 Fa : Nat → Int32) (zx ox zy oy : Int32) (dd : Nat) (sz : Nat) (hv : v < 24) (em : Md v = nI 6) (hxv : x < v) (e1 : O1 v = nI x) (hfx : db_rep Fa x zx ox) (hax : db_ap zx ox) (hdd : dd < 32) (e2 : T2 v = nI dd) : Met l yM_learn wsM_learn { frames := 2, cells := 0, slots := 0, locals := 60 } (va_Pc [.ref m0, .int (nI (v))] (dw_pre (dC, dI) vwCl [(m0, .inr (5, [.int (ft), .int (vl), .ref aMd, .ref aO1, .ref aT2, .int (rs), .ref aSh, .ref aMk, .ref aFa, .ref aDe, .ref aNe, .ref aBy, .ref aPi, .int (pd), .ref aNw, .ref aNs, .ref aBf, .int (rn), .int (rr)])), (aMd, .inl (cI, 24, .inl (Md))), (aO1, .inl (cI, 24, .inl (O1))), (aT2, .inl (cI, 24, .inl (T2))), (aFa, .inl (cI, 768, .inl (Fa)))] [(cI, .int), (cZ, .boolean)] sz)) (va_Qv (fun (u : Nat → Int32) => db_out Fa u v ∧ db_rep u v (db_F 6 (nI dd) zx ox zy oy 0 0).1 (db_F 6 (nI dd) zx ox zy oy 0 0).2) (fun u t => dw_post (dC, dI) vwCl [(m0, .inr (5, [.int (ft), .int (vl), .ref aMd, .ref aO1, .ref aT2, .int (rs), .ref aSh, .ref aMk, .ref aFa, .ref aDe, .ref aNe, .ref aBy, .ref aPi, .int (pd), .ref aNw, .ref aNs, .ref aBf, .int (rn), .int (rr)])), (aMd, .inl (cI, 24, .inl (Md))), (aO1, .inl (cI, 24, .inl (O1))), (aT2, .inl (cI, 24, .inl (T2))), (aFa, .inl (cI, 768, .inl (u)))] [(cI, .int), (cZ, .boolean)] (va_A [(m0, .inr (5, [.int (ft), .int (vl), .ref aMd, .ref aO1, .ref aT2, .int (rs), .ref aSh, .ref aMk, .ref aFa, .ref aDe, .ref aNe, .ref aBy, .ref aPi, .int (pd), .ref aNw, .ref aNs, .ref aBf, .int (rn), .int (rr)])), (aMd, .inl (cI, 24, .inl (Md))), (aO1, .inl (cI, 24, .inl (O1))), (aT2, .inl (cI, 24, .inl (T2))), (aFa, .inl (cI, 768, .inl (Fa)))] sz) t) (va_A [(m0, .inr (5, [.int (ft), .int (vl), .ref aMd, .ref aO1, .ref aT2, .int (rs), .ref aSh, .ref aMk, .ref aFa, .ref aDe, .ref aNe, .ref aBy, .ref aPi, .int (pd), .ref aNw, .ref aNs, .ref aBf, .int (rn), .int (rr)])), (aMd, .inl (cI, 24, .inl (Md))), (aO1, .inl (cI, 24, .inl (O1))), (aT2, .inl (cI, 24, .inl (T2))), (aFa, .inl (cI, 768, .inl (Fa)))] sz)) 0 0 (va_A [(m0, .inr (5, [.int (ft), .int (vl), .ref aMd, .ref aO1, .ref aT2, .int (rs), .ref aSh, .ref aMk, .ref aFa, .ref aDe, .ref aNe, .ref aBy, .ref aPi, .int (pd), .ref aNw, .ref aNs, .ref aBf, .int (rn), .int (rr)])), (aMd, .inl (cI, 24, .inl (Md))), (aO1, .inl (cI, 24, .inl (O1))), (aT2, .inl (cI, 24, .inl (T2))), (aFa, .inl (cI, 768, .inl (Fa)))] sz) := by
  refine Met.ofW (cc := cM_learn) (maxL := 6) (ret := none) (by decide) rfl ?_
  intro p e s m args below meth c s₁ B hml hv0
  have hx := B.exec
  have hb := B.bytes
  have hr := B.returns
  have hts := atoms_spec (ws := wsM_learn) B.pre
  have hown : s.vm.findClass RM = some m.cls := findClass_of_methodNamed B.named
  have hlocks := B.notSynchronized
  obtain ⟨rfl, hsz, hG⟩ := dw_enter hv0
  generalize va_A [(m0, .inr (5, [.int (ft), .int (vl), .ref aMd, .ref aO1, .ref aT2, .int (rs), .ref aSh, .ref aMk, .ref aFa, .ref aDe, .ref aNe, .ref aBy, .ref aPi, .int (pd), .ref aNw, .ref aNs, .ref aBf, .int (rn), .int (rr)])), (aMd, .inl (cI, 24, .inl (Md))), (aO1, .inl (cI, 24, .inl (O1))), (aT2, .inl (cI, 24, .inl (T2))), (aFa, .inl (cI, 768, .inl (Fa)))] sz = A at hG ⊢
  have hl := lv_entry ([.ref m0, .int (nI (v))]) (n := 6) (Nat.le_of_ble_eq_true rfl)
  rw [lg_entry_eq]
  generalize (lg_sl ([.ref m0, .int (nI (v))]) ++ List.replicate (6 - (lg_sl ([.ref m0, .int (nI (v))])).length) Slot.unset).toArray = ls at hl ⊢
  have hl : lv_has ls 6 [(0, .ref m0), (1, .int (nI (v)))] := hl
  have hw496 := hts _ (List.mem_cons_of_mem _ tw_496)
  have hw502 := hts _ (List.mem_cons_of_mem _ tw_502)
  refine dw_Q (fun Q hQ => ?_)
  suffices hgo : ∀ (H : Heap) (locs : List Loc), dw_G (dC, dI) vwCl [(cI, .int), (cZ, .boolean)] A s.heap s [(m0, .inr (5, [.int (ft), .int (vl), .ref aMd, .ref aO1, .ref aT2, .int (rs), .ref aSh, .ref aMk, .ref aFa, .ref aDe, .ref aNe, .ref aBy, .ref aPi, .int (pd), .ref aNw, .ref aNs, .ref aBf, .int (rn), .int (rr)])), (aMd, .inl (cI, 24, .inl (Md))), (aO1, .inl (cI, 24, .inl (O1))), (aT2, .inl (cI, 24, .inl (T2))), (aFa, .inl (cI, 768, .inl (Fa)))] H locs → W p l e (headSpec wsM_learn { frames := 2, cells := 0, slots := 0, locals := 60 }).room s m [.ref m0, .int (nI (v))].toArray below meth c H locs 0 0 Q (F0 m 0 ls []) from hgo _ _ hG
  clear hG
  intro H locs hG
  refine lv_aload_n hx hb dM_learn_0 rfl (lv_at hl 0 rfl) ?_
  refine dw_get hx hb hts inMc hown hG 0 2 rfl rfl (by decide) hw496 rfl rfl dM_learn_1 ?_
  refine lv_iload_n hx hb dM_learn_4 rfl (lv_at hl 1 rfl) ?_
  refine dw_ia (x := 6) hx hb hG 1 0 rfl rfl (v) rfl (by omega) (by decide) em dM_learn_5 ?_
  refine lv_if_eq (tgt := 19) hx hb dM_learn_6 (by decide) (fun h6 => ?_) (fun h6 => ?_)
  · skip
    replace h6 := (nI_eq (a := 6) (b := 0) (by omega) (by omega)).mp h6
    (exfalso; omega)
  replace h6 : ¬ 6 = 0 := fun q => h6 ((nI_eq (a := 6) (b := 0) (by omega) (by omega)).mpr q)
  refine lv_aload_n hx hb dM_learn_9 rfl (lv_at hl 0 rfl) ?_
  refine dw_get hx hb hts inMc hown hG 0 2 rfl rfl (by decide) hw496 rfl rfl dM_learn_10 ?_
  refine lv_iload_n hx hb dM_learn_13 rfl (lv_at hl 1 rfl) ?_
  refine dw_ia (x := 6) hx hb hG 1 0 rfl rfl (v) rfl (by omega) (by decide) em dM_learn_14 ?_
  refine lv_iconst (v := 1) hx hb dM_learn_15 (by decide) ?_
  refine lv_icmp_ne (tgt := 42) hx hb dM_learn_16 (by decide) (fun h16 => ?_) (fun h16 => ?_)
  · skip
    replace h16 : ¬ 6 = 1 := fun q => h16 ((nI_eq (a := 6) (b := 1) (by omega) (by omega)).mpr q)
    refine lv_aload_n hx hb dM_learn_42 rfl (lv_at hl 0 rfl) ?_
    refine dw_get hx hb hts inMc hown hG 0 2 rfl rfl (by decide) hw496 rfl rfl dM_learn_43 ?_
    refine lv_iload_n hx hb dM_learn_46 rfl (lv_at hl 1 rfl) ?_
    refine dw_ia (x := 6) hx hb hG 1 0 rfl rfl (v) rfl (by omega) (by decide) em dM_learn_47 ?_
    refine lv_iconst (v := 2) hx hb dM_learn_48 (by decide) ?_
    refine lv_icmp_ne (tgt := 60) hx hb dM_learn_49 (by decide) (fun h49 => ?_) (fun h49 => ?_)
    · skip
      replace h49 : ¬ 6 = 2 := fun q => h49 ((nI_eq (a := 6) (b := 2) (by omega) (by omega)).mpr q)
      refine lv_iconst (v := 0) hx hb dM_learn_60 (by decide) ?_
      refine lv_istore_n (lv' := [(2, .int (0)), (0, .ref m0), (1, .int (nI (v)))]) hx hb dM_learn_61 rfl hl (by decide) rfl (fun ls hl => ?_)
      have L62 : ∀ (zz : Nat) (k : Nat) (G : Nat → Int32) (ls : Array Slot) (H : Heap) (locs : List Loc), 32 - k < zz → k ≤ 32 → db_out Fa G v → db_part G v k (db_F 6 (nI dd) zx ox zy oy 0 0).1 (db_F 6 (nI dd) zx ox zy oy 0 0).2 → lv_has ls 6 [(0, .ref m0), (1, .int (nI (v))), (2, .int (nI (k)))] → dw_G (dC, dI) vwCl [(cI, .int), (cZ, .boolean)] A s.heap s [(m0, .inr (5, [.int (ft), .int (vl), .ref aMd, .ref aO1, .ref aT2, .int (rs), .ref aSh, .ref aMk, .ref aFa, .ref aDe, .ref aNe, .ref aBy, .ref aPi, .int (pd), .ref aNw, .ref aNs, .ref aBf, .int (rn), .int (rr)])), (aMd, .inl (cI, 24, .inl (Md))), (aO1, .inl (cI, 24, .inl (O1))), (aT2, .inl (cI, 24, .inl (T2))), (aFa, .inl (cI, 768, .inl (G)))] H locs → W p l e (headSpec wsM_learn { frames := 2, cells := 0, slots := 0, locals := 60 }).room s m [.ref m0, .int (nI (v))].toArray below meth c H locs 0 0 Q (F0 m 62 ls []) := by
        intro zz
        induction zz with
        | zero => intro k G ls H locs hz; exact absurd hz (Nat.not_lt_zero _)
        | succ zz L62_ih =>
          intro k G ls H locs hz hk ho hp9 hl hG
          refine lv_iload_n hx hb dM_learn_62 rfl (lv_at hl 2 rfl) ?_
          refine lv_bipush (v := 32) hx hb dM_learn_63 (by decide) ?_
          refine lv_icmp_ge (tgt := 312) hx hb dM_learn_65 (by decide) (fun h65 => ?_) (fun h65 => ?_)
          · skip
            replace h65 := (nI_leI (a := 32) (b := k) (by omega) (by omega)).mp h65
            subst hQ
            exact dw_vret hx hb hr hG (G) rfl ⟨ho, by rw [show k = 32 by omega] at hp9; exact hp9⟩ dM_learn_312 hlocks
          replace h65 : ¬ 32 ≤ k := fun q => h65 ((nI_leI (a := 32) (b := k) (by omega) (by omega)).mpr q)
          refine lv_aload_n hx hb dM_learn_68 rfl (lv_at hl 0 rfl) ?_
          refine dw_get hx hb hts inMc hown hG 0 2 rfl rfl (by decide) hw496 rfl rfl dM_learn_69 ?_
          refine lv_iload_n hx hb dM_learn_72 rfl (lv_at hl 1 rfl) ?_
          refine dw_ia (x := 6) hx hb hG 1 0 rfl rfl (v) rfl (by omega) (by decide) em dM_learn_73 ?_
          refine lv_iconst (v := 5) hx hb dM_learn_74 (by decide) ?_
          refine lv_icmp_gt (tgt := 97) hx hb dM_learn_75 (by decide) (fun h75 => ?_) (fun h75 => ?_)
          · skip
            replace h75 := (nI_ltI (a := 5) (b := 6) (by omega) (by omega)).mp h75
            refine lv_iconst (v := 2) hx hb dM_learn_97 (by decide) ?_
            refine lv_istore_n (lv' := [(3, .int (2)), (0, .ref m0), (1, .int (nI (v))), (2, .int (nI (k)))]) hx hb dM_learn_98 rfl hl (by decide) rfl (fun ls hl => ?_)
            refine lv_aload_n hx hb dM_learn_99 rfl (lv_at hl 1 rfl) ?_
            refine dw_get hx hb hts inMc hown hG 0 2 rfl rfl (by decide) hw496 rfl rfl dM_learn_100 ?_
            refine lv_iload_n hx hb dM_learn_103 rfl (lv_at hl 2 rfl) ?_
            refine dw_ia (x := 6) hx hb hG 1 0 rfl rfl (v) rfl (by omega) (by decide) em dM_learn_104 ?_
            refine lv_iconst (v := 5) hx hb dM_learn_105 (by decide) ?_
            refine lv_icmp_gt (tgt := 128) hx hb dM_learn_106 (by decide) (fun h106 => ?_) (fun h106 => ?_)
            · skip
              replace h106 := (nI_ltI (a := 5) (b := 6) (by omega) (by omega)).mp h106
              refine lv_iconst (v := 2) hx hb dM_learn_128 (by decide) ?_
              refine lv_istore (lv' := [(4, .int (2)), (3, .int (2)), (0, .ref m0), (1, .int (nI (v))), (2, .int (nI (k)))]) hx hb dM_learn_129 hl (by decide) rfl (fun ls hl => ?_)
              refine lv_bipush (v := 32) hx hb dM_learn_131 (by decide) ?_
              refine lv_iload_n hx hb dM_learn_133 rfl (lv_at hl 3 rfl) ?_
              refine lv_imul hx hb dM_learn_134 ?_
              refine lv_topi (nm_r (pk_mul (32) (v)) ?_)
              refine lv_iload_n hx hb dM_learn_135 rfl (lv_at hl 4 rfl) ?_
              refine lv_iadd hx hb dM_learn_136 ?_
              refine lv_topi (nm_r (nI_add (32 * (v)) (k)) ?_)
              refine lv_istore (lv' := [(5, .int (nI (32 * (v) + k))), (4, .int (2)), (3, .int (2)), (0, .ref m0), (1, .int (nI (v))), (2, .int (nI (k)))]) hx hb dM_learn_137 hl (by decide) rfl (fun ls hl => ?_)
              refine lv_aload_n hx hb dM_learn_139 rfl (lv_at hl 3 rfl) ?_
              refine dw_get hx hb hts inMc hown hG 0 2 rfl rfl (by decide) hw496 rfl rfl dM_learn_140 ?_
              refine lv_iload_n hx hb dM_learn_143 rfl (lv_at hl 4 rfl) ?_
              refine dw_ia (x := 6) hx hb hG 1 0 rfl rfl (v) rfl (by omega) (by decide) em dM_learn_144 ?_
              refine lv_tableIn (tgt := 293) hx hb dM_learn_145 (by decide) (by decide) rfl (by decide) ?_
              refine lv_aload_n hx hb dM_learn_293 rfl (lv_at hl 3 rfl) ?_
              refine dw_get hx hb hts inMc hown hG 0 8 rfl rfl (by decide) hw502 rfl rfl dM_learn_294 ?_
              refine lv_iload hx hb dM_learn_297 (lv_at hl 0 rfl) ?_
              refine lv_aload_n hx hb dM_learn_299 rfl (lv_at hl 3 rfl) ?_
              refine lv_iload_n hx hb dM_learn_300 rfl (lv_at hl 4 rfl) ?_
              refine lv_iload_n hx hb dM_learn_301 rfl (lv_at hl 5 rfl) ?_
              refine dw_calli (wc := [(m0, .inr (5, [.int (ft), .int (vl), .ref aMd, .ref aO1, .ref aT2, .int (rs), .ref aSh, .ref aMk, .ref aFa, .ref aDe, .ref aNe, .ref aBy, .ref aPi, .int (pd), .ref aNw, .ref aNs, .ref aBf, .int (rn), .int (rr)])), (aMd, .inl (cI, 24, .inl (Md))), (aO1, .inl (cI, 24, .inl (O1))), (aT2, .inl (cI, 24, .inl (T2))), (aFa, .inl (cI, 768, .inl (G)))]) (wr := []) hG [0, 1, 2, 3, 4] [] rfl rfl (by decide) (by decide) (va_runV (As := [.int (nI (v)), .int (nI (k))]) (rest := [.int (nI (32 * (v) + k)), .ref aFa]) ⟨hx, hb, hml, hown, hts⟩ (rf_from6 l dC dI cI cZ m0 aMd aO1 aT2 aSh aMk aFa aDe aNe aBy aPi aNw aNs aBf ft vl rs pd rn rr v x k dd Md O1 T2 G zx ox zy oy H.size hv hxv (by omega) em e1 (db_rep_out hfx ho (by omega)) hdd e2) (dc_V 2 hts tw_636 tw_638 tp_M_from tw_7 tw_639 rfl rfl (by decide +kernel) ⟨Nat.le_of_ble_eq_true rfl, Nat.le_of_ble_eq_true rfl⟩) (dw_preV (ci := 5) hG [0, 1, 2, 3, 4] [0, 1] rfl rfl (by decide) rfl rfl (q0 := 0) rfl) rfl rfl hl.1 rfl (lv_room (Nat.le_of_ble_eq_true rfl)) dM_learn_302 ⟨Nat.le_refl _, Nat.le_refl _⟩) (fun r u H locs hp hG => ?_)
              subst hp
              have hG : dw_G (dC, dI) vwCl [(cI, .int), (cZ, .boolean)] A s.heap s [(m0, .inr (5, [.int (ft), .int (vl), .ref aMd, .ref aO1, .ref aT2, .int (rs), .ref aSh, .ref aMk, .ref aFa, .ref aDe, .ref aNe, .ref aBy, .ref aPi, .int (pd), .ref aNw, .ref aNs, .ref aBf, .int (rn), .int (rr)])), (aMd, .inl (cI, 24, .inl (Md))), (aO1, .inl (cI, 24, .inl (O1))), (aT2, .inl (cI, 24, .inl (T2))), (aFa, .inl (cI, 768, .inl (G)))] H locs := hG
              refine dw_is (ws' := [(m0, .inr (5, [.int (ft), .int (vl), .ref aMd, .ref aO1, .ref aT2, .int (rs), .ref aSh, .ref aMk, .ref aFa, .ref aDe, .ref aNe, .ref aBy, .ref aPi, .int (pd), .ref aNw, .ref aNs, .ref aBf, .int (rn), .int (rr)])), (aMd, .inl (cI, 24, .inl (Md))), (aO1, .inl (cI, 24, .inl (O1))), (aT2, .inl (cI, 24, .inl (T2))), (aFa, .inl (cI, 768, .inl (upd (G) (32 * (v) + k) (db_tri (bt (db_F 6 (nI dd) zx ox zy oy 0 0).1 k) (bt (db_F 6 (nI dd) zx ox zy oy 0 0).2 k)))))]) hx hb hG 4 0 rfl rfl (32 * (v) + k) rfl (by omega) (by decide) dM_learn_305 rfl (fun H locs hG => ?_)
              refine lv_iinc (v := nI (k + 1)) (lv' := [(2, .int (nI (k + 1))), (5, .int (nI (32 * (v) + k))), (4, .int (2)), (3, .int (2)), (0, .ref m0), (1, .int (nI (v)))]) hx hb dM_learn_306 hl (k := 5) rfl (dw_inc (k)) (by decide) rfl (fun ls hl => ?_)
              refine lv_goto (tgt := 62) hx hb dM_learn_309 (by decide) ?_
              exact L62_ih (k + 1) (upd (G) (32 * (v) + k) (db_tri (bt (db_F 6 (nI dd) zx ox zy oy 0 0).1 k) (bt (db_F 6 (nI dd) zx ox zy oy 0 0).2 k))) ls H locs (by omega) (by omega) (db_out_upd _ ho (by omega)) (db_part_s hp9 rfl) (lv_sub hl [4, 5, 0] rfl) hG
            replace h106 : ¬ 5 < 6 := fun q => h106 ((nI_ltI (a := 5) (b := 6) (by omega) (by omega)).mpr q)
            (exfalso; omega)
          replace h75 : ¬ 5 < 6 := fun q => h75 ((nI_ltI (a := 5) (b := 6) (by omega) (by omega)).mpr q)
          (exfalso; omega)
      exact L62 _ (0) (Fa) ls H locs (Nat.lt_succ_self _) (by omega) (db_out_rfl _ _) (db_part0 _ _ _ _) (lv_sub hl [1, 2, 0] rfl) hG
    replace h49 := (nI_eq (a := 6) (b := 2) (by omega) (by omega)).mp h49
    (exfalso; omega)
  replace h16 := (nI_eq (a := 6) (b := 1) (by omega) (by omega)).mp h16
  (exfalso; omega)

set_option maxRecDepth 100000 in
set_option maxHeartbeats 4000000 in
theorem rf_learn7 (l : Launch) (dC : Nat → ClassId) (dI : Nat → Nat → Nat) (cI cZ : ClassId) (m0 aMd aO1 aT2 aSh aMk aFa aDe aNe aBy aPi aNw aNs aBf : Nat) (ft vl rs pd rn rr : Int32) (v x y : Nat) (d : Int32) (Md O1 T2 Fa : Nat → Int32) (zx ox zy oy : Int32) (dd : Nat) (sz : Nat) (hv : v < 24) (em : Md v = nI 7) (hxv : x < v) (e1 : O1 v = nI x) (hfx : db_rep Fa x zx ox) (hax : db_ap zx ox) (hdd : dd < 32) (e2 : T2 v = nI dd) : Met l yM_learn wsM_learn { frames := 2, cells := 0, slots := 0, locals := 60 } (va_Pc [.ref m0, .int (nI (v))] (dw_pre (dC, dI) vwCl [(m0, .inr (5, [.int (ft), .int (vl), .ref aMd, .ref aO1, .ref aT2, .int (rs), .ref aSh, .ref aMk, .ref aFa, .ref aDe, .ref aNe, .ref aBy, .ref aPi, .int (pd), .ref aNw, .ref aNs, .ref aBf, .int (rn), .int (rr)])), (aMd, .inl (cI, 24, .inl (Md))), (aO1, .inl (cI, 24, .inl (O1))), (aT2, .inl (cI, 24, .inl (T2))), (aFa, .inl (cI, 768, .inl (Fa)))] [(cI, .int), (cZ, .boolean)] sz)) (va_Qv (fun (u : Nat → Int32) => db_out Fa u v ∧ db_rep u v (db_F 7 (nI dd) zx ox zy oy 0 0).1 (db_F 7 (nI dd) zx ox zy oy 0 0).2) (fun u t => dw_post (dC, dI) vwCl [(m0, .inr (5, [.int (ft), .int (vl), .ref aMd, .ref aO1, .ref aT2, .int (rs), .ref aSh, .ref aMk, .ref aFa, .ref aDe, .ref aNe, .ref aBy, .ref aPi, .int (pd), .ref aNw, .ref aNs, .ref aBf, .int (rn), .int (rr)])), (aMd, .inl (cI, 24, .inl (Md))), (aO1, .inl (cI, 24, .inl (O1))), (aT2, .inl (cI, 24, .inl (T2))), (aFa, .inl (cI, 768, .inl (u)))] [(cI, .int), (cZ, .boolean)] (va_A [(m0, .inr (5, [.int (ft), .int (vl), .ref aMd, .ref aO1, .ref aT2, .int (rs), .ref aSh, .ref aMk, .ref aFa, .ref aDe, .ref aNe, .ref aBy, .ref aPi, .int (pd), .ref aNw, .ref aNs, .ref aBf, .int (rn), .int (rr)])), (aMd, .inl (cI, 24, .inl (Md))), (aO1, .inl (cI, 24, .inl (O1))), (aT2, .inl (cI, 24, .inl (T2))), (aFa, .inl (cI, 768, .inl (Fa)))] sz) t) (va_A [(m0, .inr (5, [.int (ft), .int (vl), .ref aMd, .ref aO1, .ref aT2, .int (rs), .ref aSh, .ref aMk, .ref aFa, .ref aDe, .ref aNe, .ref aBy, .ref aPi, .int (pd), .ref aNw, .ref aNs, .ref aBf, .int (rn), .int (rr)])), (aMd, .inl (cI, 24, .inl (Md))), (aO1, .inl (cI, 24, .inl (O1))), (aT2, .inl (cI, 24, .inl (T2))), (aFa, .inl (cI, 768, .inl (Fa)))] sz)) 0 0 (va_A [(m0, .inr (5, [.int (ft), .int (vl), .ref aMd, .ref aO1, .ref aT2, .int (rs), .ref aSh, .ref aMk, .ref aFa, .ref aDe, .ref aNe, .ref aBy, .ref aPi, .int (pd), .ref aNw, .ref aNs, .ref aBf, .int (rn), .int (rr)])), (aMd, .inl (cI, 24, .inl (Md))), (aO1, .inl (cI, 24, .inl (O1))), (aT2, .inl (cI, 24, .inl (T2))), (aFa, .inl (cI, 768, .inl (Fa)))] sz) := by
  refine Met.ofW (cc := cM_learn) (maxL := 6) (ret := none) (by decide) rfl ?_
  intro p e s m args below meth c s₁ B hml hv0
  have hx := B.exec
  have hb := B.bytes
  have hr := B.returns
  have hts := atoms_spec (ws := wsM_learn) B.pre
  have hown : s.vm.findClass RM = some m.cls := findClass_of_methodNamed B.named
  have hlocks := B.notSynchronized
  obtain ⟨rfl, hsz, hG⟩ := dw_enter hv0
  generalize va_A [(m0, .inr (5, [.int (ft), .int (vl), .ref aMd, .ref aO1, .ref aT2, .int (rs), .ref aSh, .ref aMk, .ref aFa, .ref aDe, .ref aNe, .ref aBy, .ref aPi, .int (pd), .ref aNw, .ref aNs, .ref aBf, .int (rn), .int (rr)])), (aMd, .inl (cI, 24, .inl (Md))), (aO1, .inl (cI, 24, .inl (O1))), (aT2, .inl (cI, 24, .inl (T2))), (aFa, .inl (cI, 768, .inl (Fa)))] sz = A at hG ⊢
  have hl := lv_entry ([.ref m0, .int (nI (v))]) (n := 6) (Nat.le_of_ble_eq_true rfl)
  rw [lg_entry_eq]
  generalize (lg_sl ([.ref m0, .int (nI (v))]) ++ List.replicate (6 - (lg_sl ([.ref m0, .int (nI (v))])).length) Slot.unset).toArray = ls at hl ⊢
  have hl : lv_has ls 6 [(0, .ref m0), (1, .int (nI (v)))] := hl
  have hw496 := hts _ (List.mem_cons_of_mem _ tw_496)
  have hw502 := hts _ (List.mem_cons_of_mem _ tw_502)
  refine dw_Q (fun Q hQ => ?_)
  suffices hgo : ∀ (H : Heap) (locs : List Loc), dw_G (dC, dI) vwCl [(cI, .int), (cZ, .boolean)] A s.heap s [(m0, .inr (5, [.int (ft), .int (vl), .ref aMd, .ref aO1, .ref aT2, .int (rs), .ref aSh, .ref aMk, .ref aFa, .ref aDe, .ref aNe, .ref aBy, .ref aPi, .int (pd), .ref aNw, .ref aNs, .ref aBf, .int (rn), .int (rr)])), (aMd, .inl (cI, 24, .inl (Md))), (aO1, .inl (cI, 24, .inl (O1))), (aT2, .inl (cI, 24, .inl (T2))), (aFa, .inl (cI, 768, .inl (Fa)))] H locs → W p l e (headSpec wsM_learn { frames := 2, cells := 0, slots := 0, locals := 60 }).room s m [.ref m0, .int (nI (v))].toArray below meth c H locs 0 0 Q (F0 m 0 ls []) from hgo _ _ hG
  clear hG
  intro H locs hG
  refine lv_aload_n hx hb dM_learn_0 rfl (lv_at hl 0 rfl) ?_
  refine dw_get hx hb hts inMc hown hG 0 2 rfl rfl (by decide) hw496 rfl rfl dM_learn_1 ?_
  refine lv_iload_n hx hb dM_learn_4 rfl (lv_at hl 1 rfl) ?_
  refine dw_ia (x := 7) hx hb hG 1 0 rfl rfl (v) rfl (by omega) (by decide) em dM_learn_5 ?_
  refine lv_if_eq (tgt := 19) hx hb dM_learn_6 (by decide) (fun h6 => ?_) (fun h6 => ?_)
  · skip
    replace h6 := (nI_eq (a := 7) (b := 0) (by omega) (by omega)).mp h6
    (exfalso; omega)
  replace h6 : ¬ 7 = 0 := fun q => h6 ((nI_eq (a := 7) (b := 0) (by omega) (by omega)).mpr q)
  refine lv_aload_n hx hb dM_learn_9 rfl (lv_at hl 0 rfl) ?_
  refine dw_get hx hb hts inMc hown hG 0 2 rfl rfl (by decide) hw496 rfl rfl dM_learn_10 ?_
  refine lv_iload_n hx hb dM_learn_13 rfl (lv_at hl 1 rfl) ?_
  refine dw_ia (x := 7) hx hb hG 1 0 rfl rfl (v) rfl (by omega) (by decide) em dM_learn_14 ?_
  refine lv_iconst (v := 1) hx hb dM_learn_15 (by decide) ?_
  refine lv_icmp_ne (tgt := 42) hx hb dM_learn_16 (by decide) (fun h16 => ?_) (fun h16 => ?_)
  · skip
    replace h16 : ¬ 7 = 1 := fun q => h16 ((nI_eq (a := 7) (b := 1) (by omega) (by omega)).mpr q)
    refine lv_aload_n hx hb dM_learn_42 rfl (lv_at hl 0 rfl) ?_
    refine dw_get hx hb hts inMc hown hG 0 2 rfl rfl (by decide) hw496 rfl rfl dM_learn_43 ?_
    refine lv_iload_n hx hb dM_learn_46 rfl (lv_at hl 1 rfl) ?_
    refine dw_ia (x := 7) hx hb hG 1 0 rfl rfl (v) rfl (by omega) (by decide) em dM_learn_47 ?_
    refine lv_iconst (v := 2) hx hb dM_learn_48 (by decide) ?_
    refine lv_icmp_ne (tgt := 60) hx hb dM_learn_49 (by decide) (fun h49 => ?_) (fun h49 => ?_)
    · skip
      replace h49 : ¬ 7 = 2 := fun q => h49 ((nI_eq (a := 7) (b := 2) (by omega) (by omega)).mpr q)
      refine lv_iconst (v := 0) hx hb dM_learn_60 (by decide) ?_
      refine lv_istore_n (lv' := [(2, .int (0)), (0, .ref m0), (1, .int (nI (v)))]) hx hb dM_learn_61 rfl hl (by decide) rfl (fun ls hl => ?_)
      have L62 : ∀ (zz : Nat) (k : Nat) (G : Nat → Int32) (ls : Array Slot) (H : Heap) (locs : List Loc), 32 - k < zz → k ≤ 32 → db_out Fa G v → db_part G v k (db_F 7 (nI dd) zx ox zy oy 0 0).1 (db_F 7 (nI dd) zx ox zy oy 0 0).2 → lv_has ls 6 [(0, .ref m0), (1, .int (nI (v))), (2, .int (nI (k)))] → dw_G (dC, dI) vwCl [(cI, .int), (cZ, .boolean)] A s.heap s [(m0, .inr (5, [.int (ft), .int (vl), .ref aMd, .ref aO1, .ref aT2, .int (rs), .ref aSh, .ref aMk, .ref aFa, .ref aDe, .ref aNe, .ref aBy, .ref aPi, .int (pd), .ref aNw, .ref aNs, .ref aBf, .int (rn), .int (rr)])), (aMd, .inl (cI, 24, .inl (Md))), (aO1, .inl (cI, 24, .inl (O1))), (aT2, .inl (cI, 24, .inl (T2))), (aFa, .inl (cI, 768, .inl (G)))] H locs → W p l e (headSpec wsM_learn { frames := 2, cells := 0, slots := 0, locals := 60 }).room s m [.ref m0, .int (nI (v))].toArray below meth c H locs 0 0 Q (F0 m 62 ls []) := by
        intro zz
        induction zz with
        | zero => intro k G ls H locs hz; exact absurd hz (Nat.not_lt_zero _)
        | succ zz L62_ih =>
          intro k G ls H locs hz hk ho hp9 hl hG
          refine lv_iload_n hx hb dM_learn_62 rfl (lv_at hl 2 rfl) ?_
          refine lv_bipush (v := 32) hx hb dM_learn_63 (by decide) ?_
          refine lv_icmp_ge (tgt := 312) hx hb dM_learn_65 (by decide) (fun h65 => ?_) (fun h65 => ?_)
          · skip
            replace h65 := (nI_leI (a := 32) (b := k) (by omega) (by omega)).mp h65
            subst hQ
            exact dw_vret hx hb hr hG (G) rfl ⟨ho, by rw [show k = 32 by omega] at hp9; exact hp9⟩ dM_learn_312 hlocks
          replace h65 : ¬ 32 ≤ k := fun q => h65 ((nI_leI (a := 32) (b := k) (by omega) (by omega)).mpr q)
          refine lv_aload_n hx hb dM_learn_68 rfl (lv_at hl 0 rfl) ?_
          refine dw_get hx hb hts inMc hown hG 0 2 rfl rfl (by decide) hw496 rfl rfl dM_learn_69 ?_
          refine lv_iload_n hx hb dM_learn_72 rfl (lv_at hl 1 rfl) ?_
          refine dw_ia (x := 7) hx hb hG 1 0 rfl rfl (v) rfl (by omega) (by decide) em dM_learn_73 ?_
          refine lv_iconst (v := 5) hx hb dM_learn_74 (by decide) ?_
          refine lv_icmp_gt (tgt := 97) hx hb dM_learn_75 (by decide) (fun h75 => ?_) (fun h75 => ?_)
          · skip
            replace h75 := (nI_ltI (a := 5) (b := 7) (by omega) (by omega)).mp h75
            refine lv_iconst (v := 2) hx hb dM_learn_97 (by decide) ?_
            refine lv_istore_n (lv' := [(3, .int (2)), (0, .ref m0), (1, .int (nI (v))), (2, .int (nI (k)))]) hx hb dM_learn_98 rfl hl (by decide) rfl (fun ls hl => ?_)
            refine lv_aload_n hx hb dM_learn_99 rfl (lv_at hl 1 rfl) ?_
            refine dw_get hx hb hts inMc hown hG 0 2 rfl rfl (by decide) hw496 rfl rfl dM_learn_100 ?_
            refine lv_iload_n hx hb dM_learn_103 rfl (lv_at hl 2 rfl) ?_
            refine dw_ia (x := 7) hx hb hG 1 0 rfl rfl (v) rfl (by omega) (by decide) em dM_learn_104 ?_
            refine lv_iconst (v := 5) hx hb dM_learn_105 (by decide) ?_
            refine lv_icmp_gt (tgt := 128) hx hb dM_learn_106 (by decide) (fun h106 => ?_) (fun h106 => ?_)
            · skip
              replace h106 := (nI_ltI (a := 5) (b := 7) (by omega) (by omega)).mp h106
              refine lv_iconst (v := 2) hx hb dM_learn_128 (by decide) ?_
              refine lv_istore (lv' := [(4, .int (2)), (3, .int (2)), (0, .ref m0), (1, .int (nI (v))), (2, .int (nI (k)))]) hx hb dM_learn_129 hl (by decide) rfl (fun ls hl => ?_)
              refine lv_bipush (v := 32) hx hb dM_learn_131 (by decide) ?_
              refine lv_iload_n hx hb dM_learn_133 rfl (lv_at hl 3 rfl) ?_
              refine lv_imul hx hb dM_learn_134 ?_
              refine lv_topi (nm_r (pk_mul (32) (v)) ?_)
              refine lv_iload_n hx hb dM_learn_135 rfl (lv_at hl 4 rfl) ?_
              refine lv_iadd hx hb dM_learn_136 ?_
              refine lv_topi (nm_r (nI_add (32 * (v)) (k)) ?_)
              refine lv_istore (lv' := [(5, .int (nI (32 * (v) + k))), (4, .int (2)), (3, .int (2)), (0, .ref m0), (1, .int (nI (v))), (2, .int (nI (k)))]) hx hb dM_learn_137 hl (by decide) rfl (fun ls hl => ?_)
              refine lv_aload_n hx hb dM_learn_139 rfl (lv_at hl 3 rfl) ?_
              refine dw_get hx hb hts inMc hown hG 0 2 rfl rfl (by decide) hw496 rfl rfl dM_learn_140 ?_
              refine lv_iload_n hx hb dM_learn_143 rfl (lv_at hl 4 rfl) ?_
              refine dw_ia (x := 7) hx hb hG 1 0 rfl rfl (v) rfl (by omega) (by decide) em dM_learn_144 ?_
              refine lv_tableIn (tgt := 293) hx hb dM_learn_145 (by decide) (by decide) rfl (by decide) ?_
              refine lv_aload_n hx hb dM_learn_293 rfl (lv_at hl 3 rfl) ?_
              refine dw_get hx hb hts inMc hown hG 0 8 rfl rfl (by decide) hw502 rfl rfl dM_learn_294 ?_
              refine lv_iload hx hb dM_learn_297 (lv_at hl 0 rfl) ?_
              refine lv_aload_n hx hb dM_learn_299 rfl (lv_at hl 3 rfl) ?_
              refine lv_iload_n hx hb dM_learn_300 rfl (lv_at hl 4 rfl) ?_
              refine lv_iload_n hx hb dM_learn_301 rfl (lv_at hl 5 rfl) ?_
              refine dw_calli (wc := [(m0, .inr (5, [.int (ft), .int (vl), .ref aMd, .ref aO1, .ref aT2, .int (rs), .ref aSh, .ref aMk, .ref aFa, .ref aDe, .ref aNe, .ref aBy, .ref aPi, .int (pd), .ref aNw, .ref aNs, .ref aBf, .int (rn), .int (rr)])), (aMd, .inl (cI, 24, .inl (Md))), (aO1, .inl (cI, 24, .inl (O1))), (aT2, .inl (cI, 24, .inl (T2))), (aFa, .inl (cI, 768, .inl (G)))]) (wr := []) hG [0, 1, 2, 3, 4] [] rfl rfl (by decide) (by decide) (va_runV (As := [.int (nI (v)), .int (nI (k))]) (rest := [.int (nI (32 * (v) + k)), .ref aFa]) ⟨hx, hb, hml, hown, hts⟩ (rf_from7 l dC dI cI cZ m0 aMd aO1 aT2 aSh aMk aFa aDe aNe aBy aPi aNw aNs aBf ft vl rs pd rn rr v x k dd Md O1 T2 G zx ox zy oy H.size hv hxv (by omega) em e1 (db_rep_out hfx ho (by omega)) hdd e2) (dc_V 2 hts tw_636 tw_638 tp_M_from tw_7 tw_639 rfl rfl (by decide +kernel) ⟨Nat.le_of_ble_eq_true rfl, Nat.le_of_ble_eq_true rfl⟩) (dw_preV (ci := 5) hG [0, 1, 2, 3, 4] [0, 1] rfl rfl (by decide) rfl rfl (q0 := 0) rfl) rfl rfl hl.1 rfl (lv_room (Nat.le_of_ble_eq_true rfl)) dM_learn_302 ⟨Nat.le_refl _, Nat.le_refl _⟩) (fun r u H locs hp hG => ?_)
              subst hp
              have hG : dw_G (dC, dI) vwCl [(cI, .int), (cZ, .boolean)] A s.heap s [(m0, .inr (5, [.int (ft), .int (vl), .ref aMd, .ref aO1, .ref aT2, .int (rs), .ref aSh, .ref aMk, .ref aFa, .ref aDe, .ref aNe, .ref aBy, .ref aPi, .int (pd), .ref aNw, .ref aNs, .ref aBf, .int (rn), .int (rr)])), (aMd, .inl (cI, 24, .inl (Md))), (aO1, .inl (cI, 24, .inl (O1))), (aT2, .inl (cI, 24, .inl (T2))), (aFa, .inl (cI, 768, .inl (G)))] H locs := hG
              refine dw_is (ws' := [(m0, .inr (5, [.int (ft), .int (vl), .ref aMd, .ref aO1, .ref aT2, .int (rs), .ref aSh, .ref aMk, .ref aFa, .ref aDe, .ref aNe, .ref aBy, .ref aPi, .int (pd), .ref aNw, .ref aNs, .ref aBf, .int (rn), .int (rr)])), (aMd, .inl (cI, 24, .inl (Md))), (aO1, .inl (cI, 24, .inl (O1))), (aT2, .inl (cI, 24, .inl (T2))), (aFa, .inl (cI, 768, .inl (upd (G) (32 * (v) + k) (db_tri (bt (db_F 7 (nI dd) zx ox zy oy 0 0).1 k) (bt (db_F 7 (nI dd) zx ox zy oy 0 0).2 k)))))]) hx hb hG 4 0 rfl rfl (32 * (v) + k) rfl (by omega) (by decide) dM_learn_305 rfl (fun H locs hG => ?_)
              refine lv_iinc (v := nI (k + 1)) (lv' := [(2, .int (nI (k + 1))), (5, .int (nI (32 * (v) + k))), (4, .int (2)), (3, .int (2)), (0, .ref m0), (1, .int (nI (v)))]) hx hb dM_learn_306 hl (k := 5) rfl (dw_inc (k)) (by decide) rfl (fun ls hl => ?_)
              refine lv_goto (tgt := 62) hx hb dM_learn_309 (by decide) ?_
              exact L62_ih (k + 1) (upd (G) (32 * (v) + k) (db_tri (bt (db_F 7 (nI dd) zx ox zy oy 0 0).1 k) (bt (db_F 7 (nI dd) zx ox zy oy 0 0).2 k))) ls H locs (by omega) (by omega) (db_out_upd _ ho (by omega)) (db_part_s hp9 rfl) (lv_sub hl [4, 5, 0] rfl) hG
            replace h106 : ¬ 5 < 7 := fun q => h106 ((nI_ltI (a := 5) (b := 7) (by omega) (by omega)).mpr q)
            (exfalso; omega)
          replace h75 : ¬ 5 < 7 := fun q => h75 ((nI_ltI (a := 5) (b := 7) (by omega) (by omega)).mpr q)
          (exfalso; omega)
      exact L62 _ (0) (Fa) ls H locs (Nat.lt_succ_self _) (by omega) (db_out_rfl _ _) (db_part0 _ _ _ _) (lv_sub hl [1, 2, 0] rfl) hG
    replace h49 := (nI_eq (a := 7) (b := 2) (by omega) (by omega)).mp h49
    (exfalso; omega)
  replace h16 := (nI_eq (a := 7) (b := 1) (by omega) (by omega)).mp h16
  (exfalso; omega)

set_option maxRecDepth 100000 in
set_option maxHeartbeats 4000000 in
theorem rf_learn8 (l : Launch) (dC : Nat → ClassId) (dI : Nat → Nat → Nat) (cI cZ : ClassId) (m0 aMd aO1 aT2 aSh aMk aFa aDe aNe aBy aPi aNw aNs aBf : Nat) (ft vl rs pd rn rr : Int32) (v x y : Nat) (d : Int32) (Md O1 T2 Fa : Nat → Int32) (zx ox zy oy : Int32) (dd : Nat) (sz : Nat) (hv : v < 24) (em : Md v = nI 8) (hxv : x < v) (e1 : O1 v = nI x) (hfx : db_rep Fa x zx ox) (hax : db_ap zx ox) (hdd : dd < 32) (e2 : T2 v = nI dd) : Met l yM_learn wsM_learn { frames := 2, cells := 0, slots := 0, locals := 60 } (va_Pc [.ref m0, .int (nI (v))] (dw_pre (dC, dI) vwCl [(m0, .inr (5, [.int (ft), .int (vl), .ref aMd, .ref aO1, .ref aT2, .int (rs), .ref aSh, .ref aMk, .ref aFa, .ref aDe, .ref aNe, .ref aBy, .ref aPi, .int (pd), .ref aNw, .ref aNs, .ref aBf, .int (rn), .int (rr)])), (aMd, .inl (cI, 24, .inl (Md))), (aO1, .inl (cI, 24, .inl (O1))), (aT2, .inl (cI, 24, .inl (T2))), (aFa, .inl (cI, 768, .inl (Fa)))] [(cI, .int), (cZ, .boolean)] sz)) (va_Qv (fun (u : Nat → Int32) => db_out Fa u v ∧ db_rep u v (db_F 8 (nI dd) zx ox zy oy 0 0).1 (db_F 8 (nI dd) zx ox zy oy 0 0).2) (fun u t => dw_post (dC, dI) vwCl [(m0, .inr (5, [.int (ft), .int (vl), .ref aMd, .ref aO1, .ref aT2, .int (rs), .ref aSh, .ref aMk, .ref aFa, .ref aDe, .ref aNe, .ref aBy, .ref aPi, .int (pd), .ref aNw, .ref aNs, .ref aBf, .int (rn), .int (rr)])), (aMd, .inl (cI, 24, .inl (Md))), (aO1, .inl (cI, 24, .inl (O1))), (aT2, .inl (cI, 24, .inl (T2))), (aFa, .inl (cI, 768, .inl (u)))] [(cI, .int), (cZ, .boolean)] (va_A [(m0, .inr (5, [.int (ft), .int (vl), .ref aMd, .ref aO1, .ref aT2, .int (rs), .ref aSh, .ref aMk, .ref aFa, .ref aDe, .ref aNe, .ref aBy, .ref aPi, .int (pd), .ref aNw, .ref aNs, .ref aBf, .int (rn), .int (rr)])), (aMd, .inl (cI, 24, .inl (Md))), (aO1, .inl (cI, 24, .inl (O1))), (aT2, .inl (cI, 24, .inl (T2))), (aFa, .inl (cI, 768, .inl (Fa)))] sz) t) (va_A [(m0, .inr (5, [.int (ft), .int (vl), .ref aMd, .ref aO1, .ref aT2, .int (rs), .ref aSh, .ref aMk, .ref aFa, .ref aDe, .ref aNe, .ref aBy, .ref aPi, .int (pd), .ref aNw, .ref aNs, .ref aBf, .int (rn), .int (rr)])), (aMd, .inl (cI, 24, .inl (Md))), (aO1, .inl (cI, 24, .inl (O1))), (aT2, .inl (cI, 24, .inl (T2))), (aFa, .inl (cI, 768, .inl (Fa)))] sz)) 0 0 (va_A [(m0, .inr (5, [.int (ft), .int (vl), .ref aMd, .ref aO1, .ref aT2, .int (rs), .ref aSh, .ref aMk, .ref aFa, .ref aDe, .ref aNe, .ref aBy, .ref aPi, .int (pd), .ref aNw, .ref aNs, .ref aBf, .int (rn), .int (rr)])), (aMd, .inl (cI, 24, .inl (Md))), (aO1, .inl (cI, 24, .inl (O1))), (aT2, .inl (cI, 24, .inl (T2))), (aFa, .inl (cI, 768, .inl (Fa)))] sz) := by
  refine Met.ofW (cc := cM_learn) (maxL := 6) (ret := none) (by decide) rfl ?_
  intro p e s m args below meth c s₁ B hml hv0
  have hx := B.exec
  have hb := B.bytes
  have hr := B.returns
  have hts := atoms_spec (ws := wsM_learn) B.pre
  have hown : s.vm.findClass RM = some m.cls := findClass_of_methodNamed B.named
  have hlocks := B.notSynchronized
  obtain ⟨rfl, hsz, hG⟩ := dw_enter hv0
  generalize va_A [(m0, .inr (5, [.int (ft), .int (vl), .ref aMd, .ref aO1, .ref aT2, .int (rs), .ref aSh, .ref aMk, .ref aFa, .ref aDe, .ref aNe, .ref aBy, .ref aPi, .int (pd), .ref aNw, .ref aNs, .ref aBf, .int (rn), .int (rr)])), (aMd, .inl (cI, 24, .inl (Md))), (aO1, .inl (cI, 24, .inl (O1))), (aT2, .inl (cI, 24, .inl (T2))), (aFa, .inl (cI, 768, .inl (Fa)))] sz = A at hG ⊢
  have hl := lv_entry ([.ref m0, .int (nI (v))]) (n := 6) (Nat.le_of_ble_eq_true rfl)
  rw [lg_entry_eq]
  generalize (lg_sl ([.ref m0, .int (nI (v))]) ++ List.replicate (6 - (lg_sl ([.ref m0, .int (nI (v))])).length) Slot.unset).toArray = ls at hl ⊢
  have hl : lv_has ls 6 [(0, .ref m0), (1, .int (nI (v)))] := hl
  have hw496 := hts _ (List.mem_cons_of_mem _ tw_496)
  have hw502 := hts _ (List.mem_cons_of_mem _ tw_502)
  refine dw_Q (fun Q hQ => ?_)
  suffices hgo : ∀ (H : Heap) (locs : List Loc), dw_G (dC, dI) vwCl [(cI, .int), (cZ, .boolean)] A s.heap s [(m0, .inr (5, [.int (ft), .int (vl), .ref aMd, .ref aO1, .ref aT2, .int (rs), .ref aSh, .ref aMk, .ref aFa, .ref aDe, .ref aNe, .ref aBy, .ref aPi, .int (pd), .ref aNw, .ref aNs, .ref aBf, .int (rn), .int (rr)])), (aMd, .inl (cI, 24, .inl (Md))), (aO1, .inl (cI, 24, .inl (O1))), (aT2, .inl (cI, 24, .inl (T2))), (aFa, .inl (cI, 768, .inl (Fa)))] H locs → W p l e (headSpec wsM_learn { frames := 2, cells := 0, slots := 0, locals := 60 }).room s m [.ref m0, .int (nI (v))].toArray below meth c H locs 0 0 Q (F0 m 0 ls []) from hgo _ _ hG
  clear hG
  intro H locs hG
  refine lv_aload_n hx hb dM_learn_0 rfl (lv_at hl 0 rfl) ?_
  refine dw_get hx hb hts inMc hown hG 0 2 rfl rfl (by decide) hw496 rfl rfl dM_learn_1 ?_
  refine lv_iload_n hx hb dM_learn_4 rfl (lv_at hl 1 rfl) ?_
  refine dw_ia (x := 8) hx hb hG 1 0 rfl rfl (v) rfl (by omega) (by decide) em dM_learn_5 ?_
  refine lv_if_eq (tgt := 19) hx hb dM_learn_6 (by decide) (fun h6 => ?_) (fun h6 => ?_)
  · skip
    replace h6 := (nI_eq (a := 8) (b := 0) (by omega) (by omega)).mp h6
    (exfalso; omega)
  replace h6 : ¬ 8 = 0 := fun q => h6 ((nI_eq (a := 8) (b := 0) (by omega) (by omega)).mpr q)
  refine lv_aload_n hx hb dM_learn_9 rfl (lv_at hl 0 rfl) ?_
  refine dw_get hx hb hts inMc hown hG 0 2 rfl rfl (by decide) hw496 rfl rfl dM_learn_10 ?_
  refine lv_iload_n hx hb dM_learn_13 rfl (lv_at hl 1 rfl) ?_
  refine dw_ia (x := 8) hx hb hG 1 0 rfl rfl (v) rfl (by omega) (by decide) em dM_learn_14 ?_
  refine lv_iconst (v := 1) hx hb dM_learn_15 (by decide) ?_
  refine lv_icmp_ne (tgt := 42) hx hb dM_learn_16 (by decide) (fun h16 => ?_) (fun h16 => ?_)
  · skip
    replace h16 : ¬ 8 = 1 := fun q => h16 ((nI_eq (a := 8) (b := 1) (by omega) (by omega)).mpr q)
    refine lv_aload_n hx hb dM_learn_42 rfl (lv_at hl 0 rfl) ?_
    refine dw_get hx hb hts inMc hown hG 0 2 rfl rfl (by decide) hw496 rfl rfl dM_learn_43 ?_
    refine lv_iload_n hx hb dM_learn_46 rfl (lv_at hl 1 rfl) ?_
    refine dw_ia (x := 8) hx hb hG 1 0 rfl rfl (v) rfl (by omega) (by decide) em dM_learn_47 ?_
    refine lv_iconst (v := 2) hx hb dM_learn_48 (by decide) ?_
    refine lv_icmp_ne (tgt := 60) hx hb dM_learn_49 (by decide) (fun h49 => ?_) (fun h49 => ?_)
    · skip
      replace h49 : ¬ 8 = 2 := fun q => h49 ((nI_eq (a := 8) (b := 2) (by omega) (by omega)).mpr q)
      refine lv_iconst (v := 0) hx hb dM_learn_60 (by decide) ?_
      refine lv_istore_n (lv' := [(2, .int (0)), (0, .ref m0), (1, .int (nI (v)))]) hx hb dM_learn_61 rfl hl (by decide) rfl (fun ls hl => ?_)
      have L62 : ∀ (zz : Nat) (k : Nat) (G : Nat → Int32) (ls : Array Slot) (H : Heap) (locs : List Loc), 32 - k < zz → k ≤ 32 → db_out Fa G v → db_part G v k (db_F 8 (nI dd) zx ox zy oy 0 0).1 (db_F 8 (nI dd) zx ox zy oy 0 0).2 → lv_has ls 6 [(0, .ref m0), (1, .int (nI (v))), (2, .int (nI (k)))] → dw_G (dC, dI) vwCl [(cI, .int), (cZ, .boolean)] A s.heap s [(m0, .inr (5, [.int (ft), .int (vl), .ref aMd, .ref aO1, .ref aT2, .int (rs), .ref aSh, .ref aMk, .ref aFa, .ref aDe, .ref aNe, .ref aBy, .ref aPi, .int (pd), .ref aNw, .ref aNs, .ref aBf, .int (rn), .int (rr)])), (aMd, .inl (cI, 24, .inl (Md))), (aO1, .inl (cI, 24, .inl (O1))), (aT2, .inl (cI, 24, .inl (T2))), (aFa, .inl (cI, 768, .inl (G)))] H locs → W p l e (headSpec wsM_learn { frames := 2, cells := 0, slots := 0, locals := 60 }).room s m [.ref m0, .int (nI (v))].toArray below meth c H locs 0 0 Q (F0 m 62 ls []) := by
        intro zz
        induction zz with
        | zero => intro k G ls H locs hz; exact absurd hz (Nat.not_lt_zero _)
        | succ zz L62_ih =>
          intro k G ls H locs hz hk ho hp9 hl hG
          refine lv_iload_n hx hb dM_learn_62 rfl (lv_at hl 2 rfl) ?_
          refine lv_bipush (v := 32) hx hb dM_learn_63 (by decide) ?_
          refine lv_icmp_ge (tgt := 312) hx hb dM_learn_65 (by decide) (fun h65 => ?_) (fun h65 => ?_)
          · skip
            replace h65 := (nI_leI (a := 32) (b := k) (by omega) (by omega)).mp h65
            subst hQ
            exact dw_vret hx hb hr hG (G) rfl ⟨ho, by rw [show k = 32 by omega] at hp9; exact hp9⟩ dM_learn_312 hlocks
          replace h65 : ¬ 32 ≤ k := fun q => h65 ((nI_leI (a := 32) (b := k) (by omega) (by omega)).mpr q)
          refine lv_aload_n hx hb dM_learn_68 rfl (lv_at hl 0 rfl) ?_
          refine dw_get hx hb hts inMc hown hG 0 2 rfl rfl (by decide) hw496 rfl rfl dM_learn_69 ?_
          refine lv_iload_n hx hb dM_learn_72 rfl (lv_at hl 1 rfl) ?_
          refine dw_ia (x := 8) hx hb hG 1 0 rfl rfl (v) rfl (by omega) (by decide) em dM_learn_73 ?_
          refine lv_iconst (v := 5) hx hb dM_learn_74 (by decide) ?_
          refine lv_icmp_gt (tgt := 97) hx hb dM_learn_75 (by decide) (fun h75 => ?_) (fun h75 => ?_)
          · skip
            replace h75 := (nI_ltI (a := 5) (b := 8) (by omega) (by omega)).mp h75
            refine lv_iconst (v := 2) hx hb dM_learn_97 (by decide) ?_
            refine lv_istore_n (lv' := [(3, .int (2)), (0, .ref m0), (1, .int (nI (v))), (2, .int (nI (k)))]) hx hb dM_learn_98 rfl hl (by decide) rfl (fun ls hl => ?_)
            refine lv_aload_n hx hb dM_learn_99 rfl (lv_at hl 1 rfl) ?_
            refine dw_get hx hb hts inMc hown hG 0 2 rfl rfl (by decide) hw496 rfl rfl dM_learn_100 ?_
            refine lv_iload_n hx hb dM_learn_103 rfl (lv_at hl 2 rfl) ?_
            refine dw_ia (x := 8) hx hb hG 1 0 rfl rfl (v) rfl (by omega) (by decide) em dM_learn_104 ?_
            refine lv_iconst (v := 5) hx hb dM_learn_105 (by decide) ?_
            refine lv_icmp_gt (tgt := 128) hx hb dM_learn_106 (by decide) (fun h106 => ?_) (fun h106 => ?_)
            · skip
              replace h106 := (nI_ltI (a := 5) (b := 8) (by omega) (by omega)).mp h106
              refine lv_iconst (v := 2) hx hb dM_learn_128 (by decide) ?_
              refine lv_istore (lv' := [(4, .int (2)), (3, .int (2)), (0, .ref m0), (1, .int (nI (v))), (2, .int (nI (k)))]) hx hb dM_learn_129 hl (by decide) rfl (fun ls hl => ?_)
              refine lv_bipush (v := 32) hx hb dM_learn_131 (by decide) ?_
              refine lv_iload_n hx hb dM_learn_133 rfl (lv_at hl 3 rfl) ?_
              refine lv_imul hx hb dM_learn_134 ?_
              refine lv_topi (nm_r (pk_mul (32) (v)) ?_)
              refine lv_iload_n hx hb dM_learn_135 rfl (lv_at hl 4 rfl) ?_
              refine lv_iadd hx hb dM_learn_136 ?_
              refine lv_topi (nm_r (nI_add (32 * (v)) (k)) ?_)
              refine lv_istore (lv' := [(5, .int (nI (32 * (v) + k))), (4, .int (2)), (3, .int (2)), (0, .ref m0), (1, .int (nI (v))), (2, .int (nI (k)))]) hx hb dM_learn_137 hl (by decide) rfl (fun ls hl => ?_)
              refine lv_aload_n hx hb dM_learn_139 rfl (lv_at hl 3 rfl) ?_
              refine dw_get hx hb hts inMc hown hG 0 2 rfl rfl (by decide) hw496 rfl rfl dM_learn_140 ?_
              refine lv_iload_n hx hb dM_learn_143 rfl (lv_at hl 4 rfl) ?_
              refine dw_ia (x := 8) hx hb hG 1 0 rfl rfl (v) rfl (by omega) (by decide) em dM_learn_144 ?_
              refine lv_tableIn (tgt := 293) hx hb dM_learn_145 (by decide) (by decide) rfl (by decide) ?_
              refine lv_aload_n hx hb dM_learn_293 rfl (lv_at hl 3 rfl) ?_
              refine dw_get hx hb hts inMc hown hG 0 8 rfl rfl (by decide) hw502 rfl rfl dM_learn_294 ?_
              refine lv_iload hx hb dM_learn_297 (lv_at hl 0 rfl) ?_
              refine lv_aload_n hx hb dM_learn_299 rfl (lv_at hl 3 rfl) ?_
              refine lv_iload_n hx hb dM_learn_300 rfl (lv_at hl 4 rfl) ?_
              refine lv_iload_n hx hb dM_learn_301 rfl (lv_at hl 5 rfl) ?_
              refine dw_calli (wc := [(m0, .inr (5, [.int (ft), .int (vl), .ref aMd, .ref aO1, .ref aT2, .int (rs), .ref aSh, .ref aMk, .ref aFa, .ref aDe, .ref aNe, .ref aBy, .ref aPi, .int (pd), .ref aNw, .ref aNs, .ref aBf, .int (rn), .int (rr)])), (aMd, .inl (cI, 24, .inl (Md))), (aO1, .inl (cI, 24, .inl (O1))), (aT2, .inl (cI, 24, .inl (T2))), (aFa, .inl (cI, 768, .inl (G)))]) (wr := []) hG [0, 1, 2, 3, 4] [] rfl rfl (by decide) (by decide) (va_runV (As := [.int (nI (v)), .int (nI (k))]) (rest := [.int (nI (32 * (v) + k)), .ref aFa]) ⟨hx, hb, hml, hown, hts⟩ (rf_from8 l dC dI cI cZ m0 aMd aO1 aT2 aSh aMk aFa aDe aNe aBy aPi aNw aNs aBf ft vl rs pd rn rr v x k dd Md O1 T2 G zx ox zy oy H.size hv hxv (by omega) em e1 (db_rep_out hfx ho (by omega)) hdd e2) (dc_V 2 hts tw_636 tw_638 tp_M_from tw_7 tw_639 rfl rfl (by decide +kernel) ⟨Nat.le_of_ble_eq_true rfl, Nat.le_of_ble_eq_true rfl⟩) (dw_preV (ci := 5) hG [0, 1, 2, 3, 4] [0, 1] rfl rfl (by decide) rfl rfl (q0 := 0) rfl) rfl rfl hl.1 rfl (lv_room (Nat.le_of_ble_eq_true rfl)) dM_learn_302 ⟨Nat.le_refl _, Nat.le_refl _⟩) (fun r u H locs hp hG => ?_)
              subst hp
              have hG : dw_G (dC, dI) vwCl [(cI, .int), (cZ, .boolean)] A s.heap s [(m0, .inr (5, [.int (ft), .int (vl), .ref aMd, .ref aO1, .ref aT2, .int (rs), .ref aSh, .ref aMk, .ref aFa, .ref aDe, .ref aNe, .ref aBy, .ref aPi, .int (pd), .ref aNw, .ref aNs, .ref aBf, .int (rn), .int (rr)])), (aMd, .inl (cI, 24, .inl (Md))), (aO1, .inl (cI, 24, .inl (O1))), (aT2, .inl (cI, 24, .inl (T2))), (aFa, .inl (cI, 768, .inl (G)))] H locs := hG
              refine dw_is (ws' := [(m0, .inr (5, [.int (ft), .int (vl), .ref aMd, .ref aO1, .ref aT2, .int (rs), .ref aSh, .ref aMk, .ref aFa, .ref aDe, .ref aNe, .ref aBy, .ref aPi, .int (pd), .ref aNw, .ref aNs, .ref aBf, .int (rn), .int (rr)])), (aMd, .inl (cI, 24, .inl (Md))), (aO1, .inl (cI, 24, .inl (O1))), (aT2, .inl (cI, 24, .inl (T2))), (aFa, .inl (cI, 768, .inl (upd (G) (32 * (v) + k) (db_tri (bt (db_F 8 (nI dd) zx ox zy oy 0 0).1 k) (bt (db_F 8 (nI dd) zx ox zy oy 0 0).2 k)))))]) hx hb hG 4 0 rfl rfl (32 * (v) + k) rfl (by omega) (by decide) dM_learn_305 rfl (fun H locs hG => ?_)
              refine lv_iinc (v := nI (k + 1)) (lv' := [(2, .int (nI (k + 1))), (5, .int (nI (32 * (v) + k))), (4, .int (2)), (3, .int (2)), (0, .ref m0), (1, .int (nI (v)))]) hx hb dM_learn_306 hl (k := 5) rfl (dw_inc (k)) (by decide) rfl (fun ls hl => ?_)
              refine lv_goto (tgt := 62) hx hb dM_learn_309 (by decide) ?_
              exact L62_ih (k + 1) (upd (G) (32 * (v) + k) (db_tri (bt (db_F 8 (nI dd) zx ox zy oy 0 0).1 k) (bt (db_F 8 (nI dd) zx ox zy oy 0 0).2 k))) ls H locs (by omega) (by omega) (db_out_upd _ ho (by omega)) (db_part_s hp9 rfl) (lv_sub hl [4, 5, 0] rfl) hG
            replace h106 : ¬ 5 < 8 := fun q => h106 ((nI_ltI (a := 5) (b := 8) (by omega) (by omega)).mpr q)
            (exfalso; omega)
          replace h75 : ¬ 5 < 8 := fun q => h75 ((nI_ltI (a := 5) (b := 8) (by omega) (by omega)).mpr q)
          (exfalso; omega)
      exact L62 _ (0) (Fa) ls H locs (Nat.lt_succ_self _) (by omega) (db_out_rfl _ _) (db_part0 _ _ _ _) (lv_sub hl [1, 2, 0] rfl) hG
    replace h49 := (nI_eq (a := 8) (b := 2) (by omega) (by omega)).mp h49
    (exfalso; omega)
  replace h16 := (nI_eq (a := 8) (b := 1) (by omega) (by omega)).mp h16
  (exfalso; omega)

set_option maxRecDepth 100000 in
set_option maxHeartbeats 4000000 in
theorem rf_learn9 (l : Launch) (dC : Nat → ClassId) (dI : Nat → Nat → Nat) (cI cZ : ClassId) (m0 aMd aO1 aT2 aSh aMk aFa aDe aNe aBy aPi aNw aNs aBf : Nat) (ft vl rs pd rn rr : Int32) (v x y : Nat) (d : Int32) (Md O1 T2 Fa : Nat → Int32) (zx ox zy oy : Int32) (sz : Nat) (hv : v < 24) (em : Md v = nI 12) : Met l yM_learn wsM_learn { frames := 2, cells := 0, slots := 0, locals := 60 } (va_Pc [.ref m0, .int (nI (v))] (dw_pre (dC, dI) vwCl [(m0, .inr (5, [.int (ft), .int (vl), .ref aMd, .ref aO1, .ref aT2, .int (rs), .ref aSh, .ref aMk, .ref aFa, .ref aDe, .ref aNe, .ref aBy, .ref aPi, .int (pd), .ref aNw, .ref aNs, .ref aBf, .int (rn), .int (rr)])), (aMd, .inl (cI, 24, .inl (Md))), (aO1, .inl (cI, 24, .inl (O1))), (aT2, .inl (cI, 24, .inl (T2))), (aFa, .inl (cI, 768, .inl (Fa)))] [(cI, .int), (cZ, .boolean)] sz)) (va_Qv (fun (u : Nat → Int32) => db_out Fa u v ∧ db_rep u v (db_F 9 d zx ox zy oy 0 0).1 (db_F 9 d zx ox zy oy 0 0).2) (fun u t => dw_post (dC, dI) vwCl [(m0, .inr (5, [.int (ft), .int (vl), .ref aMd, .ref aO1, .ref aT2, .int (rs), .ref aSh, .ref aMk, .ref aFa, .ref aDe, .ref aNe, .ref aBy, .ref aPi, .int (pd), .ref aNw, .ref aNs, .ref aBf, .int (rn), .int (rr)])), (aMd, .inl (cI, 24, .inl (Md))), (aO1, .inl (cI, 24, .inl (O1))), (aT2, .inl (cI, 24, .inl (T2))), (aFa, .inl (cI, 768, .inl (u)))] [(cI, .int), (cZ, .boolean)] (va_A [(m0, .inr (5, [.int (ft), .int (vl), .ref aMd, .ref aO1, .ref aT2, .int (rs), .ref aSh, .ref aMk, .ref aFa, .ref aDe, .ref aNe, .ref aBy, .ref aPi, .int (pd), .ref aNw, .ref aNs, .ref aBf, .int (rn), .int (rr)])), (aMd, .inl (cI, 24, .inl (Md))), (aO1, .inl (cI, 24, .inl (O1))), (aT2, .inl (cI, 24, .inl (T2))), (aFa, .inl (cI, 768, .inl (Fa)))] sz) t) (va_A [(m0, .inr (5, [.int (ft), .int (vl), .ref aMd, .ref aO1, .ref aT2, .int (rs), .ref aSh, .ref aMk, .ref aFa, .ref aDe, .ref aNe, .ref aBy, .ref aPi, .int (pd), .ref aNw, .ref aNs, .ref aBf, .int (rn), .int (rr)])), (aMd, .inl (cI, 24, .inl (Md))), (aO1, .inl (cI, 24, .inl (O1))), (aT2, .inl (cI, 24, .inl (T2))), (aFa, .inl (cI, 768, .inl (Fa)))] sz)) 0 0 (va_A [(m0, .inr (5, [.int (ft), .int (vl), .ref aMd, .ref aO1, .ref aT2, .int (rs), .ref aSh, .ref aMk, .ref aFa, .ref aDe, .ref aNe, .ref aBy, .ref aPi, .int (pd), .ref aNw, .ref aNs, .ref aBf, .int (rn), .int (rr)])), (aMd, .inl (cI, 24, .inl (Md))), (aO1, .inl (cI, 24, .inl (O1))), (aT2, .inl (cI, 24, .inl (T2))), (aFa, .inl (cI, 768, .inl (Fa)))] sz) := by
  refine Met.ofW (cc := cM_learn) (maxL := 6) (ret := none) (by decide) rfl ?_
  intro p e s m args below meth c s₁ B hml hv0
  have hx := B.exec
  have hb := B.bytes
  have hr := B.returns
  have hts := atoms_spec (ws := wsM_learn) B.pre
  have hown : s.vm.findClass RM = some m.cls := findClass_of_methodNamed B.named
  have hlocks := B.notSynchronized
  obtain ⟨rfl, hsz, hG⟩ := dw_enter hv0
  generalize va_A [(m0, .inr (5, [.int (ft), .int (vl), .ref aMd, .ref aO1, .ref aT2, .int (rs), .ref aSh, .ref aMk, .ref aFa, .ref aDe, .ref aNe, .ref aBy, .ref aPi, .int (pd), .ref aNw, .ref aNs, .ref aBf, .int (rn), .int (rr)])), (aMd, .inl (cI, 24, .inl (Md))), (aO1, .inl (cI, 24, .inl (O1))), (aT2, .inl (cI, 24, .inl (T2))), (aFa, .inl (cI, 768, .inl (Fa)))] sz = A at hG ⊢
  have hl := lv_entry ([.ref m0, .int (nI (v))]) (n := 6) (Nat.le_of_ble_eq_true rfl)
  rw [lg_entry_eq]
  generalize (lg_sl ([.ref m0, .int (nI (v))]) ++ List.replicate (6 - (lg_sl ([.ref m0, .int (nI (v))])).length) Slot.unset).toArray = ls at hl ⊢
  have hl : lv_has ls 6 [(0, .ref m0), (1, .int (nI (v)))] := hl
  have hw496 := hts _ (List.mem_cons_of_mem _ tw_496)
  have hw502 := hts _ (List.mem_cons_of_mem _ tw_502)
  refine dw_Q (fun Q hQ => ?_)
  suffices hgo : ∀ (H : Heap) (locs : List Loc), dw_G (dC, dI) vwCl [(cI, .int), (cZ, .boolean)] A s.heap s [(m0, .inr (5, [.int (ft), .int (vl), .ref aMd, .ref aO1, .ref aT2, .int (rs), .ref aSh, .ref aMk, .ref aFa, .ref aDe, .ref aNe, .ref aBy, .ref aPi, .int (pd), .ref aNw, .ref aNs, .ref aBf, .int (rn), .int (rr)])), (aMd, .inl (cI, 24, .inl (Md))), (aO1, .inl (cI, 24, .inl (O1))), (aT2, .inl (cI, 24, .inl (T2))), (aFa, .inl (cI, 768, .inl (Fa)))] H locs → W p l e (headSpec wsM_learn { frames := 2, cells := 0, slots := 0, locals := 60 }).room s m [.ref m0, .int (nI (v))].toArray below meth c H locs 0 0 Q (F0 m 0 ls []) from hgo _ _ hG
  clear hG
  intro H locs hG
  refine lv_aload_n hx hb dM_learn_0 rfl (lv_at hl 0 rfl) ?_
  refine dw_get hx hb hts inMc hown hG 0 2 rfl rfl (by decide) hw496 rfl rfl dM_learn_1 ?_
  refine lv_iload_n hx hb dM_learn_4 rfl (lv_at hl 1 rfl) ?_
  refine dw_ia (x := 12) hx hb hG 1 0 rfl rfl (v) rfl (by omega) (by decide) em dM_learn_5 ?_
  refine lv_if_eq (tgt := 19) hx hb dM_learn_6 (by decide) (fun h6 => ?_) (fun h6 => ?_)
  · skip
    replace h6 := (nI_eq (a := 12) (b := 0) (by omega) (by omega)).mp h6
    (exfalso; omega)
  replace h6 : ¬ 12 = 0 := fun q => h6 ((nI_eq (a := 12) (b := 0) (by omega) (by omega)).mpr q)
  refine lv_aload_n hx hb dM_learn_9 rfl (lv_at hl 0 rfl) ?_
  refine dw_get hx hb hts inMc hown hG 0 2 rfl rfl (by decide) hw496 rfl rfl dM_learn_10 ?_
  refine lv_iload_n hx hb dM_learn_13 rfl (lv_at hl 1 rfl) ?_
  refine dw_ia (x := 12) hx hb hG 1 0 rfl rfl (v) rfl (by omega) (by decide) em dM_learn_14 ?_
  refine lv_iconst (v := 1) hx hb dM_learn_15 (by decide) ?_
  refine lv_icmp_ne (tgt := 42) hx hb dM_learn_16 (by decide) (fun h16 => ?_) (fun h16 => ?_)
  · skip
    replace h16 : ¬ 12 = 1 := fun q => h16 ((nI_eq (a := 12) (b := 1) (by omega) (by omega)).mpr q)
    refine lv_aload_n hx hb dM_learn_42 rfl (lv_at hl 0 rfl) ?_
    refine dw_get hx hb hts inMc hown hG 0 2 rfl rfl (by decide) hw496 rfl rfl dM_learn_43 ?_
    refine lv_iload_n hx hb dM_learn_46 rfl (lv_at hl 1 rfl) ?_
    refine dw_ia (x := 12) hx hb hG 1 0 rfl rfl (v) rfl (by omega) (by decide) em dM_learn_47 ?_
    refine lv_iconst (v := 2) hx hb dM_learn_48 (by decide) ?_
    refine lv_icmp_ne (tgt := 60) hx hb dM_learn_49 (by decide) (fun h49 => ?_) (fun h49 => ?_)
    · skip
      replace h49 : ¬ 12 = 2 := fun q => h49 ((nI_eq (a := 12) (b := 2) (by omega) (by omega)).mpr q)
      refine lv_iconst (v := 0) hx hb dM_learn_60 (by decide) ?_
      refine lv_istore_n (lv' := [(2, .int (0)), (0, .ref m0), (1, .int (nI (v)))]) hx hb dM_learn_61 rfl hl (by decide) rfl (fun ls hl => ?_)
      have L62 : ∀ (zz : Nat) (k : Nat) (G : Nat → Int32) (ls : Array Slot) (H : Heap) (locs : List Loc), 32 - k < zz → k ≤ 32 → db_out Fa G v → db_part G v k (db_F 9 d zx ox zy oy 0 0).1 (db_F 9 d zx ox zy oy 0 0).2 → lv_has ls 6 [(0, .ref m0), (1, .int (nI (v))), (2, .int (nI (k)))] → dw_G (dC, dI) vwCl [(cI, .int), (cZ, .boolean)] A s.heap s [(m0, .inr (5, [.int (ft), .int (vl), .ref aMd, .ref aO1, .ref aT2, .int (rs), .ref aSh, .ref aMk, .ref aFa, .ref aDe, .ref aNe, .ref aBy, .ref aPi, .int (pd), .ref aNw, .ref aNs, .ref aBf, .int (rn), .int (rr)])), (aMd, .inl (cI, 24, .inl (Md))), (aO1, .inl (cI, 24, .inl (O1))), (aT2, .inl (cI, 24, .inl (T2))), (aFa, .inl (cI, 768, .inl (G)))] H locs → W p l e (headSpec wsM_learn { frames := 2, cells := 0, slots := 0, locals := 60 }).room s m [.ref m0, .int (nI (v))].toArray below meth c H locs 0 0 Q (F0 m 62 ls []) := by
        intro zz
        induction zz with
        | zero => intro k G ls H locs hz; exact absurd hz (Nat.not_lt_zero _)
        | succ zz L62_ih =>
          intro k G ls H locs hz hk ho hp9 hl hG
          refine lv_iload_n hx hb dM_learn_62 rfl (lv_at hl 2 rfl) ?_
          refine lv_bipush (v := 32) hx hb dM_learn_63 (by decide) ?_
          refine lv_icmp_ge (tgt := 312) hx hb dM_learn_65 (by decide) (fun h65 => ?_) (fun h65 => ?_)
          · skip
            replace h65 := (nI_leI (a := 32) (b := k) (by omega) (by omega)).mp h65
            subst hQ
            exact dw_vret hx hb hr hG (G) rfl ⟨ho, by rw [show k = 32 by omega] at hp9; exact hp9⟩ dM_learn_312 hlocks
          replace h65 : ¬ 32 ≤ k := fun q => h65 ((nI_leI (a := 32) (b := k) (by omega) (by omega)).mpr q)
          refine lv_aload_n hx hb dM_learn_68 rfl (lv_at hl 0 rfl) ?_
          refine dw_get hx hb hts inMc hown hG 0 2 rfl rfl (by decide) hw496 rfl rfl dM_learn_69 ?_
          refine lv_iload_n hx hb dM_learn_72 rfl (lv_at hl 1 rfl) ?_
          refine dw_ia (x := 12) hx hb hG 1 0 rfl rfl (v) rfl (by omega) (by decide) em dM_learn_73 ?_
          refine lv_iconst (v := 5) hx hb dM_learn_74 (by decide) ?_
          refine lv_icmp_gt (tgt := 97) hx hb dM_learn_75 (by decide) (fun h75 => ?_) (fun h75 => ?_)
          · skip
            replace h75 := (nI_ltI (a := 5) (b := 12) (by omega) (by omega)).mp h75
            refine lv_iconst (v := 2) hx hb dM_learn_97 (by decide) ?_
            refine lv_istore_n (lv' := [(3, .int (2)), (0, .ref m0), (1, .int (nI (v))), (2, .int (nI (k)))]) hx hb dM_learn_98 rfl hl (by decide) rfl (fun ls hl => ?_)
            refine lv_aload_n hx hb dM_learn_99 rfl (lv_at hl 1 rfl) ?_
            refine dw_get hx hb hts inMc hown hG 0 2 rfl rfl (by decide) hw496 rfl rfl dM_learn_100 ?_
            refine lv_iload_n hx hb dM_learn_103 rfl (lv_at hl 2 rfl) ?_
            refine dw_ia (x := 12) hx hb hG 1 0 rfl rfl (v) rfl (by omega) (by decide) em dM_learn_104 ?_
            refine lv_iconst (v := 5) hx hb dM_learn_105 (by decide) ?_
            refine lv_icmp_gt (tgt := 128) hx hb dM_learn_106 (by decide) (fun h106 => ?_) (fun h106 => ?_)
            · skip
              replace h106 := (nI_ltI (a := 5) (b := 12) (by omega) (by omega)).mp h106
              refine lv_iconst (v := 2) hx hb dM_learn_128 (by decide) ?_
              refine lv_istore (lv' := [(4, .int (2)), (3, .int (2)), (0, .ref m0), (1, .int (nI (v))), (2, .int (nI (k)))]) hx hb dM_learn_129 hl (by decide) rfl (fun ls hl => ?_)
              refine lv_bipush (v := 32) hx hb dM_learn_131 (by decide) ?_
              refine lv_iload_n hx hb dM_learn_133 rfl (lv_at hl 3 rfl) ?_
              refine lv_imul hx hb dM_learn_134 ?_
              refine lv_topi (nm_r (pk_mul (32) (v)) ?_)
              refine lv_iload_n hx hb dM_learn_135 rfl (lv_at hl 4 rfl) ?_
              refine lv_iadd hx hb dM_learn_136 ?_
              refine lv_topi (nm_r (nI_add (32 * (v)) (k)) ?_)
              refine lv_istore (lv' := [(5, .int (nI (32 * (v) + k))), (4, .int (2)), (3, .int (2)), (0, .ref m0), (1, .int (nI (v))), (2, .int (nI (k)))]) hx hb dM_learn_137 hl (by decide) rfl (fun ls hl => ?_)
              refine lv_aload_n hx hb dM_learn_139 rfl (lv_at hl 3 rfl) ?_
              refine dw_get hx hb hts inMc hown hG 0 2 rfl rfl (by decide) hw496 rfl rfl dM_learn_140 ?_
              refine lv_iload_n hx hb dM_learn_143 rfl (lv_at hl 4 rfl) ?_
              refine dw_ia (x := 12) hx hb hG 1 0 rfl rfl (v) rfl (by omega) (by decide) em dM_learn_144 ?_
              refine lv_tableIn (tgt := 204) hx hb dM_learn_145 (by decide) (by decide) rfl (by decide) ?_
              refine lv_aload_n hx hb dM_learn_204 rfl (lv_at hl 3 rfl) ?_
              refine dw_get hx hb hts inMc hown hG 0 8 rfl rfl (by decide) hw502 rfl rfl dM_learn_205 ?_
              refine lv_iload hx hb dM_learn_208 (lv_at hl 0 rfl) ?_
              refine lv_iconst (v := 2) hx hb dM_learn_210 (by decide) ?_
              refine dw_is (ws' := [(m0, .inr (5, [.int (ft), .int (vl), .ref aMd, .ref aO1, .ref aT2, .int (rs), .ref aSh, .ref aMk, .ref aFa, .ref aDe, .ref aNe, .ref aBy, .ref aPi, .int (pd), .ref aNw, .ref aNs, .ref aBf, .int (rn), .int (rr)])), (aMd, .inl (cI, 24, .inl (Md))), (aO1, .inl (cI, 24, .inl (O1))), (aT2, .inl (cI, 24, .inl (T2))), (aFa, .inl (cI, 768, .inl (upd (G) (32 * (v) + k) (2))))]) hx hb hG 4 0 rfl rfl (32 * (v) + k) rfl (by omega) (by decide) dM_learn_211 rfl (fun H locs hG => ?_)
              refine lv_goto (tgt := 306) hx hb dM_learn_212 (by decide) ?_
              refine lv_iinc (v := nI (k + 1)) (lv' := [(2, .int (nI (k + 1))), (5, .int (nI (32 * (v) + k))), (4, .int (2)), (3, .int (2)), (0, .ref m0), (1, .int (nI (v)))]) hx hb dM_learn_306 hl (k := 5) rfl (dw_inc (k)) (by decide) rfl (fun ls hl => ?_)
              refine lv_goto (tgt := 62) hx hb dM_learn_309 (by decide) ?_
              exact L62_ih (k + 1) (upd (G) (32 * (v) + k) (2)) ls H locs (by omega) (by omega) (db_out_upd _ ho (by omega)) (db_part_s hp9 (by show _ = db_tri (bt 0 k) (bt 0 k); rw [b_0]; rfl)) (lv_sub hl [4, 5, 0] rfl) hG
            replace h106 : ¬ 5 < 12 := fun q => h106 ((nI_ltI (a := 5) (b := 12) (by omega) (by omega)).mpr q)
            (exfalso; omega)
          replace h75 : ¬ 5 < 12 := fun q => h75 ((nI_ltI (a := 5) (b := 12) (by omega) (by omega)).mpr q)
          (exfalso; omega)
      exact L62 _ (0) (Fa) ls H locs (Nat.lt_succ_self _) (by omega) (db_out_rfl _ _) (db_part0 _ _ _ _) (lv_sub hl [1, 2, 0] rfl) hG
    replace h49 := (nI_eq (a := 12) (b := 2) (by omega) (by omega)).mp h49
    (exfalso; omega)
  replace h16 := (nI_eq (a := 12) (b := 1) (by omega) (by omega)).mp h16
  (exfalso; omega)

set_option maxRecDepth 100000 in
set_option maxHeartbeats 4000000 in
theorem rf_learn10 (l : Launch) (dC : Nat → ClassId) (dI : Nat → Nat → Nat) (cI cZ : ClassId) (m0 aMd aO1 aT2 aSh aMk aFa aDe aNe aBy aPi aNw aNs aBf : Nat) (ft vl rs pd rn rr : Int32) (v x y : Nat) (d : Int32) (Md O1 T2 Fa : Nat → Int32) (zx ox zy oy : Int32) (sz : Nat) (hv : v < 24) (em : Md v = nI 13) (e1 : O1 v = d) : Met l yM_learn wsM_learn { frames := 2, cells := 0, slots := 0, locals := 60 } (va_Pc [.ref m0, .int (nI (v))] (dw_pre (dC, dI) vwCl [(m0, .inr (5, [.int (ft), .int (vl), .ref aMd, .ref aO1, .ref aT2, .int (rs), .ref aSh, .ref aMk, .ref aFa, .ref aDe, .ref aNe, .ref aBy, .ref aPi, .int (pd), .ref aNw, .ref aNs, .ref aBf, .int (rn), .int (rr)])), (aMd, .inl (cI, 24, .inl (Md))), (aO1, .inl (cI, 24, .inl (O1))), (aT2, .inl (cI, 24, .inl (T2))), (aFa, .inl (cI, 768, .inl (Fa)))] [(cI, .int), (cZ, .boolean)] sz)) (va_Qv (fun (u : Nat → Int32) => db_out Fa u v ∧ db_rep u v (db_F 10 d zx ox zy oy 0 0).1 (db_F 10 d zx ox zy oy 0 0).2) (fun u t => dw_post (dC, dI) vwCl [(m0, .inr (5, [.int (ft), .int (vl), .ref aMd, .ref aO1, .ref aT2, .int (rs), .ref aSh, .ref aMk, .ref aFa, .ref aDe, .ref aNe, .ref aBy, .ref aPi, .int (pd), .ref aNw, .ref aNs, .ref aBf, .int (rn), .int (rr)])), (aMd, .inl (cI, 24, .inl (Md))), (aO1, .inl (cI, 24, .inl (O1))), (aT2, .inl (cI, 24, .inl (T2))), (aFa, .inl (cI, 768, .inl (u)))] [(cI, .int), (cZ, .boolean)] (va_A [(m0, .inr (5, [.int (ft), .int (vl), .ref aMd, .ref aO1, .ref aT2, .int (rs), .ref aSh, .ref aMk, .ref aFa, .ref aDe, .ref aNe, .ref aBy, .ref aPi, .int (pd), .ref aNw, .ref aNs, .ref aBf, .int (rn), .int (rr)])), (aMd, .inl (cI, 24, .inl (Md))), (aO1, .inl (cI, 24, .inl (O1))), (aT2, .inl (cI, 24, .inl (T2))), (aFa, .inl (cI, 768, .inl (Fa)))] sz) t) (va_A [(m0, .inr (5, [.int (ft), .int (vl), .ref aMd, .ref aO1, .ref aT2, .int (rs), .ref aSh, .ref aMk, .ref aFa, .ref aDe, .ref aNe, .ref aBy, .ref aPi, .int (pd), .ref aNw, .ref aNs, .ref aBf, .int (rn), .int (rr)])), (aMd, .inl (cI, 24, .inl (Md))), (aO1, .inl (cI, 24, .inl (O1))), (aT2, .inl (cI, 24, .inl (T2))), (aFa, .inl (cI, 768, .inl (Fa)))] sz)) 0 0 (va_A [(m0, .inr (5, [.int (ft), .int (vl), .ref aMd, .ref aO1, .ref aT2, .int (rs), .ref aSh, .ref aMk, .ref aFa, .ref aDe, .ref aNe, .ref aBy, .ref aPi, .int (pd), .ref aNw, .ref aNs, .ref aBf, .int (rn), .int (rr)])), (aMd, .inl (cI, 24, .inl (Md))), (aO1, .inl (cI, 24, .inl (O1))), (aT2, .inl (cI, 24, .inl (T2))), (aFa, .inl (cI, 768, .inl (Fa)))] sz) := by
  refine Met.ofW (cc := cM_learn) (maxL := 6) (ret := none) (by decide) rfl ?_
  intro p e s m args below meth c s₁ B hml hv0
  have hx := B.exec
  have hb := B.bytes
  have hr := B.returns
  have hts := atoms_spec (ws := wsM_learn) B.pre
  have hown : s.vm.findClass RM = some m.cls := findClass_of_methodNamed B.named
  have hlocks := B.notSynchronized
  obtain ⟨rfl, hsz, hG⟩ := dw_enter hv0
  generalize va_A [(m0, .inr (5, [.int (ft), .int (vl), .ref aMd, .ref aO1, .ref aT2, .int (rs), .ref aSh, .ref aMk, .ref aFa, .ref aDe, .ref aNe, .ref aBy, .ref aPi, .int (pd), .ref aNw, .ref aNs, .ref aBf, .int (rn), .int (rr)])), (aMd, .inl (cI, 24, .inl (Md))), (aO1, .inl (cI, 24, .inl (O1))), (aT2, .inl (cI, 24, .inl (T2))), (aFa, .inl (cI, 768, .inl (Fa)))] sz = A at hG ⊢
  have hl := lv_entry ([.ref m0, .int (nI (v))]) (n := 6) (Nat.le_of_ble_eq_true rfl)
  rw [lg_entry_eq]
  generalize (lg_sl ([.ref m0, .int (nI (v))]) ++ List.replicate (6 - (lg_sl ([.ref m0, .int (nI (v))])).length) Slot.unset).toArray = ls at hl ⊢
  have hl : lv_has ls 6 [(0, .ref m0), (1, .int (nI (v)))] := hl
  have hw496 := hts _ (List.mem_cons_of_mem _ tw_496)
  have hw502 := hts _ (List.mem_cons_of_mem _ tw_502)
  have hw497 := hts _ (List.mem_cons_of_mem _ tw_497)
  refine dw_Q (fun Q hQ => ?_)
  suffices hgo : ∀ (H : Heap) (locs : List Loc), dw_G (dC, dI) vwCl [(cI, .int), (cZ, .boolean)] A s.heap s [(m0, .inr (5, [.int (ft), .int (vl), .ref aMd, .ref aO1, .ref aT2, .int (rs), .ref aSh, .ref aMk, .ref aFa, .ref aDe, .ref aNe, .ref aBy, .ref aPi, .int (pd), .ref aNw, .ref aNs, .ref aBf, .int (rn), .int (rr)])), (aMd, .inl (cI, 24, .inl (Md))), (aO1, .inl (cI, 24, .inl (O1))), (aT2, .inl (cI, 24, .inl (T2))), (aFa, .inl (cI, 768, .inl (Fa)))] H locs → W p l e (headSpec wsM_learn { frames := 2, cells := 0, slots := 0, locals := 60 }).room s m [.ref m0, .int (nI (v))].toArray below meth c H locs 0 0 Q (F0 m 0 ls []) from hgo _ _ hG
  clear hG
  intro H locs hG
  refine lv_aload_n hx hb dM_learn_0 rfl (lv_at hl 0 rfl) ?_
  refine dw_get hx hb hts inMc hown hG 0 2 rfl rfl (by decide) hw496 rfl rfl dM_learn_1 ?_
  refine lv_iload_n hx hb dM_learn_4 rfl (lv_at hl 1 rfl) ?_
  refine dw_ia (x := 13) hx hb hG 1 0 rfl rfl (v) rfl (by omega) (by decide) em dM_learn_5 ?_
  refine lv_if_eq (tgt := 19) hx hb dM_learn_6 (by decide) (fun h6 => ?_) (fun h6 => ?_)
  · skip
    replace h6 := (nI_eq (a := 13) (b := 0) (by omega) (by omega)).mp h6
    (exfalso; omega)
  replace h6 : ¬ 13 = 0 := fun q => h6 ((nI_eq (a := 13) (b := 0) (by omega) (by omega)).mpr q)
  refine lv_aload_n hx hb dM_learn_9 rfl (lv_at hl 0 rfl) ?_
  refine dw_get hx hb hts inMc hown hG 0 2 rfl rfl (by decide) hw496 rfl rfl dM_learn_10 ?_
  refine lv_iload_n hx hb dM_learn_13 rfl (lv_at hl 1 rfl) ?_
  refine dw_ia (x := 13) hx hb hG 1 0 rfl rfl (v) rfl (by omega) (by decide) em dM_learn_14 ?_
  refine lv_iconst (v := 1) hx hb dM_learn_15 (by decide) ?_
  refine lv_icmp_ne (tgt := 42) hx hb dM_learn_16 (by decide) (fun h16 => ?_) (fun h16 => ?_)
  · skip
    replace h16 : ¬ 13 = 1 := fun q => h16 ((nI_eq (a := 13) (b := 1) (by omega) (by omega)).mpr q)
    refine lv_aload_n hx hb dM_learn_42 rfl (lv_at hl 0 rfl) ?_
    refine dw_get hx hb hts inMc hown hG 0 2 rfl rfl (by decide) hw496 rfl rfl dM_learn_43 ?_
    refine lv_iload_n hx hb dM_learn_46 rfl (lv_at hl 1 rfl) ?_
    refine dw_ia (x := 13) hx hb hG 1 0 rfl rfl (v) rfl (by omega) (by decide) em dM_learn_47 ?_
    refine lv_iconst (v := 2) hx hb dM_learn_48 (by decide) ?_
    refine lv_icmp_ne (tgt := 60) hx hb dM_learn_49 (by decide) (fun h49 => ?_) (fun h49 => ?_)
    · skip
      replace h49 : ¬ 13 = 2 := fun q => h49 ((nI_eq (a := 13) (b := 2) (by omega) (by omega)).mpr q)
      refine lv_iconst (v := 0) hx hb dM_learn_60 (by decide) ?_
      refine lv_istore_n (lv' := [(2, .int (0)), (0, .ref m0), (1, .int (nI (v)))]) hx hb dM_learn_61 rfl hl (by decide) rfl (fun ls hl => ?_)
      have L62 : ∀ (zz : Nat) (k : Nat) (G : Nat → Int32) (ls : Array Slot) (H : Heap) (locs : List Loc), 32 - k < zz → k ≤ 32 → db_out Fa G v → db_part G v k (db_F 10 d zx ox zy oy 0 0).1 (db_F 10 d zx ox zy oy 0 0).2 → lv_has ls 6 [(0, .ref m0), (1, .int (nI (v))), (2, .int (nI (k)))] → dw_G (dC, dI) vwCl [(cI, .int), (cZ, .boolean)] A s.heap s [(m0, .inr (5, [.int (ft), .int (vl), .ref aMd, .ref aO1, .ref aT2, .int (rs), .ref aSh, .ref aMk, .ref aFa, .ref aDe, .ref aNe, .ref aBy, .ref aPi, .int (pd), .ref aNw, .ref aNs, .ref aBf, .int (rn), .int (rr)])), (aMd, .inl (cI, 24, .inl (Md))), (aO1, .inl (cI, 24, .inl (O1))), (aT2, .inl (cI, 24, .inl (T2))), (aFa, .inl (cI, 768, .inl (G)))] H locs → W p l e (headSpec wsM_learn { frames := 2, cells := 0, slots := 0, locals := 60 }).room s m [.ref m0, .int (nI (v))].toArray below meth c H locs 0 0 Q (F0 m 62 ls []) := by
        intro zz
        induction zz with
        | zero => intro k G ls H locs hz; exact absurd hz (Nat.not_lt_zero _)
        | succ zz L62_ih =>
          intro k G ls H locs hz hk ho hp9 hl hG
          refine lv_iload_n hx hb dM_learn_62 rfl (lv_at hl 2 rfl) ?_
          refine lv_bipush (v := 32) hx hb dM_learn_63 (by decide) ?_
          refine lv_icmp_ge (tgt := 312) hx hb dM_learn_65 (by decide) (fun h65 => ?_) (fun h65 => ?_)
          · skip
            replace h65 := (nI_leI (a := 32) (b := k) (by omega) (by omega)).mp h65
            subst hQ
            exact dw_vret hx hb hr hG (G) rfl ⟨ho, by rw [show k = 32 by omega] at hp9; exact hp9⟩ dM_learn_312 hlocks
          replace h65 : ¬ 32 ≤ k := fun q => h65 ((nI_leI (a := 32) (b := k) (by omega) (by omega)).mpr q)
          refine lv_aload_n hx hb dM_learn_68 rfl (lv_at hl 0 rfl) ?_
          refine dw_get hx hb hts inMc hown hG 0 2 rfl rfl (by decide) hw496 rfl rfl dM_learn_69 ?_
          refine lv_iload_n hx hb dM_learn_72 rfl (lv_at hl 1 rfl) ?_
          refine dw_ia (x := 13) hx hb hG 1 0 rfl rfl (v) rfl (by omega) (by decide) em dM_learn_73 ?_
          refine lv_iconst (v := 5) hx hb dM_learn_74 (by decide) ?_
          refine lv_icmp_gt (tgt := 97) hx hb dM_learn_75 (by decide) (fun h75 => ?_) (fun h75 => ?_)
          · skip
            replace h75 := (nI_ltI (a := 5) (b := 13) (by omega) (by omega)).mp h75
            refine lv_iconst (v := 2) hx hb dM_learn_97 (by decide) ?_
            refine lv_istore_n (lv' := [(3, .int (2)), (0, .ref m0), (1, .int (nI (v))), (2, .int (nI (k)))]) hx hb dM_learn_98 rfl hl (by decide) rfl (fun ls hl => ?_)
            refine lv_aload_n hx hb dM_learn_99 rfl (lv_at hl 1 rfl) ?_
            refine dw_get hx hb hts inMc hown hG 0 2 rfl rfl (by decide) hw496 rfl rfl dM_learn_100 ?_
            refine lv_iload_n hx hb dM_learn_103 rfl (lv_at hl 2 rfl) ?_
            refine dw_ia (x := 13) hx hb hG 1 0 rfl rfl (v) rfl (by omega) (by decide) em dM_learn_104 ?_
            refine lv_iconst (v := 5) hx hb dM_learn_105 (by decide) ?_
            refine lv_icmp_gt (tgt := 128) hx hb dM_learn_106 (by decide) (fun h106 => ?_) (fun h106 => ?_)
            · skip
              replace h106 := (nI_ltI (a := 5) (b := 13) (by omega) (by omega)).mp h106
              refine lv_iconst (v := 2) hx hb dM_learn_128 (by decide) ?_
              refine lv_istore (lv' := [(4, .int (2)), (3, .int (2)), (0, .ref m0), (1, .int (nI (v))), (2, .int (nI (k)))]) hx hb dM_learn_129 hl (by decide) rfl (fun ls hl => ?_)
              refine lv_bipush (v := 32) hx hb dM_learn_131 (by decide) ?_
              refine lv_iload_n hx hb dM_learn_133 rfl (lv_at hl 3 rfl) ?_
              refine lv_imul hx hb dM_learn_134 ?_
              refine lv_topi (nm_r (pk_mul (32) (v)) ?_)
              refine lv_iload_n hx hb dM_learn_135 rfl (lv_at hl 4 rfl) ?_
              refine lv_iadd hx hb dM_learn_136 ?_
              refine lv_topi (nm_r (nI_add (32 * (v)) (k)) ?_)
              refine lv_istore (lv' := [(5, .int (nI (32 * (v) + k))), (4, .int (2)), (3, .int (2)), (0, .ref m0), (1, .int (nI (v))), (2, .int (nI (k)))]) hx hb dM_learn_137 hl (by decide) rfl (fun ls hl => ?_)
              refine lv_aload_n hx hb dM_learn_139 rfl (lv_at hl 3 rfl) ?_
              refine dw_get hx hb hts inMc hown hG 0 2 rfl rfl (by decide) hw496 rfl rfl dM_learn_140 ?_
              refine lv_iload_n hx hb dM_learn_143 rfl (lv_at hl 4 rfl) ?_
              refine dw_ia (x := 13) hx hb hG 1 0 rfl rfl (v) rfl (by omega) (by decide) em dM_learn_144 ?_
              refine lv_tableIn (tgt := 215) hx hb dM_learn_145 (by decide) (by decide) rfl (by decide) ?_
              refine lv_aload_n hx hb dM_learn_215 rfl (lv_at hl 3 rfl) ?_
              refine dw_get hx hb hts inMc hown hG 0 8 rfl rfl (by decide) hw502 rfl rfl dM_learn_216 ?_
              refine lv_iload hx hb dM_learn_219 (lv_at hl 0 rfl) ?_
              refine lv_aload_n hx hb dM_learn_221 rfl (lv_at hl 3 rfl) ?_
              refine dw_get hx hb hts inMc hown hG 0 3 rfl rfl (by decide) hw497 rfl rfl dM_learn_222 ?_
              refine lv_iload_n hx hb dM_learn_225 rfl (lv_at hl 4 rfl) ?_
              refine dw_ia (x := d) hx hb hG 2 0 rfl rfl (v) rfl (by omega) (by decide) e1 dM_learn_226 ?_
              refine lv_iload_n hx hb dM_learn_227 rfl (lv_at hl 5 rfl) ?_
              refine dw_calli (wc := []) (wr := [(m0, .inr (5, [.int (ft), .int (vl), .ref aMd, .ref aO1, .ref aT2, .int (rs), .ref aSh, .ref aMk, .ref aFa, .ref aDe, .ref aNe, .ref aBy, .ref aPi, .int (pd), .ref aNw, .ref aNs, .ref aBf, .int (rn), .int (rr)])), (aMd, .inl (cI, 24, .inl (Md))), (aO1, .inl (cI, 24, .inl (O1))), (aT2, .inl (cI, 24, .inl (T2))), (aFa, .inl (cI, 768, .inl (G)))]) hG [] [0, 1, 2, 3, 4] rfl rfl (by decide) (by decide) (va_runS (As := [.int (d), .int (nI (k))]) (rest := [.int (nI (32 * (v) + k)), .ref aFa]) ⟨hx, hb, hml, hown, hts⟩ (rf_bit l dC dI cI cZ (d) (nI (k)) H.size ) (dc_S 2 hts tw_630 tw_631 tw_7 tw_632 rfl rfl (by decide +kernel) ⟨Nat.le_of_ble_eq_true rfl, Nat.le_of_ble_eq_true rfl⟩) (dw_preS hG [] [0, 1] rfl rfl (by decide) rfl) rfl rfl hl.1 rfl (lv_room (Nat.le_of_ble_eq_true rfl)) dM_learn_228 ⟨Nat.le_refl _, Nat.le_refl _⟩) (fun r u H locs hp hG => ?_)
              subst hp
              have hG : dw_G (dC, dI) vwCl [(cI, .int), (cZ, .boolean)] A s.heap s [(m0, .inr (5, [.int (ft), .int (vl), .ref aMd, .ref aO1, .ref aT2, .int (rs), .ref aSh, .ref aMk, .ref aFa, .ref aDe, .ref aNe, .ref aBy, .ref aPi, .int (pd), .ref aNw, .ref aNs, .ref aBf, .int (rn), .int (rr)])), (aMd, .inl (cI, 24, .inl (Md))), (aO1, .inl (cI, 24, .inl (O1))), (aT2, .inl (cI, 24, .inl (T2))), (aFa, .inl (cI, 768, .inl (G)))] H locs := hG
              refine dw_is (ws' := [(m0, .inr (5, [.int (ft), .int (vl), .ref aMd, .ref aO1, .ref aT2, .int (rs), .ref aSh, .ref aMk, .ref aFa, .ref aDe, .ref aNe, .ref aBy, .ref aPi, .int (pd), .ref aNw, .ref aNs, .ref aBf, .int (rn), .int (rr)])), (aMd, .inl (cI, 24, .inl (Md))), (aO1, .inl (cI, 24, .inl (O1))), (aT2, .inl (cI, 24, .inl (T2))), (aFa, .inl (cI, 768, .inl (upd (G) (32 * (v) + k) (((d) >>> ((nI (k)) &&& 31)) &&& 1))))]) hx hb hG 4 0 rfl rfl (32 * (v) + k) rfl (by omega) (by decide) dM_learn_231 rfl (fun H locs hG => ?_)
              refine lv_goto (tgt := 306) hx hb dM_learn_232 (by decide) ?_
              refine lv_iinc (v := nI (k + 1)) (lv' := [(2, .int (nI (k + 1))), (5, .int (nI (32 * (v) + k))), (4, .int (2)), (3, .int (2)), (0, .ref m0), (1, .int (nI (v)))]) hx hb dM_learn_306 hl (k := 5) rfl (dw_inc (k)) (by decide) rfl (fun ls hl => ?_)
              refine lv_goto (tgt := 62) hx hb dM_learn_309 (by decide) ?_
              exact L62_ih (k + 1) (upd (G) (32 * (v) + k) (((d) >>> ((nI (k)) &&& 31)) &&& 1)) ls H locs (by omega) (by omega) (db_out_upd _ ho (by omega)) (db_part_s hp9 (by rw [db_bit_ones _ (by omega)]; show _ = db_tri (bt (d ^^^ (-1)) k) (bt d k); rw [db_not _ (by omega)]; cases bt d k <;> rfl)) (lv_sub hl [4, 5, 0] rfl) hG
            replace h106 : ¬ 5 < 13 := fun q => h106 ((nI_ltI (a := 5) (b := 13) (by omega) (by omega)).mpr q)
            (exfalso; omega)
          replace h75 : ¬ 5 < 13 := fun q => h75 ((nI_ltI (a := 5) (b := 13) (by omega) (by omega)).mpr q)
          (exfalso; omega)
      exact L62 _ (0) (Fa) ls H locs (Nat.lt_succ_self _) (by omega) (db_out_rfl _ _) (db_part0 _ _ _ _) (lv_sub hl [1, 2, 0] rfl) hG
    replace h49 := (nI_eq (a := 13) (b := 2) (by omega) (by omega)).mp h49
    (exfalso; omega)
  replace h16 := (nI_eq (a := 13) (b := 1) (by omega) (by omega)).mp h16
  (exfalso; omega)

set_option maxRecDepth 100000 in
set_option maxHeartbeats 4000000 in
theorem rf_learn11 (l : Launch) (dC : Nat → ClassId) (dI : Nat → Nat → Nat) (cI cZ : ClassId) (m0 aMd aO1 aT2 aSh aMk aFa aDe aNe aBy aPi aNw aNs aBf : Nat) (ft vl rs pd rn rr : Int32) (v x y : Nat) (d : Int32) (Md O1 T2 Fa : Nat → Int32) (zx ox zy oy : Int32) (sz : Nat) (hv : v < 24) (em : Md v = nI 9) (hxv : x < v) (e1 : O1 v = nI x) (hfx : db_rep Fa x zx ox) (hax : db_ap zx ox) : Met l yM_learn wsM_learn { frames := 2, cells := 0, slots := 0, locals := 60 } (va_Pc [.ref m0, .int (nI (v))] (dw_pre (dC, dI) vwCl [(m0, .inr (5, [.int (ft), .int (vl), .ref aMd, .ref aO1, .ref aT2, .int (rs), .ref aSh, .ref aMk, .ref aFa, .ref aDe, .ref aNe, .ref aBy, .ref aPi, .int (pd), .ref aNw, .ref aNs, .ref aBf, .int (rn), .int (rr)])), (aMd, .inl (cI, 24, .inl (Md))), (aO1, .inl (cI, 24, .inl (O1))), (aT2, .inl (cI, 24, .inl (T2))), (aFa, .inl (cI, 768, .inl (Fa)))] [(cI, .int), (cZ, .boolean)] sz)) (va_Qv (fun (u : Nat → Int32) => db_out Fa u v ∧ db_rep u v (db_F 11 d zx ox zy oy 0 0).1 (db_F 11 d zx ox zy oy 0 0).2) (fun u t => dw_post (dC, dI) vwCl [(m0, .inr (5, [.int (ft), .int (vl), .ref aMd, .ref aO1, .ref aT2, .int (rs), .ref aSh, .ref aMk, .ref aFa, .ref aDe, .ref aNe, .ref aBy, .ref aPi, .int (pd), .ref aNw, .ref aNs, .ref aBf, .int (rn), .int (rr)])), (aMd, .inl (cI, 24, .inl (Md))), (aO1, .inl (cI, 24, .inl (O1))), (aT2, .inl (cI, 24, .inl (T2))), (aFa, .inl (cI, 768, .inl (u)))] [(cI, .int), (cZ, .boolean)] (va_A [(m0, .inr (5, [.int (ft), .int (vl), .ref aMd, .ref aO1, .ref aT2, .int (rs), .ref aSh, .ref aMk, .ref aFa, .ref aDe, .ref aNe, .ref aBy, .ref aPi, .int (pd), .ref aNw, .ref aNs, .ref aBf, .int (rn), .int (rr)])), (aMd, .inl (cI, 24, .inl (Md))), (aO1, .inl (cI, 24, .inl (O1))), (aT2, .inl (cI, 24, .inl (T2))), (aFa, .inl (cI, 768, .inl (Fa)))] sz) t) (va_A [(m0, .inr (5, [.int (ft), .int (vl), .ref aMd, .ref aO1, .ref aT2, .int (rs), .ref aSh, .ref aMk, .ref aFa, .ref aDe, .ref aNe, .ref aBy, .ref aPi, .int (pd), .ref aNw, .ref aNs, .ref aBf, .int (rn), .int (rr)])), (aMd, .inl (cI, 24, .inl (Md))), (aO1, .inl (cI, 24, .inl (O1))), (aT2, .inl (cI, 24, .inl (T2))), (aFa, .inl (cI, 768, .inl (Fa)))] sz)) 0 0 (va_A [(m0, .inr (5, [.int (ft), .int (vl), .ref aMd, .ref aO1, .ref aT2, .int (rs), .ref aSh, .ref aMk, .ref aFa, .ref aDe, .ref aNe, .ref aBy, .ref aPi, .int (pd), .ref aNw, .ref aNs, .ref aBf, .int (rn), .int (rr)])), (aMd, .inl (cI, 24, .inl (Md))), (aO1, .inl (cI, 24, .inl (O1))), (aT2, .inl (cI, 24, .inl (T2))), (aFa, .inl (cI, 768, .inl (Fa)))] sz) := by
  refine Met.ofW (cc := cM_learn) (maxL := 6) (ret := none) (by decide) rfl ?_
  intro p e s m args below meth c s₁ B hml hv0
  have hx := B.exec
  have hb := B.bytes
  have hr := B.returns
  have hts := atoms_spec (ws := wsM_learn) B.pre
  have hown : s.vm.findClass RM = some m.cls := findClass_of_methodNamed B.named
  have hlocks := B.notSynchronized
  obtain ⟨rfl, hsz, hG⟩ := dw_enter hv0
  generalize va_A [(m0, .inr (5, [.int (ft), .int (vl), .ref aMd, .ref aO1, .ref aT2, .int (rs), .ref aSh, .ref aMk, .ref aFa, .ref aDe, .ref aNe, .ref aBy, .ref aPi, .int (pd), .ref aNw, .ref aNs, .ref aBf, .int (rn), .int (rr)])), (aMd, .inl (cI, 24, .inl (Md))), (aO1, .inl (cI, 24, .inl (O1))), (aT2, .inl (cI, 24, .inl (T2))), (aFa, .inl (cI, 768, .inl (Fa)))] sz = A at hG ⊢
  have hl := lv_entry ([.ref m0, .int (nI (v))]) (n := 6) (Nat.le_of_ble_eq_true rfl)
  rw [lg_entry_eq]
  generalize (lg_sl ([.ref m0, .int (nI (v))]) ++ List.replicate (6 - (lg_sl ([.ref m0, .int (nI (v))])).length) Slot.unset).toArray = ls at hl ⊢
  have hl : lv_has ls 6 [(0, .ref m0), (1, .int (nI (v)))] := hl
  have hw496 := hts _ (List.mem_cons_of_mem _ tw_496)
  have hw502 := hts _ (List.mem_cons_of_mem _ tw_502)
  refine dw_Q (fun Q hQ => ?_)
  suffices hgo : ∀ (H : Heap) (locs : List Loc), dw_G (dC, dI) vwCl [(cI, .int), (cZ, .boolean)] A s.heap s [(m0, .inr (5, [.int (ft), .int (vl), .ref aMd, .ref aO1, .ref aT2, .int (rs), .ref aSh, .ref aMk, .ref aFa, .ref aDe, .ref aNe, .ref aBy, .ref aPi, .int (pd), .ref aNw, .ref aNs, .ref aBf, .int (rn), .int (rr)])), (aMd, .inl (cI, 24, .inl (Md))), (aO1, .inl (cI, 24, .inl (O1))), (aT2, .inl (cI, 24, .inl (T2))), (aFa, .inl (cI, 768, .inl (Fa)))] H locs → W p l e (headSpec wsM_learn { frames := 2, cells := 0, slots := 0, locals := 60 }).room s m [.ref m0, .int (nI (v))].toArray below meth c H locs 0 0 Q (F0 m 0 ls []) from hgo _ _ hG
  clear hG
  intro H locs hG
  refine lv_aload_n hx hb dM_learn_0 rfl (lv_at hl 0 rfl) ?_
  refine dw_get hx hb hts inMc hown hG 0 2 rfl rfl (by decide) hw496 rfl rfl dM_learn_1 ?_
  refine lv_iload_n hx hb dM_learn_4 rfl (lv_at hl 1 rfl) ?_
  refine dw_ia (x := 9) hx hb hG 1 0 rfl rfl (v) rfl (by omega) (by decide) em dM_learn_5 ?_
  refine lv_if_eq (tgt := 19) hx hb dM_learn_6 (by decide) (fun h6 => ?_) (fun h6 => ?_)
  · skip
    replace h6 := (nI_eq (a := 9) (b := 0) (by omega) (by omega)).mp h6
    (exfalso; omega)
  replace h6 : ¬ 9 = 0 := fun q => h6 ((nI_eq (a := 9) (b := 0) (by omega) (by omega)).mpr q)
  refine lv_aload_n hx hb dM_learn_9 rfl (lv_at hl 0 rfl) ?_
  refine dw_get hx hb hts inMc hown hG 0 2 rfl rfl (by decide) hw496 rfl rfl dM_learn_10 ?_
  refine lv_iload_n hx hb dM_learn_13 rfl (lv_at hl 1 rfl) ?_
  refine dw_ia (x := 9) hx hb hG 1 0 rfl rfl (v) rfl (by omega) (by decide) em dM_learn_14 ?_
  refine lv_iconst (v := 1) hx hb dM_learn_15 (by decide) ?_
  refine lv_icmp_ne (tgt := 42) hx hb dM_learn_16 (by decide) (fun h16 => ?_) (fun h16 => ?_)
  · skip
    replace h16 : ¬ 9 = 1 := fun q => h16 ((nI_eq (a := 9) (b := 1) (by omega) (by omega)).mpr q)
    refine lv_aload_n hx hb dM_learn_42 rfl (lv_at hl 0 rfl) ?_
    refine dw_get hx hb hts inMc hown hG 0 2 rfl rfl (by decide) hw496 rfl rfl dM_learn_43 ?_
    refine lv_iload_n hx hb dM_learn_46 rfl (lv_at hl 1 rfl) ?_
    refine dw_ia (x := 9) hx hb hG 1 0 rfl rfl (v) rfl (by omega) (by decide) em dM_learn_47 ?_
    refine lv_iconst (v := 2) hx hb dM_learn_48 (by decide) ?_
    refine lv_icmp_ne (tgt := 60) hx hb dM_learn_49 (by decide) (fun h49 => ?_) (fun h49 => ?_)
    · skip
      replace h49 : ¬ 9 = 2 := fun q => h49 ((nI_eq (a := 9) (b := 2) (by omega) (by omega)).mpr q)
      refine lv_iconst (v := 0) hx hb dM_learn_60 (by decide) ?_
      refine lv_istore_n (lv' := [(2, .int (0)), (0, .ref m0), (1, .int (nI (v)))]) hx hb dM_learn_61 rfl hl (by decide) rfl (fun ls hl => ?_)
      have L62 : ∀ (zz : Nat) (k : Nat) (G : Nat → Int32) (ls : Array Slot) (H : Heap) (locs : List Loc), 32 - k < zz → k ≤ 32 → db_out Fa G v → db_part G v k (db_F 11 d zx ox zy oy 0 0).1 (db_F 11 d zx ox zy oy 0 0).2 → lv_has ls 6 [(0, .ref m0), (1, .int (nI (v))), (2, .int (nI (k)))] → dw_G (dC, dI) vwCl [(cI, .int), (cZ, .boolean)] A s.heap s [(m0, .inr (5, [.int (ft), .int (vl), .ref aMd, .ref aO1, .ref aT2, .int (rs), .ref aSh, .ref aMk, .ref aFa, .ref aDe, .ref aNe, .ref aBy, .ref aPi, .int (pd), .ref aNw, .ref aNs, .ref aBf, .int (rn), .int (rr)])), (aMd, .inl (cI, 24, .inl (Md))), (aO1, .inl (cI, 24, .inl (O1))), (aT2, .inl (cI, 24, .inl (T2))), (aFa, .inl (cI, 768, .inl (G)))] H locs → W p l e (headSpec wsM_learn { frames := 2, cells := 0, slots := 0, locals := 60 }).room s m [.ref m0, .int (nI (v))].toArray below meth c H locs 0 0 Q (F0 m 62 ls []) := by
        intro zz
        induction zz with
        | zero => intro k G ls H locs hz; exact absurd hz (Nat.not_lt_zero _)
        | succ zz L62_ih =>
          intro k G ls H locs hz hk ho hp9 hl hG
          refine lv_iload_n hx hb dM_learn_62 rfl (lv_at hl 2 rfl) ?_
          refine lv_bipush (v := 32) hx hb dM_learn_63 (by decide) ?_
          refine lv_icmp_ge (tgt := 312) hx hb dM_learn_65 (by decide) (fun h65 => ?_) (fun h65 => ?_)
          · skip
            replace h65 := (nI_leI (a := 32) (b := k) (by omega) (by omega)).mp h65
            subst hQ
            exact dw_vret hx hb hr hG (G) rfl ⟨ho, by rw [show k = 32 by omega] at hp9; exact hp9⟩ dM_learn_312 hlocks
          replace h65 : ¬ 32 ≤ k := fun q => h65 ((nI_leI (a := 32) (b := k) (by omega) (by omega)).mpr q)
          refine lv_aload_n hx hb dM_learn_68 rfl (lv_at hl 0 rfl) ?_
          refine dw_get hx hb hts inMc hown hG 0 2 rfl rfl (by decide) hw496 rfl rfl dM_learn_69 ?_
          refine lv_iload_n hx hb dM_learn_72 rfl (lv_at hl 1 rfl) ?_
          refine dw_ia (x := 9) hx hb hG 1 0 rfl rfl (v) rfl (by omega) (by decide) em dM_learn_73 ?_
          refine lv_iconst (v := 5) hx hb dM_learn_74 (by decide) ?_
          refine lv_icmp_gt (tgt := 97) hx hb dM_learn_75 (by decide) (fun h75 => ?_) (fun h75 => ?_)
          · skip
            replace h75 := (nI_ltI (a := 5) (b := 9) (by omega) (by omega)).mp h75
            refine lv_iconst (v := 2) hx hb dM_learn_97 (by decide) ?_
            refine lv_istore_n (lv' := [(3, .int (2)), (0, .ref m0), (1, .int (nI (v))), (2, .int (nI (k)))]) hx hb dM_learn_98 rfl hl (by decide) rfl (fun ls hl => ?_)
            refine lv_aload_n hx hb dM_learn_99 rfl (lv_at hl 1 rfl) ?_
            refine dw_get hx hb hts inMc hown hG 0 2 rfl rfl (by decide) hw496 rfl rfl dM_learn_100 ?_
            refine lv_iload_n hx hb dM_learn_103 rfl (lv_at hl 2 rfl) ?_
            refine dw_ia (x := 9) hx hb hG 1 0 rfl rfl (v) rfl (by omega) (by decide) em dM_learn_104 ?_
            refine lv_iconst (v := 5) hx hb dM_learn_105 (by decide) ?_
            refine lv_icmp_gt (tgt := 128) hx hb dM_learn_106 (by decide) (fun h106 => ?_) (fun h106 => ?_)
            · skip
              replace h106 := (nI_ltI (a := 5) (b := 9) (by omega) (by omega)).mp h106
              refine lv_iconst (v := 2) hx hb dM_learn_128 (by decide) ?_
              refine lv_istore (lv' := [(4, .int (2)), (3, .int (2)), (0, .ref m0), (1, .int (nI (v))), (2, .int (nI (k)))]) hx hb dM_learn_129 hl (by decide) rfl (fun ls hl => ?_)
              refine lv_bipush (v := 32) hx hb dM_learn_131 (by decide) ?_
              refine lv_iload_n hx hb dM_learn_133 rfl (lv_at hl 3 rfl) ?_
              refine lv_imul hx hb dM_learn_134 ?_
              refine lv_topi (nm_r (pk_mul (32) (v)) ?_)
              refine lv_iload_n hx hb dM_learn_135 rfl (lv_at hl 4 rfl) ?_
              refine lv_iadd hx hb dM_learn_136 ?_
              refine lv_topi (nm_r (nI_add (32 * (v)) (k)) ?_)
              refine lv_istore (lv' := [(5, .int (nI (32 * (v) + k))), (4, .int (2)), (3, .int (2)), (0, .ref m0), (1, .int (nI (v))), (2, .int (nI (k)))]) hx hb dM_learn_137 hl (by decide) rfl (fun ls hl => ?_)
              refine lv_aload_n hx hb dM_learn_139 rfl (lv_at hl 3 rfl) ?_
              refine dw_get hx hb hts inMc hown hG 0 2 rfl rfl (by decide) hw496 rfl rfl dM_learn_140 ?_
              refine lv_iload_n hx hb dM_learn_143 rfl (lv_at hl 4 rfl) ?_
              refine dw_ia (x := 9) hx hb hG 1 0 rfl rfl (v) rfl (by omega) (by decide) em dM_learn_144 ?_
              refine lv_tableIn (tgt := 293) hx hb dM_learn_145 (by decide) (by decide) rfl (by decide) ?_
              refine lv_aload_n hx hb dM_learn_293 rfl (lv_at hl 3 rfl) ?_
              refine dw_get hx hb hts inMc hown hG 0 8 rfl rfl (by decide) hw502 rfl rfl dM_learn_294 ?_
              refine lv_iload hx hb dM_learn_297 (lv_at hl 0 rfl) ?_
              refine lv_aload_n hx hb dM_learn_299 rfl (lv_at hl 3 rfl) ?_
              refine lv_iload_n hx hb dM_learn_300 rfl (lv_at hl 4 rfl) ?_
              refine lv_iload_n hx hb dM_learn_301 rfl (lv_at hl 5 rfl) ?_
              refine dw_calli (wc := [(m0, .inr (5, [.int (ft), .int (vl), .ref aMd, .ref aO1, .ref aT2, .int (rs), .ref aSh, .ref aMk, .ref aFa, .ref aDe, .ref aNe, .ref aBy, .ref aPi, .int (pd), .ref aNw, .ref aNs, .ref aBf, .int (rn), .int (rr)])), (aMd, .inl (cI, 24, .inl (Md))), (aO1, .inl (cI, 24, .inl (O1))), (aT2, .inl (cI, 24, .inl (T2))), (aFa, .inl (cI, 768, .inl (G)))]) (wr := []) hG [0, 1, 2, 3, 4] [] rfl rfl (by decide) (by decide) (va_runV (As := [.int (nI (v)), .int (nI (k))]) (rest := [.int (nI (32 * (v) + k)), .ref aFa]) ⟨hx, hb, hml, hown, hts⟩ (rf_from11 l dC dI cI cZ m0 aMd aO1 aT2 aSh aMk aFa aDe aNe aBy aPi aNw aNs aBf ft vl rs pd rn rr v x k d Md O1 T2 G zx ox zy oy H.size hv hxv (by omega) em e1 (db_rep_out hfx ho (by omega))) (dc_V 2 hts tw_636 tw_638 tp_M_from tw_7 tw_639 rfl rfl (by decide +kernel) ⟨Nat.le_of_ble_eq_true rfl, Nat.le_of_ble_eq_true rfl⟩) (dw_preV (ci := 5) hG [0, 1, 2, 3, 4] [0, 1] rfl rfl (by decide) rfl rfl (q0 := 0) rfl) rfl rfl hl.1 rfl (lv_room (Nat.le_of_ble_eq_true rfl)) dM_learn_302 ⟨Nat.le_refl _, Nat.le_refl _⟩) (fun r u H locs hp hG => ?_)
              subst hp
              have hG : dw_G (dC, dI) vwCl [(cI, .int), (cZ, .boolean)] A s.heap s [(m0, .inr (5, [.int (ft), .int (vl), .ref aMd, .ref aO1, .ref aT2, .int (rs), .ref aSh, .ref aMk, .ref aFa, .ref aDe, .ref aNe, .ref aBy, .ref aPi, .int (pd), .ref aNw, .ref aNs, .ref aBf, .int (rn), .int (rr)])), (aMd, .inl (cI, 24, .inl (Md))), (aO1, .inl (cI, 24, .inl (O1))), (aT2, .inl (cI, 24, .inl (T2))), (aFa, .inl (cI, 768, .inl (G)))] H locs := hG
              refine dw_is (ws' := [(m0, .inr (5, [.int (ft), .int (vl), .ref aMd, .ref aO1, .ref aT2, .int (rs), .ref aSh, .ref aMk, .ref aFa, .ref aDe, .ref aNe, .ref aBy, .ref aPi, .int (pd), .ref aNw, .ref aNs, .ref aBf, .int (rn), .int (rr)])), (aMd, .inl (cI, 24, .inl (Md))), (aO1, .inl (cI, 24, .inl (O1))), (aT2, .inl (cI, 24, .inl (T2))), (aFa, .inl (cI, 768, .inl (upd (G) (32 * (v) + k) (db_tri (bt (db_F 11 d zx ox zy oy 0 0).1 k) (bt (db_F 11 d zx ox zy oy 0 0).2 k)))))]) hx hb hG 4 0 rfl rfl (32 * (v) + k) rfl (by omega) (by decide) dM_learn_305 rfl (fun H locs hG => ?_)
              refine lv_iinc (v := nI (k + 1)) (lv' := [(2, .int (nI (k + 1))), (5, .int (nI (32 * (v) + k))), (4, .int (2)), (3, .int (2)), (0, .ref m0), (1, .int (nI (v)))]) hx hb dM_learn_306 hl (k := 5) rfl (dw_inc (k)) (by decide) rfl (fun ls hl => ?_)
              refine lv_goto (tgt := 62) hx hb dM_learn_309 (by decide) ?_
              exact L62_ih (k + 1) (upd (G) (32 * (v) + k) (db_tri (bt (db_F 11 d zx ox zy oy 0 0).1 k) (bt (db_F 11 d zx ox zy oy 0 0).2 k))) ls H locs (by omega) (by omega) (db_out_upd _ ho (by omega)) (db_part_s hp9 rfl) (lv_sub hl [4, 5, 0] rfl) hG
            replace h106 : ¬ 5 < 9 := fun q => h106 ((nI_ltI (a := 5) (b := 9) (by omega) (by omega)).mpr q)
            (exfalso; omega)
          replace h75 : ¬ 5 < 9 := fun q => h75 ((nI_ltI (a := 5) (b := 9) (by omega) (by omega)).mpr q)
          (exfalso; omega)
      exact L62 _ (0) (Fa) ls H locs (Nat.lt_succ_self _) (by omega) (db_out_rfl _ _) (db_part0 _ _ _ _) (lv_sub hl [1, 2, 0] rfl) hG
    replace h49 := (nI_eq (a := 9) (b := 2) (by omega) (by omega)).mp h49
    (exfalso; omega)
  replace h16 := (nI_eq (a := 9) (b := 1) (by omega) (by omega)).mp h16
  (exfalso; omega)

set_option maxRecDepth 100000 in
set_option maxHeartbeats 4000000 in
theorem rf_learn12 (l : Launch) (dC : Nat → ClassId) (dI : Nat → Nat → Nat) (cI cZ : ClassId) (m0 aMd aO1 aT2 aSh aMk aFa aDe aNe aBy aPi aNw aNs aBf : Nat) (ft vl rs pd rn rr : Int32) (v x y : Nat) (d : Int32) (Md O1 T2 Fa : Nat → Int32) (zx ox zy oy : Int32) (sz : Nat) (hv : v < 24) (em : Md v = nI 10) (hxv : x < v) (e1 : O1 v = nI x) (hfx : db_rep Fa x zx ox) (hax : db_ap zx ox) : Met l yM_learn wsM_learn { frames := 2, cells := 0, slots := 0, locals := 60 } (va_Pc [.ref m0, .int (nI (v))] (dw_pre (dC, dI) vwCl [(m0, .inr (5, [.int (ft), .int (vl), .ref aMd, .ref aO1, .ref aT2, .int (rs), .ref aSh, .ref aMk, .ref aFa, .ref aDe, .ref aNe, .ref aBy, .ref aPi, .int (pd), .ref aNw, .ref aNs, .ref aBf, .int (rn), .int (rr)])), (aMd, .inl (cI, 24, .inl (Md))), (aO1, .inl (cI, 24, .inl (O1))), (aT2, .inl (cI, 24, .inl (T2))), (aFa, .inl (cI, 768, .inl (Fa)))] [(cI, .int), (cZ, .boolean)] sz)) (va_Qv (fun (u : Nat → Int32) => db_out Fa u v ∧ db_rep u v (db_F 12 d zx ox zy oy 0 0).1 (db_F 12 d zx ox zy oy 0 0).2) (fun u t => dw_post (dC, dI) vwCl [(m0, .inr (5, [.int (ft), .int (vl), .ref aMd, .ref aO1, .ref aT2, .int (rs), .ref aSh, .ref aMk, .ref aFa, .ref aDe, .ref aNe, .ref aBy, .ref aPi, .int (pd), .ref aNw, .ref aNs, .ref aBf, .int (rn), .int (rr)])), (aMd, .inl (cI, 24, .inl (Md))), (aO1, .inl (cI, 24, .inl (O1))), (aT2, .inl (cI, 24, .inl (T2))), (aFa, .inl (cI, 768, .inl (u)))] [(cI, .int), (cZ, .boolean)] (va_A [(m0, .inr (5, [.int (ft), .int (vl), .ref aMd, .ref aO1, .ref aT2, .int (rs), .ref aSh, .ref aMk, .ref aFa, .ref aDe, .ref aNe, .ref aBy, .ref aPi, .int (pd), .ref aNw, .ref aNs, .ref aBf, .int (rn), .int (rr)])), (aMd, .inl (cI, 24, .inl (Md))), (aO1, .inl (cI, 24, .inl (O1))), (aT2, .inl (cI, 24, .inl (T2))), (aFa, .inl (cI, 768, .inl (Fa)))] sz) t) (va_A [(m0, .inr (5, [.int (ft), .int (vl), .ref aMd, .ref aO1, .ref aT2, .int (rs), .ref aSh, .ref aMk, .ref aFa, .ref aDe, .ref aNe, .ref aBy, .ref aPi, .int (pd), .ref aNw, .ref aNs, .ref aBf, .int (rn), .int (rr)])), (aMd, .inl (cI, 24, .inl (Md))), (aO1, .inl (cI, 24, .inl (O1))), (aT2, .inl (cI, 24, .inl (T2))), (aFa, .inl (cI, 768, .inl (Fa)))] sz)) 0 0 (va_A [(m0, .inr (5, [.int (ft), .int (vl), .ref aMd, .ref aO1, .ref aT2, .int (rs), .ref aSh, .ref aMk, .ref aFa, .ref aDe, .ref aNe, .ref aBy, .ref aPi, .int (pd), .ref aNw, .ref aNs, .ref aBf, .int (rn), .int (rr)])), (aMd, .inl (cI, 24, .inl (Md))), (aO1, .inl (cI, 24, .inl (O1))), (aT2, .inl (cI, 24, .inl (T2))), (aFa, .inl (cI, 768, .inl (Fa)))] sz) := by
  refine Met.ofW (cc := cM_learn) (maxL := 6) (ret := none) (by decide) rfl ?_
  intro p e s m args below meth c s₁ B hml hv0
  have hx := B.exec
  have hb := B.bytes
  have hr := B.returns
  have hts := atoms_spec (ws := wsM_learn) B.pre
  have hown : s.vm.findClass RM = some m.cls := findClass_of_methodNamed B.named
  have hlocks := B.notSynchronized
  obtain ⟨rfl, hsz, hG⟩ := dw_enter hv0
  generalize va_A [(m0, .inr (5, [.int (ft), .int (vl), .ref aMd, .ref aO1, .ref aT2, .int (rs), .ref aSh, .ref aMk, .ref aFa, .ref aDe, .ref aNe, .ref aBy, .ref aPi, .int (pd), .ref aNw, .ref aNs, .ref aBf, .int (rn), .int (rr)])), (aMd, .inl (cI, 24, .inl (Md))), (aO1, .inl (cI, 24, .inl (O1))), (aT2, .inl (cI, 24, .inl (T2))), (aFa, .inl (cI, 768, .inl (Fa)))] sz = A at hG ⊢
  have hl := lv_entry ([.ref m0, .int (nI (v))]) (n := 6) (Nat.le_of_ble_eq_true rfl)
  rw [lg_entry_eq]
  generalize (lg_sl ([.ref m0, .int (nI (v))]) ++ List.replicate (6 - (lg_sl ([.ref m0, .int (nI (v))])).length) Slot.unset).toArray = ls at hl ⊢
  have hl : lv_has ls 6 [(0, .ref m0), (1, .int (nI (v)))] := hl
  have hw496 := hts _ (List.mem_cons_of_mem _ tw_496)
  have hw502 := hts _ (List.mem_cons_of_mem _ tw_502)
  refine dw_Q (fun Q hQ => ?_)
  suffices hgo : ∀ (H : Heap) (locs : List Loc), dw_G (dC, dI) vwCl [(cI, .int), (cZ, .boolean)] A s.heap s [(m0, .inr (5, [.int (ft), .int (vl), .ref aMd, .ref aO1, .ref aT2, .int (rs), .ref aSh, .ref aMk, .ref aFa, .ref aDe, .ref aNe, .ref aBy, .ref aPi, .int (pd), .ref aNw, .ref aNs, .ref aBf, .int (rn), .int (rr)])), (aMd, .inl (cI, 24, .inl (Md))), (aO1, .inl (cI, 24, .inl (O1))), (aT2, .inl (cI, 24, .inl (T2))), (aFa, .inl (cI, 768, .inl (Fa)))] H locs → W p l e (headSpec wsM_learn { frames := 2, cells := 0, slots := 0, locals := 60 }).room s m [.ref m0, .int (nI (v))].toArray below meth c H locs 0 0 Q (F0 m 0 ls []) from hgo _ _ hG
  clear hG
  intro H locs hG
  refine lv_aload_n hx hb dM_learn_0 rfl (lv_at hl 0 rfl) ?_
  refine dw_get hx hb hts inMc hown hG 0 2 rfl rfl (by decide) hw496 rfl rfl dM_learn_1 ?_
  refine lv_iload_n hx hb dM_learn_4 rfl (lv_at hl 1 rfl) ?_
  refine dw_ia (x := 10) hx hb hG 1 0 rfl rfl (v) rfl (by omega) (by decide) em dM_learn_5 ?_
  refine lv_if_eq (tgt := 19) hx hb dM_learn_6 (by decide) (fun h6 => ?_) (fun h6 => ?_)
  · skip
    replace h6 := (nI_eq (a := 10) (b := 0) (by omega) (by omega)).mp h6
    (exfalso; omega)
  replace h6 : ¬ 10 = 0 := fun q => h6 ((nI_eq (a := 10) (b := 0) (by omega) (by omega)).mpr q)
  refine lv_aload_n hx hb dM_learn_9 rfl (lv_at hl 0 rfl) ?_
  refine dw_get hx hb hts inMc hown hG 0 2 rfl rfl (by decide) hw496 rfl rfl dM_learn_10 ?_
  refine lv_iload_n hx hb dM_learn_13 rfl (lv_at hl 1 rfl) ?_
  refine dw_ia (x := 10) hx hb hG 1 0 rfl rfl (v) rfl (by omega) (by decide) em dM_learn_14 ?_
  refine lv_iconst (v := 1) hx hb dM_learn_15 (by decide) ?_
  refine lv_icmp_ne (tgt := 42) hx hb dM_learn_16 (by decide) (fun h16 => ?_) (fun h16 => ?_)
  · skip
    replace h16 : ¬ 10 = 1 := fun q => h16 ((nI_eq (a := 10) (b := 1) (by omega) (by omega)).mpr q)
    refine lv_aload_n hx hb dM_learn_42 rfl (lv_at hl 0 rfl) ?_
    refine dw_get hx hb hts inMc hown hG 0 2 rfl rfl (by decide) hw496 rfl rfl dM_learn_43 ?_
    refine lv_iload_n hx hb dM_learn_46 rfl (lv_at hl 1 rfl) ?_
    refine dw_ia (x := 10) hx hb hG 1 0 rfl rfl (v) rfl (by omega) (by decide) em dM_learn_47 ?_
    refine lv_iconst (v := 2) hx hb dM_learn_48 (by decide) ?_
    refine lv_icmp_ne (tgt := 60) hx hb dM_learn_49 (by decide) (fun h49 => ?_) (fun h49 => ?_)
    · skip
      replace h49 : ¬ 10 = 2 := fun q => h49 ((nI_eq (a := 10) (b := 2) (by omega) (by omega)).mpr q)
      refine lv_iconst (v := 0) hx hb dM_learn_60 (by decide) ?_
      refine lv_istore_n (lv' := [(2, .int (0)), (0, .ref m0), (1, .int (nI (v)))]) hx hb dM_learn_61 rfl hl (by decide) rfl (fun ls hl => ?_)
      have L62 : ∀ (zz : Nat) (k : Nat) (G : Nat → Int32) (ls : Array Slot) (H : Heap) (locs : List Loc), 32 - k < zz → k ≤ 32 → db_out Fa G v → db_part G v k (db_F 12 d zx ox zy oy 0 0).1 (db_F 12 d zx ox zy oy 0 0).2 → lv_has ls 6 [(0, .ref m0), (1, .int (nI (v))), (2, .int (nI (k)))] → dw_G (dC, dI) vwCl [(cI, .int), (cZ, .boolean)] A s.heap s [(m0, .inr (5, [.int (ft), .int (vl), .ref aMd, .ref aO1, .ref aT2, .int (rs), .ref aSh, .ref aMk, .ref aFa, .ref aDe, .ref aNe, .ref aBy, .ref aPi, .int (pd), .ref aNw, .ref aNs, .ref aBf, .int (rn), .int (rr)])), (aMd, .inl (cI, 24, .inl (Md))), (aO1, .inl (cI, 24, .inl (O1))), (aT2, .inl (cI, 24, .inl (T2))), (aFa, .inl (cI, 768, .inl (G)))] H locs → W p l e (headSpec wsM_learn { frames := 2, cells := 0, slots := 0, locals := 60 }).room s m [.ref m0, .int (nI (v))].toArray below meth c H locs 0 0 Q (F0 m 62 ls []) := by
        intro zz
        induction zz with
        | zero => intro k G ls H locs hz; exact absurd hz (Nat.not_lt_zero _)
        | succ zz L62_ih =>
          intro k G ls H locs hz hk ho hp9 hl hG
          refine lv_iload_n hx hb dM_learn_62 rfl (lv_at hl 2 rfl) ?_
          refine lv_bipush (v := 32) hx hb dM_learn_63 (by decide) ?_
          refine lv_icmp_ge (tgt := 312) hx hb dM_learn_65 (by decide) (fun h65 => ?_) (fun h65 => ?_)
          · skip
            replace h65 := (nI_leI (a := 32) (b := k) (by omega) (by omega)).mp h65
            subst hQ
            exact dw_vret hx hb hr hG (G) rfl ⟨ho, by rw [show k = 32 by omega] at hp9; exact hp9⟩ dM_learn_312 hlocks
          replace h65 : ¬ 32 ≤ k := fun q => h65 ((nI_leI (a := 32) (b := k) (by omega) (by omega)).mpr q)
          refine lv_aload_n hx hb dM_learn_68 rfl (lv_at hl 0 rfl) ?_
          refine dw_get hx hb hts inMc hown hG 0 2 rfl rfl (by decide) hw496 rfl rfl dM_learn_69 ?_
          refine lv_iload_n hx hb dM_learn_72 rfl (lv_at hl 1 rfl) ?_
          refine dw_ia (x := 10) hx hb hG 1 0 rfl rfl (v) rfl (by omega) (by decide) em dM_learn_73 ?_
          refine lv_iconst (v := 5) hx hb dM_learn_74 (by decide) ?_
          refine lv_icmp_gt (tgt := 97) hx hb dM_learn_75 (by decide) (fun h75 => ?_) (fun h75 => ?_)
          · skip
            replace h75 := (nI_ltI (a := 5) (b := 10) (by omega) (by omega)).mp h75
            refine lv_iconst (v := 2) hx hb dM_learn_97 (by decide) ?_
            refine lv_istore_n (lv' := [(3, .int (2)), (0, .ref m0), (1, .int (nI (v))), (2, .int (nI (k)))]) hx hb dM_learn_98 rfl hl (by decide) rfl (fun ls hl => ?_)
            refine lv_aload_n hx hb dM_learn_99 rfl (lv_at hl 1 rfl) ?_
            refine dw_get hx hb hts inMc hown hG 0 2 rfl rfl (by decide) hw496 rfl rfl dM_learn_100 ?_
            refine lv_iload_n hx hb dM_learn_103 rfl (lv_at hl 2 rfl) ?_
            refine dw_ia (x := 10) hx hb hG 1 0 rfl rfl (v) rfl (by omega) (by decide) em dM_learn_104 ?_
            refine lv_iconst (v := 5) hx hb dM_learn_105 (by decide) ?_
            refine lv_icmp_gt (tgt := 128) hx hb dM_learn_106 (by decide) (fun h106 => ?_) (fun h106 => ?_)
            · skip
              replace h106 := (nI_ltI (a := 5) (b := 10) (by omega) (by omega)).mp h106
              refine lv_iconst (v := 2) hx hb dM_learn_128 (by decide) ?_
              refine lv_istore (lv' := [(4, .int (2)), (3, .int (2)), (0, .ref m0), (1, .int (nI (v))), (2, .int (nI (k)))]) hx hb dM_learn_129 hl (by decide) rfl (fun ls hl => ?_)
              refine lv_bipush (v := 32) hx hb dM_learn_131 (by decide) ?_
              refine lv_iload_n hx hb dM_learn_133 rfl (lv_at hl 3 rfl) ?_
              refine lv_imul hx hb dM_learn_134 ?_
              refine lv_topi (nm_r (pk_mul (32) (v)) ?_)
              refine lv_iload_n hx hb dM_learn_135 rfl (lv_at hl 4 rfl) ?_
              refine lv_iadd hx hb dM_learn_136 ?_
              refine lv_topi (nm_r (nI_add (32 * (v)) (k)) ?_)
              refine lv_istore (lv' := [(5, .int (nI (32 * (v) + k))), (4, .int (2)), (3, .int (2)), (0, .ref m0), (1, .int (nI (v))), (2, .int (nI (k)))]) hx hb dM_learn_137 hl (by decide) rfl (fun ls hl => ?_)
              refine lv_aload_n hx hb dM_learn_139 rfl (lv_at hl 3 rfl) ?_
              refine dw_get hx hb hts inMc hown hG 0 2 rfl rfl (by decide) hw496 rfl rfl dM_learn_140 ?_
              refine lv_iload_n hx hb dM_learn_143 rfl (lv_at hl 4 rfl) ?_
              refine dw_ia (x := 10) hx hb hG 1 0 rfl rfl (v) rfl (by omega) (by decide) em dM_learn_144 ?_
              refine lv_tableIn (tgt := 293) hx hb dM_learn_145 (by decide) (by decide) rfl (by decide) ?_
              refine lv_aload_n hx hb dM_learn_293 rfl (lv_at hl 3 rfl) ?_
              refine dw_get hx hb hts inMc hown hG 0 8 rfl rfl (by decide) hw502 rfl rfl dM_learn_294 ?_
              refine lv_iload hx hb dM_learn_297 (lv_at hl 0 rfl) ?_
              refine lv_aload_n hx hb dM_learn_299 rfl (lv_at hl 3 rfl) ?_
              refine lv_iload_n hx hb dM_learn_300 rfl (lv_at hl 4 rfl) ?_
              refine lv_iload_n hx hb dM_learn_301 rfl (lv_at hl 5 rfl) ?_
              refine dw_calli (wc := [(m0, .inr (5, [.int (ft), .int (vl), .ref aMd, .ref aO1, .ref aT2, .int (rs), .ref aSh, .ref aMk, .ref aFa, .ref aDe, .ref aNe, .ref aBy, .ref aPi, .int (pd), .ref aNw, .ref aNs, .ref aBf, .int (rn), .int (rr)])), (aMd, .inl (cI, 24, .inl (Md))), (aO1, .inl (cI, 24, .inl (O1))), (aT2, .inl (cI, 24, .inl (T2))), (aFa, .inl (cI, 768, .inl (G)))]) (wr := []) hG [0, 1, 2, 3, 4] [] rfl rfl (by decide) (by decide) (va_runV (As := [.int (nI (v)), .int (nI (k))]) (rest := [.int (nI (32 * (v) + k)), .ref aFa]) ⟨hx, hb, hml, hown, hts⟩ (rf_from12 l dC dI cI cZ m0 aMd aO1 aT2 aSh aMk aFa aDe aNe aBy aPi aNw aNs aBf ft vl rs pd rn rr v x k d Md O1 T2 G zx ox zy oy H.size hv hxv (by omega) em e1 (db_rep_out hfx ho (by omega))) (dc_V 2 hts tw_636 tw_638 tp_M_from tw_7 tw_639 rfl rfl (by decide +kernel) ⟨Nat.le_of_ble_eq_true rfl, Nat.le_of_ble_eq_true rfl⟩) (dw_preV (ci := 5) hG [0, 1, 2, 3, 4] [0, 1] rfl rfl (by decide) rfl rfl (q0 := 0) rfl) rfl rfl hl.1 rfl (lv_room (Nat.le_of_ble_eq_true rfl)) dM_learn_302 ⟨Nat.le_refl _, Nat.le_refl _⟩) (fun r u H locs hp hG => ?_)
              subst hp
              have hG : dw_G (dC, dI) vwCl [(cI, .int), (cZ, .boolean)] A s.heap s [(m0, .inr (5, [.int (ft), .int (vl), .ref aMd, .ref aO1, .ref aT2, .int (rs), .ref aSh, .ref aMk, .ref aFa, .ref aDe, .ref aNe, .ref aBy, .ref aPi, .int (pd), .ref aNw, .ref aNs, .ref aBf, .int (rn), .int (rr)])), (aMd, .inl (cI, 24, .inl (Md))), (aO1, .inl (cI, 24, .inl (O1))), (aT2, .inl (cI, 24, .inl (T2))), (aFa, .inl (cI, 768, .inl (G)))] H locs := hG
              refine dw_is (ws' := [(m0, .inr (5, [.int (ft), .int (vl), .ref aMd, .ref aO1, .ref aT2, .int (rs), .ref aSh, .ref aMk, .ref aFa, .ref aDe, .ref aNe, .ref aBy, .ref aPi, .int (pd), .ref aNw, .ref aNs, .ref aBf, .int (rn), .int (rr)])), (aMd, .inl (cI, 24, .inl (Md))), (aO1, .inl (cI, 24, .inl (O1))), (aT2, .inl (cI, 24, .inl (T2))), (aFa, .inl (cI, 768, .inl (upd (G) (32 * (v) + k) (db_tri (bt (db_F 12 d zx ox zy oy 0 0).1 k) (bt (db_F 12 d zx ox zy oy 0 0).2 k)))))]) hx hb hG 4 0 rfl rfl (32 * (v) + k) rfl (by omega) (by decide) dM_learn_305 rfl (fun H locs hG => ?_)
              refine lv_iinc (v := nI (k + 1)) (lv' := [(2, .int (nI (k + 1))), (5, .int (nI (32 * (v) + k))), (4, .int (2)), (3, .int (2)), (0, .ref m0), (1, .int (nI (v)))]) hx hb dM_learn_306 hl (k := 5) rfl (dw_inc (k)) (by decide) rfl (fun ls hl => ?_)
              refine lv_goto (tgt := 62) hx hb dM_learn_309 (by decide) ?_
              exact L62_ih (k + 1) (upd (G) (32 * (v) + k) (db_tri (bt (db_F 12 d zx ox zy oy 0 0).1 k) (bt (db_F 12 d zx ox zy oy 0 0).2 k))) ls H locs (by omega) (by omega) (db_out_upd _ ho (by omega)) (db_part_s hp9 rfl) (lv_sub hl [4, 5, 0] rfl) hG
            replace h106 : ¬ 5 < 10 := fun q => h106 ((nI_ltI (a := 5) (b := 10) (by omega) (by omega)).mpr q)
            (exfalso; omega)
          replace h75 : ¬ 5 < 10 := fun q => h75 ((nI_ltI (a := 5) (b := 10) (by omega) (by omega)).mpr q)
          (exfalso; omega)
      exact L62 _ (0) (Fa) ls H locs (Nat.lt_succ_self _) (by omega) (db_out_rfl _ _) (db_part0 _ _ _ _) (lv_sub hl [1, 2, 0] rfl) hG
    replace h49 := (nI_eq (a := 10) (b := 2) (by omega) (by omega)).mp h49
    (exfalso; omega)
  replace h16 := (nI_eq (a := 10) (b := 1) (by omega) (by omega)).mp h16
  (exfalso; omega)

set_option maxRecDepth 100000 in
theorem rf_learn (l : Launch) (dC : Nat → ClassId) (dI : Nat → Nat → Nat) (cI cZ : ClassId) (m0 aMd aO1 aT2 aSh aMk aFa aDe aNe aBy aPi aNw aNs aBf : Nat) (ft vl rs pd rn rr : Int32) (v x y : Nat) (d : Int32) (Md O1 T2 Fa : Nat → Int32) (zx ox zy oy : Int32) (kd : Nat) (sz : Nat) (hv : v < 24) (hkd : kd ≤ 12) (em : Md v = nI (db_rk kd)) (hX : db_ux kd → x < v ∧ O1 v = nI x ∧ db_rep Fa x zx ox ∧ db_ap zx ox) (hY : kd ≤ 5 → y < v ∧ T2 v = nI y ∧ db_rep Fa y zy oy ∧ db_ap zy oy) (hS : db_shift kd → T2 v = d ∧ ∃ dd, dd < 32 ∧ d = nI dd) (hO : kd = 10 → O1 v = d) : Met l yM_learn wsM_learn { frames := 2, cells := 0, slots := 0, locals := 60 } (va_Pc [.ref m0, .int (nI (v))] (dw_pre (dC, dI) vwCl [(m0, .inr (5, [.int (ft), .int (vl), .ref aMd, .ref aO1, .ref aT2, .int (rs), .ref aSh, .ref aMk, .ref aFa, .ref aDe, .ref aNe, .ref aBy, .ref aPi, .int (pd), .ref aNw, .ref aNs, .ref aBf, .int (rn), .int (rr)])), (aMd, .inl (cI, 24, .inl (Md))), (aO1, .inl (cI, 24, .inl (O1))), (aT2, .inl (cI, 24, .inl (T2))), (aFa, .inl (cI, 768, .inl (Fa)))] [(cI, .int), (cZ, .boolean)] sz)) (va_Qv (fun (u : Nat → Int32) => db_out Fa u v ∧ db_rep u v (db_F kd d zx ox zy oy 0 0).1 (db_F kd d zx ox zy oy 0 0).2) (fun u t => dw_post (dC, dI) vwCl [(m0, .inr (5, [.int (ft), .int (vl), .ref aMd, .ref aO1, .ref aT2, .int (rs), .ref aSh, .ref aMk, .ref aFa, .ref aDe, .ref aNe, .ref aBy, .ref aPi, .int (pd), .ref aNw, .ref aNs, .ref aBf, .int (rn), .int (rr)])), (aMd, .inl (cI, 24, .inl (Md))), (aO1, .inl (cI, 24, .inl (O1))), (aT2, .inl (cI, 24, .inl (T2))), (aFa, .inl (cI, 768, .inl (u)))] [(cI, .int), (cZ, .boolean)] (va_A [(m0, .inr (5, [.int (ft), .int (vl), .ref aMd, .ref aO1, .ref aT2, .int (rs), .ref aSh, .ref aMk, .ref aFa, .ref aDe, .ref aNe, .ref aBy, .ref aPi, .int (pd), .ref aNw, .ref aNs, .ref aBf, .int (rn), .int (rr)])), (aMd, .inl (cI, 24, .inl (Md))), (aO1, .inl (cI, 24, .inl (O1))), (aT2, .inl (cI, 24, .inl (T2))), (aFa, .inl (cI, 768, .inl (Fa)))] sz) t) (va_A [(m0, .inr (5, [.int (ft), .int (vl), .ref aMd, .ref aO1, .ref aT2, .int (rs), .ref aSh, .ref aMk, .ref aFa, .ref aDe, .ref aNe, .ref aBy, .ref aPi, .int (pd), .ref aNw, .ref aNs, .ref aBf, .int (rn), .int (rr)])), (aMd, .inl (cI, 24, .inl (Md))), (aO1, .inl (cI, 24, .inl (O1))), (aT2, .inl (cI, 24, .inl (T2))), (aFa, .inl (cI, 768, .inl (Fa)))] sz)) 0 0 (va_A [(m0, .inr (5, [.int (ft), .int (vl), .ref aMd, .ref aO1, .ref aT2, .int (rs), .ref aSh, .ref aMk, .ref aFa, .ref aDe, .ref aNe, .ref aBy, .ref aPi, .int (pd), .ref aNw, .ref aNs, .ref aBf, .int (rn), .int (rr)])), (aMd, .inl (cI, 24, .inl (Md))), (aO1, .inl (cI, 24, .inl (O1))), (aT2, .inl (cI, 24, .inl (T2))), (aFa, .inl (cI, 768, .inl (Fa)))] sz) := by
  rcases (by omega : kd = 0 ∨ kd = 1 ∨ kd = 2 ∨ kd = 3 ∨ kd = 4 ∨ kd = 5 ∨ kd = 6 ∨ kd = 7 ∨ kd = 8 ∨ kd = 9 ∨ kd = 10 ∨ kd = 11 ∨ kd = 12) with e | e | e | e | e | e | e | e | e | e | e | e | e
  · subst e
    obtain ⟨x1, x2, x3, x4⟩ := hX (by unfold db_ux; omega)
    obtain ⟨y1, y2, y3, y4⟩ := hY (by omega)
    exact rf_learn0 l dC dI cI cZ m0 aMd aO1 aT2 aSh aMk aFa aDe aNe aBy aPi aNw aNs aBf ft vl rs pd rn rr v x y d Md O1 T2 Fa zx ox zy oy sz hv em x1 x2 x3 x4 y1 y2 y3 y4
  · subst e
    obtain ⟨x1, x2, x3, x4⟩ := hX (by unfold db_ux; omega)
    obtain ⟨y1, y2, y3, y4⟩ := hY (by omega)
    exact rf_learn1 l dC dI cI cZ m0 aMd aO1 aT2 aSh aMk aFa aDe aNe aBy aPi aNw aNs aBf ft vl rs pd rn rr v x y d Md O1 T2 Fa zx ox zy oy sz hv em x1 x2 x3 x4 y1 y2 y3 y4
  · subst e
    obtain ⟨x1, x2, x3, x4⟩ := hX (by unfold db_ux; omega)
    obtain ⟨y1, y2, y3, y4⟩ := hY (by omega)
    exact rf_learn2 l dC dI cI cZ m0 aMd aO1 aT2 aSh aMk aFa aDe aNe aBy aPi aNw aNs aBf ft vl rs pd rn rr v x y d Md O1 T2 Fa zx ox zy oy sz hv em x1 x2 x3 x4 y1 y2 y3 y4
  · subst e
    obtain ⟨x1, x2, x3, x4⟩ := hX (by unfold db_ux; omega)
    obtain ⟨y1, y2, y3, y4⟩ := hY (by omega)
    exact rf_learn3 l dC dI cI cZ m0 aMd aO1 aT2 aSh aMk aFa aDe aNe aBy aPi aNw aNs aBf ft vl rs pd rn rr v x y d Md O1 T2 Fa zx ox zy oy sz hv em x1 x2 x3 x4 y1 y2 y3 y4
  · subst e
    obtain ⟨x1, x2, x3, x4⟩ := hX (by unfold db_ux; omega)
    obtain ⟨y1, y2, y3, y4⟩ := hY (by omega)
    exact rf_learn4 l dC dI cI cZ m0 aMd aO1 aT2 aSh aMk aFa aDe aNe aBy aPi aNw aNs aBf ft vl rs pd rn rr v x y d Md O1 T2 Fa zx ox zy oy sz hv em x1 x2 x3 x4 y1 y2 y3 y4
  · subst e
    obtain ⟨x1, x2, x3, x4⟩ := hX (by unfold db_ux; omega)
    obtain ⟨y1, y2, y3, y4⟩ := hY (by omega)
    exact rf_learn5 l dC dI cI cZ m0 aMd aO1 aT2 aSh aMk aFa aDe aNe aBy aPi aNw aNs aBf ft vl rs pd rn rr v x y d Md O1 T2 Fa zx ox zy oy sz hv em x1 x2 x3 x4 y1 y2 y3 y4
  · subst e
    obtain ⟨x1, x2, x3, x4⟩ := hX (by unfold db_ux; omega)
    obtain ⟨s1, dd, s2, rfl⟩ := hS (by unfold db_shift; omega)
    exact rf_learn6 l dC dI cI cZ m0 aMd aO1 aT2 aSh aMk aFa aDe aNe aBy aPi aNw aNs aBf ft vl rs pd rn rr v x y (nI dd) Md O1 T2 Fa zx ox zy oy dd sz hv em x1 x2 x3 x4 s2 s1
  · subst e
    obtain ⟨x1, x2, x3, x4⟩ := hX (by unfold db_ux; omega)
    obtain ⟨s1, dd, s2, rfl⟩ := hS (by unfold db_shift; omega)
    exact rf_learn7 l dC dI cI cZ m0 aMd aO1 aT2 aSh aMk aFa aDe aNe aBy aPi aNw aNs aBf ft vl rs pd rn rr v x y (nI dd) Md O1 T2 Fa zx ox zy oy dd sz hv em x1 x2 x3 x4 s2 s1
  · subst e
    obtain ⟨x1, x2, x3, x4⟩ := hX (by unfold db_ux; omega)
    obtain ⟨s1, dd, s2, rfl⟩ := hS (by unfold db_shift; omega)
    exact rf_learn8 l dC dI cI cZ m0 aMd aO1 aT2 aSh aMk aFa aDe aNe aBy aPi aNw aNs aBf ft vl rs pd rn rr v x y (nI dd) Md O1 T2 Fa zx ox zy oy dd sz hv em x1 x2 x3 x4 s2 s1
  · subst e
    exact rf_learn9 l dC dI cI cZ m0 aMd aO1 aT2 aSh aMk aFa aDe aNe aBy aPi aNw aNs aBf ft vl rs pd rn rr v x y d Md O1 T2 Fa zx ox zy oy sz hv em
  · subst e
    exact rf_learn10 l dC dI cI cZ m0 aMd aO1 aT2 aSh aMk aFa aDe aNe aBy aPi aNw aNs aBf ft vl rs pd rn rr v x y d Md O1 T2 Fa zx ox zy oy sz hv em (hO rfl)
  · subst e
    obtain ⟨x1, x2, x3, x4⟩ := hX (by unfold db_ux; omega)
    exact rf_learn11 l dC dI cI cZ m0 aMd aO1 aT2 aSh aMk aFa aDe aNe aBy aPi aNw aNs aBf ft vl rs pd rn rr v x y d Md O1 T2 Fa zx ox zy oy sz hv em x1 x2 x3 x4
  · subst e
    obtain ⟨x1, x2, x3, x4⟩ := hX (by unfold db_ux; omega)
    exact rf_learn12 l dC dI cI cZ m0 aMd aO1 aT2 aSh aMk aFa aDe aNe aBy aPi aNw aNs aBf ft vl rs pd rn rr v x y d Md O1 T2 Fa zx ox zy oy sz hv em x1 x2 x3 x4

