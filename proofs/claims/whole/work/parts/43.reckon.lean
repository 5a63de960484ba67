set_option maxRecDepth 100000 in
set_option maxHeartbeats 4000000 in
theorem rf_reckon0 (l : Launch) (dC : Nat → ClassId) (dI : Nat → Nat → Nat) (cI cZ : ClassId) (m0 aMd aO1 aT2 aSh aMk aFa aDe aNe aBy aPi aNw aNs aBf : Nat) (ft vl rs pd rn rr : Int32) (aW v x y : Nat) (Md O1 T2 Rd inp : Nat → Int32) (nm : Int32) (sz : Nat) (hv : v < 24) (em : Md v = nI 0) (hx9 : x < 24) (e1 : O1 v = nI x) (hy9 : y < 24) (e2 : T2 v = nI y) : Met l yM_reckon wsM_reckon { frames := 0, cells := 0, slots := 0, locals := 0 } (va_Pc [.ref m0, .int (nI (v)), .ref aW] (dw_pre (dC, dI) vwCl [(m0, .inr (5, [.int (ft), .int (vl), .ref aMd, .ref aO1, .ref aT2, .int (rs), .ref aSh, .ref aMk, .ref aFa, .ref aDe, .ref aNe, .ref aBy, .ref aPi, .int (pd), .ref aNw, .ref aNs, .ref aBf, .int (rn), .int (rr)])), (aMd, .inl (cI, 24, .inl (Md))), (aO1, .inl (cI, 24, .inl (O1))), (aT2, .inl (cI, 24, .inl (T2))), (aW, .inl (cI, 24, .inl (Rd)))] [(cI, .int), (cZ, .boolean)] sz)) (va_Qi (fun (r : Int32) (u : Unit) => r = db_op 0 (Rd x) (Rd y) nm inp) (fun u t => dw_post (dC, dI) vwCl [(m0, .inr (5, [.int (ft), .int (vl), .ref aMd, .ref aO1, .ref aT2, .int (rs), .ref aSh, .ref aMk, .ref aFa, .ref aDe, .ref aNe, .ref aBy, .ref aPi, .int (pd), .ref aNw, .ref aNs, .ref aBf, .int (rn), .int (rr)])), (aMd, .inl (cI, 24, .inl (Md))), (aO1, .inl (cI, 24, .inl (O1))), (aT2, .inl (cI, 24, .inl (T2))), (aW, .inl (cI, 24, .inl (Rd)))] [(cI, .int), (cZ, .boolean)] (va_A [(m0, .inr (5, [.int (ft), .int (vl), .ref aMd, .ref aO1, .ref aT2, .int (rs), .ref aSh, .ref aMk, .ref aFa, .ref aDe, .ref aNe, .ref aBy, .ref aPi, .int (pd), .ref aNw, .ref aNs, .ref aBf, .int (rn), .int (rr)])), (aMd, .inl (cI, 24, .inl (Md))), (aO1, .inl (cI, 24, .inl (O1))), (aT2, .inl (cI, 24, .inl (T2))), (aW, .inl (cI, 24, .inl (Rd)))] sz) t) (va_A [(m0, .inr (5, [.int (ft), .int (vl), .ref aMd, .ref aO1, .ref aT2, .int (rs), .ref aSh, .ref aMk, .ref aFa, .ref aDe, .ref aNe, .ref aBy, .ref aPi, .int (pd), .ref aNw, .ref aNs, .ref aBf, .int (rn), .int (rr)])), (aMd, .inl (cI, 24, .inl (Md))), (aO1, .inl (cI, 24, .inl (O1))), (aT2, .inl (cI, 24, .inl (T2))), (aW, .inl (cI, 24, .inl (Rd)))] sz)) 0 0 (va_A [(m0, .inr (5, [.int (ft), .int (vl), .ref aMd, .ref aO1, .ref aT2, .int (rs), .ref aSh, .ref aMk, .ref aFa, .ref aDe, .ref aNe, .ref aBy, .ref aPi, .int (pd), .ref aNw, .ref aNs, .ref aBf, .int (rn), .int (rr)])), (aMd, .inl (cI, 24, .inl (Md))), (aO1, .inl (cI, 24, .inl (O1))), (aT2, .inl (cI, 24, .inl (T2))), (aW, .inl (cI, 24, .inl (Rd)))] sz) := by
  refine Met.ofW (cc := cM_reckon) (maxL := 5) (ret := (some .int)) (by decide) rfl ?_
  intro p e s m args below meth c s₁ B hml hv0
  have hx := B.exec
  have hb := B.bytes
  have hr := B.returns
  have hts := atoms_spec (ws := wsM_reckon) B.pre
  have hown : s.vm.findClass RM = some m.cls := findClass_of_methodNamed B.named
  have hlocks := B.notSynchronized
  obtain ⟨rfl, hsz, hG⟩ := dw_enter hv0
  generalize va_A [(m0, .inr (5, [.int (ft), .int (vl), .ref aMd, .ref aO1, .ref aT2, .int (rs), .ref aSh, .ref aMk, .ref aFa, .ref aDe, .ref aNe, .ref aBy, .ref aPi, .int (pd), .ref aNw, .ref aNs, .ref aBf, .int (rn), .int (rr)])), (aMd, .inl (cI, 24, .inl (Md))), (aO1, .inl (cI, 24, .inl (O1))), (aT2, .inl (cI, 24, .inl (T2))), (aW, .inl (cI, 24, .inl (Rd)))] sz = A at hG ⊢
  have hl := lv_entry ([.ref m0, .int (nI (v)), .ref aW]) (n := 5) (Nat.le_of_ble_eq_true rfl)
  rw [lg_entry_eq]
  generalize (lg_sl ([.ref m0, .int (nI (v)), .ref aW]) ++ List.replicate (5 - (lg_sl ([.ref m0, .int (nI (v)), .ref aW])).length) Slot.unset).toArray = ls at hl ⊢
  have hl : lv_has ls 5 [(0, .ref m0), (1, .int (nI (v))), (2, .ref aW)] := hl
  have hw496 := hts _ (List.mem_cons_of_mem _ tw_496)
  have hw497 := hts _ (List.mem_cons_of_mem _ tw_497)
  have hw498 := hts _ (List.mem_cons_of_mem _ tw_498)
  refine dw_Q (fun Q hQ => ?_)
  suffices hgo : ∀ (H : Heap) (locs : List Loc), dw_G (dC, dI) vwCl [(cI, .int), (cZ, .boolean)] A s.heap s [(m0, .inr (5, [.int (ft), .int (vl), .ref aMd, .ref aO1, .ref aT2, .int (rs), .ref aSh, .ref aMk, .ref aFa, .ref aDe, .ref aNe, .ref aBy, .ref aPi, .int (pd), .ref aNw, .ref aNs, .ref aBf, .int (rn), .int (rr)])), (aMd, .inl (cI, 24, .inl (Md))), (aO1, .inl (cI, 24, .inl (O1))), (aT2, .inl (cI, 24, .inl (T2))), (aW, .inl (cI, 24, .inl (Rd)))] H locs → W p l e (headSpec wsM_reckon { frames := 0, cells := 0, slots := 0, locals := 0 }).room s m [.ref m0, .int (nI (v)), .ref aW].toArray below meth c H locs 0 0 Q (F0 m 0 ls []) from hgo _ _ hG
  clear hG
  intro H locs hG
  refine lv_aload_n hx hb dM_reckon_0 rfl (lv_at hl 0 rfl) ?_
  refine dw_get hx hb hts inMc hown hG 0 2 rfl rfl (by decide) hw496 rfl rfl dM_reckon_1 ?_
  refine lv_iload_n hx hb dM_reckon_4 rfl (lv_at hl 1 rfl) ?_
  refine dw_ia (x := 0) hx hb hG 1 0 rfl rfl (v) rfl (by omega) (by decide) em dM_reckon_5 ?_
  refine lv_bipush (v := 13) hx hb dM_reckon_6 (by decide) ?_
  refine lv_icmp_ge (tgt := 22) hx hb dM_reckon_8 (by decide) (fun h8 => ?_) (fun h8 => ?_)
  · skip
    replace h8 := (nI_leI (a := 13) (b := 0) (by omega) (by omega)).mp h8
    (exfalso; omega)
  replace h8 : ¬ 13 ≤ 0 := fun hq0 => h8 ((nI_leI (a := 13) (b := 0) (by omega) (by omega)).mpr hq0)
  refine lv_aload_n hx hb dM_reckon_11 rfl (lv_at hl 2 rfl) ?_
  refine lv_aload_n hx hb dM_reckon_12 rfl (lv_at hl 0 rfl) ?_
  refine dw_get hx hb hts inMc hown hG 0 3 rfl rfl (by decide) hw497 rfl rfl dM_reckon_13 ?_
  refine lv_iload_n hx hb dM_reckon_16 rfl (lv_at hl 1 rfl) ?_
  refine dw_ia (x := nI (x)) hx hb hG 2 0 rfl rfl (v) rfl (by omega) (by decide) e1 dM_reckon_17 ?_
  refine dw_ia (x := (Rd) (x)) hx hb hG 4 0 rfl rfl (x) rfl (by omega) (by decide) rfl dM_reckon_18 ?_
  refine lv_goto (tgt := 28) hx hb dM_reckon_19 (by decide) ?_
  refine lv_istore_n (lv' := [(3, .int ((Rd) (x))), (0, .ref m0), (1, .int (nI (v))), (2, .ref aW)]) hx hb dM_reckon_28 rfl hl (by decide) rfl (fun ls hl => ?_)
  refine lv_aload_n hx hb dM_reckon_29 rfl (lv_at hl 1 rfl) ?_
  refine dw_get hx hb hts inMc hown hG 0 2 rfl rfl (by decide) hw496 rfl rfl dM_reckon_30 ?_
  refine lv_iload_n hx hb dM_reckon_33 rfl (lv_at hl 2 rfl) ?_
  refine dw_ia (x := 0) hx hb hG 1 0 rfl rfl (v) rfl (by omega) (by decide) em dM_reckon_34 ?_
  refine lv_iconst (v := 5) hx hb dM_reckon_35 (by decide) ?_
  refine lv_icmp_gt (tgt := 50) hx hb dM_reckon_36 (by decide) (fun h36 => ?_) (fun h36 => ?_)
  · skip
    replace h36 := (nI_ltI (a := 5) (b := 0) (by omega) (by omega)).mp h36
    (exfalso; omega)
  replace h36 : ¬ 5 < 0 := fun hq0 => h36 ((nI_ltI (a := 5) (b := 0) (by omega) (by omega)).mpr hq0)
  refine lv_aload_n hx hb dM_reckon_39 rfl (lv_at hl 3 rfl) ?_
  refine lv_aload_n hx hb dM_reckon_40 rfl (lv_at hl 1 rfl) ?_
  refine dw_get hx hb hts inMc hown hG 0 4 rfl rfl (by decide) hw498 rfl rfl dM_reckon_41 ?_
  refine lv_iload_n hx hb dM_reckon_44 rfl (lv_at hl 2 rfl) ?_
  refine dw_ia (x := nI (y)) hx hb hG 3 0 rfl rfl (v) rfl (by omega) (by decide) e2 dM_reckon_45 ?_
  refine dw_ia (x := (Rd) (y)) hx hb hG 4 0 rfl rfl (y) rfl (by omega) (by decide) rfl dM_reckon_46 ?_
  refine lv_goto (tgt := 56) hx hb dM_reckon_47 (by decide) ?_
  refine lv_istore (lv' := [(4, .int ((Rd) (y))), (3, .int ((Rd) (x))), (0, .ref m0), (1, .int (nI (v))), (2, .ref aW)]) hx hb dM_reckon_56 hl (by decide) rfl (fun ls hl => ?_)
  refine lv_aload_n hx hb dM_reckon_58 rfl (lv_at hl 2 rfl) ?_
  refine dw_get hx hb hts inMc hown hG 0 2 rfl rfl (by decide) hw496 rfl rfl dM_reckon_59 ?_
  refine lv_iload_n hx hb dM_reckon_62 rfl (lv_at hl 3 rfl) ?_
  refine dw_ia (x := 0) hx hb hG 1 0 rfl rfl (v) rfl (by omega) (by decide) em dM_reckon_63 ?_
  refine lv_tableIn (tgt := 124) hx hb dM_reckon_64 (by decide) (by decide) rfl (by decide) ?_
  refine lv_iload_n hx hb dM_reckon_124 rfl (lv_at hl 1 rfl) ?_
  refine lv_iload hx hb dM_reckon_125 (lv_at hl 0 rfl) ?_
  refine lv_iadd hx hb dM_reckon_127 ?_
  subst hQ
  exact dw_iret hx hb hr hG (()) rfl rfl dM_reckon_128 hlocks

set_option maxRecDepth 100000 in
set_option maxHeartbeats 4000000 in
theorem rf_reckon1 (l : Launch) (dC : Nat → ClassId) (dI : Nat → Nat → Nat) (cI cZ : ClassId) (m0 aMd aO1 aT2 aSh aMk aFa aDe aNe aBy aPi aNw aNs aBf : Nat) (ft vl rs pd rn rr : Int32) (aW v x y : Nat) (Md O1 T2 Rd inp : Nat → Int32) (nm : Int32) (sz : Nat) (hv : v < 24) (em : Md v = nI 1) (hx9 : x < 24) (e1 : O1 v = nI x) (hy9 : y < 24) (e2 : T2 v = nI y) : Met l yM_reckon wsM_reckon { frames := 0, cells := 0, slots := 0, locals := 0 } (va_Pc [.ref m0, .int (nI (v)), .ref aW] (dw_pre (dC, dI) vwCl [(m0, .inr (5, [.int (ft), .int (vl), .ref aMd, .ref aO1, .ref aT2, .int (rs), .ref aSh, .ref aMk, .ref aFa, .ref aDe, .ref aNe, .ref aBy, .ref aPi, .int (pd), .ref aNw, .ref aNs, .ref aBf, .int (rn), .int (rr)])), (aMd, .inl (cI, 24, .inl (Md))), (aO1, .inl (cI, 24, .inl (O1))), (aT2, .inl (cI, 24, .inl (T2))), (aW, .inl (cI, 24, .inl (Rd)))] [(cI, .int), (cZ, .boolean)] sz)) (va_Qi (fun (r : Int32) (u : Unit) => r = db_op 1 (Rd x) (Rd y) nm inp) (fun u t => dw_post (dC, dI) vwCl [(m0, .inr (5, [.int (ft), .int (vl), .ref aMd, .ref aO1, .ref aT2, .int (rs), .ref aSh, .ref aMk, .ref aFa, .ref aDe, .ref aNe, .ref aBy, .ref aPi, .int (pd), .ref aNw, .ref aNs, .ref aBf, .int (rn), .int (rr)])), (aMd, .inl (cI, 24, .inl (Md))), (aO1, .inl (cI, 24, .inl (O1))), (aT2, .inl (cI, 24, .inl (T2))), (aW, .inl (cI, 24, .inl (Rd)))] [(cI, .int), (cZ, .boolean)] (va_A [(m0, .inr (5, [.int (ft), .int (vl), .ref aMd, .ref aO1, .ref aT2, .int (rs), .ref aSh, .ref aMk, .ref aFa, .ref aDe, .ref aNe, .ref aBy, .ref aPi, .int (pd), .ref aNw, .ref aNs, .ref aBf, .int (rn), .int (rr)])), (aMd, .inl (cI, 24, .inl (Md))), (aO1, .inl (cI, 24, .inl (O1))), (aT2, .inl (cI, 24, .inl (T2))), (aW, .inl (cI, 24, .inl (Rd)))] sz) t) (va_A [(m0, .inr (5, [.int (ft), .int (vl), .ref aMd, .ref aO1, .ref aT2, .int (rs), .ref aSh, .ref aMk, .ref aFa, .ref aDe, .ref aNe, .ref aBy, .ref aPi, .int (pd), .ref aNw, .ref aNs, .ref aBf, .int (rn), .int (rr)])), (aMd, .inl (cI, 24, .inl (Md))), (aO1, .inl (cI, 24, .inl (O1))), (aT2, .inl (cI, 24, .inl (T2))), (aW, .inl (cI, 24, .inl (Rd)))] sz)) 0 0 (va_A [(m0, .inr (5, [.int (ft), .int (vl), .ref aMd, .ref aO1, .ref aT2, .int (rs), .ref aSh, .ref aMk, .ref aFa, .ref aDe, .ref aNe, .ref aBy, .ref aPi, .int (pd), .ref aNw, .ref aNs, .ref aBf, .int (rn), .int (rr)])), (aMd, .inl (cI, 24, .inl (Md))), (aO1, .inl (cI, 24, .inl (O1))), (aT2, .inl (cI, 24, .inl (T2))), (aW, .inl (cI, 24, .inl (Rd)))] sz) := by
  refine Met.ofW (cc := cM_reckon) (maxL := 5) (ret := (some .int)) (by decide) rfl ?_
  intro p e s m args below meth c s₁ B hml hv0
  have hx := B.exec
  have hb := B.bytes
  have hr := B.returns
  have hts := atoms_spec (ws := wsM_reckon) B.pre
  have hown : s.vm.findClass RM = some m.cls := findClass_of_methodNamed B.named
  have hlocks := B.notSynchronized
  obtain ⟨rfl, hsz, hG⟩ := dw_enter hv0
  generalize va_A [(m0, .inr (5, [.int (ft), .int (vl), .ref aMd, .ref aO1, .ref aT2, .int (rs), .ref aSh, .ref aMk, .ref aFa, .ref aDe, .ref aNe, .ref aBy, .ref aPi, .int (pd), .ref aNw, .ref aNs, .ref aBf, .int (rn), .int (rr)])), (aMd, .inl (cI, 24, .inl (Md))), (aO1, .inl (cI, 24, .inl (O1))), (aT2, .inl (cI, 24, .inl (T2))), (aW, .inl (cI, 24, .inl (Rd)))] sz = A at hG ⊢
  have hl := lv_entry ([.ref m0, .int (nI (v)), .ref aW]) (n := 5) (Nat.le_of_ble_eq_true rfl)
  rw [lg_entry_eq]
  generalize (lg_sl ([.ref m0, .int (nI (v)), .ref aW]) ++ List.replicate (5 - (lg_sl ([.ref m0, .int (nI (v)), .ref aW])).length) Slot.unset).toArray = ls at hl ⊢
  have hl : lv_has ls 5 [(0, .ref m0), (1, .int (nI (v))), (2, .ref aW)] := hl
  have hw496 := hts _ (List.mem_cons_of_mem _ tw_496)
  have hw497 := hts _ (List.mem_cons_of_mem _ tw_497)
  have hw498 := hts _ (List.mem_cons_of_mem _ tw_498)
  refine dw_Q (fun Q hQ => ?_)
  suffices hgo : ∀ (H : Heap) (locs : List Loc), dw_G (dC, dI) vwCl [(cI, .int), (cZ, .boolean)] A s.heap s [(m0, .inr (5, [.int (ft), .int (vl), .ref aMd, .ref aO1, .ref aT2, .int (rs), .ref aSh, .ref aMk, .ref aFa, .ref aDe, .ref aNe, .ref aBy, .ref aPi, .int (pd), .ref aNw, .ref aNs, .ref aBf, .int (rn), .int (rr)])), (aMd, .inl (cI, 24, .inl (Md))), (aO1, .inl (cI, 24, .inl (O1))), (aT2, .inl (cI, 24, .inl (T2))), (aW, .inl (cI, 24, .inl (Rd)))] H locs → W p l e (headSpec wsM_reckon { frames := 0, cells := 0, slots := 0, locals := 0 }).room s m [.ref m0, .int (nI (v)), .ref aW].toArray below meth c H locs 0 0 Q (F0 m 0 ls []) from hgo _ _ hG
  clear hG
  intro H locs hG
  refine lv_aload_n hx hb dM_reckon_0 rfl (lv_at hl 0 rfl) ?_
  refine dw_get hx hb hts inMc hown hG 0 2 rfl rfl (by decide) hw496 rfl rfl dM_reckon_1 ?_
  refine lv_iload_n hx hb dM_reckon_4 rfl (lv_at hl 1 rfl) ?_
  refine dw_ia (x := 1) hx hb hG 1 0 rfl rfl (v) rfl (by omega) (by decide) em dM_reckon_5 ?_
  refine lv_bipush (v := 13) hx hb dM_reckon_6 (by decide) ?_
  refine lv_icmp_ge (tgt := 22) hx hb dM_reckon_8 (by decide) (fun h8 => ?_) (fun h8 => ?_)
  · skip
    replace h8 := (nI_leI (a := 13) (b := 1) (by omega) (by omega)).mp h8
    (exfalso; omega)
  replace h8 : ¬ 13 ≤ 1 := fun hq0 => h8 ((nI_leI (a := 13) (b := 1) (by omega) (by omega)).mpr hq0)
  refine lv_aload_n hx hb dM_reckon_11 rfl (lv_at hl 2 rfl) ?_
  refine lv_aload_n hx hb dM_reckon_12 rfl (lv_at hl 0 rfl) ?_
  refine dw_get hx hb hts inMc hown hG 0 3 rfl rfl (by decide) hw497 rfl rfl dM_reckon_13 ?_
  refine lv_iload_n hx hb dM_reckon_16 rfl (lv_at hl 1 rfl) ?_
  refine dw_ia (x := nI (x)) hx hb hG 2 0 rfl rfl (v) rfl (by omega) (by decide) e1 dM_reckon_17 ?_
  refine dw_ia (x := (Rd) (x)) hx hb hG 4 0 rfl rfl (x) rfl (by omega) (by decide) rfl dM_reckon_18 ?_
  refine lv_goto (tgt := 28) hx hb dM_reckon_19 (by decide) ?_
  refine lv_istore_n (lv' := [(3, .int ((Rd) (x))), (0, .ref m0), (1, .int (nI (v))), (2, .ref aW)]) hx hb dM_reckon_28 rfl hl (by decide) rfl (fun ls hl => ?_)
  refine lv_aload_n hx hb dM_reckon_29 rfl (lv_at hl 1 rfl) ?_
  refine dw_get hx hb hts inMc hown hG 0 2 rfl rfl (by decide) hw496 rfl rfl dM_reckon_30 ?_
  refine lv_iload_n hx hb dM_reckon_33 rfl (lv_at hl 2 rfl) ?_
  refine dw_ia (x := 1) hx hb hG 1 0 rfl rfl (v) rfl (by omega) (by decide) em dM_reckon_34 ?_
  refine lv_iconst (v := 5) hx hb dM_reckon_35 (by decide) ?_
  refine lv_icmp_gt (tgt := 50) hx hb dM_reckon_36 (by decide) (fun h36 => ?_) (fun h36 => ?_)
  · skip
    replace h36 := (nI_ltI (a := 5) (b := 1) (by omega) (by omega)).mp h36
    (exfalso; omega)
  replace h36 : ¬ 5 < 1 := fun hq0 => h36 ((nI_ltI (a := 5) (b := 1) (by omega) (by omega)).mpr hq0)
  refine lv_aload_n hx hb dM_reckon_39 rfl (lv_at hl 3 rfl) ?_
  refine lv_aload_n hx hb dM_reckon_40 rfl (lv_at hl 1 rfl) ?_
  refine dw_get hx hb hts inMc hown hG 0 4 rfl rfl (by decide) hw498 rfl rfl dM_reckon_41 ?_
  refine lv_iload_n hx hb dM_reckon_44 rfl (lv_at hl 2 rfl) ?_
  refine dw_ia (x := nI (y)) hx hb hG 3 0 rfl rfl (v) rfl (by omega) (by decide) e2 dM_reckon_45 ?_
  refine dw_ia (x := (Rd) (y)) hx hb hG 4 0 rfl rfl (y) rfl (by omega) (by decide) rfl dM_reckon_46 ?_
  refine lv_goto (tgt := 56) hx hb dM_reckon_47 (by decide) ?_
  refine lv_istore (lv' := [(4, .int ((Rd) (y))), (3, .int ((Rd) (x))), (0, .ref m0), (1, .int (nI (v))), (2, .ref aW)]) hx hb dM_reckon_56 hl (by decide) rfl (fun ls hl => ?_)
  refine lv_aload_n hx hb dM_reckon_58 rfl (lv_at hl 2 rfl) ?_
  refine dw_get hx hb hts inMc hown hG 0 2 rfl rfl (by decide) hw496 rfl rfl dM_reckon_59 ?_
  refine lv_iload_n hx hb dM_reckon_62 rfl (lv_at hl 3 rfl) ?_
  refine dw_ia (x := 1) hx hb hG 1 0 rfl rfl (v) rfl (by omega) (by decide) em dM_reckon_63 ?_
  refine lv_tableIn (tgt := 129) hx hb dM_reckon_64 (by decide) (by decide) rfl (by decide) ?_
  refine lv_iload_n hx hb dM_reckon_129 rfl (lv_at hl 1 rfl) ?_
  refine lv_iload hx hb dM_reckon_130 (lv_at hl 0 rfl) ?_
  refine lv_isub hx hb dM_reckon_132 ?_
  subst hQ
  exact dw_iret hx hb hr hG (()) rfl rfl dM_reckon_133 hlocks

set_option maxRecDepth 100000 in
set_option maxHeartbeats 4000000 in
theorem rf_reckon2 (l : Launch) (dC : Nat → ClassId) (dI : Nat → Nat → Nat) (cI cZ : ClassId) (m0 aMd aO1 aT2 aSh aMk aFa aDe aNe aBy aPi aNw aNs aBf : Nat) (ft vl rs pd rn rr : Int32) (aW v x y : Nat) (Md O1 T2 Rd inp : Nat → Int32) (nm : Int32) (sz : Nat) (hv : v < 24) (em : Md v = nI 2) (hx9 : x < 24) (e1 : O1 v = nI x) (hy9 : y < 24) (e2 : T2 v = nI y) : Met l yM_reckon wsM_reckon { frames := 0, cells := 0, slots := 0, locals := 0 } (va_Pc [.ref m0, .int (nI (v)), .ref aW] (dw_pre (dC, dI) vwCl [(m0, .inr (5, [.int (ft), .int (vl), .ref aMd, .ref aO1, .ref aT2, .int (rs), .ref aSh, .ref aMk, .ref aFa, .ref aDe, .ref aNe, .ref aBy, .ref aPi, .int (pd), .ref aNw, .ref aNs, .ref aBf, .int (rn), .int (rr)])), (aMd, .inl (cI, 24, .inl (Md))), (aO1, .inl (cI, 24, .inl (O1))), (aT2, .inl (cI, 24, .inl (T2))), (aW, .inl (cI, 24, .inl (Rd)))] [(cI, .int), (cZ, .boolean)] sz)) (va_Qi (fun (r : Int32) (u : Unit) => r = db_op 2 (Rd x) (Rd y) nm inp) (fun u t => dw_post (dC, dI) vwCl [(m0, .inr (5, [.int (ft), .int (vl), .ref aMd, .ref aO1, .ref aT2, .int (rs), .ref aSh, .ref aMk, .ref aFa, .ref aDe, .ref aNe, .ref aBy, .ref aPi, .int (pd), .ref aNw, .ref aNs, .ref aBf, .int (rn), .int (rr)])), (aMd, .inl (cI, 24, .inl (Md))), (aO1, .inl (cI, 24, .inl (O1))), (aT2, .inl (cI, 24, .inl (T2))), (aW, .inl (cI, 24, .inl (Rd)))] [(cI, .int), (cZ, .boolean)] (va_A [(m0, .inr (5, [.int (ft), .int (vl), .ref aMd, .ref aO1, .ref aT2, .int (rs), .ref aSh, .ref aMk, .ref aFa, .ref aDe, .ref aNe, .ref aBy, .ref aPi, .int (pd), .ref aNw, .ref aNs, .ref aBf, .int (rn), .int (rr)])), (aMd, .inl (cI, 24, .inl (Md))), (aO1, .inl (cI, 24, .inl (O1))), (aT2, .inl (cI, 24, .inl (T2))), (aW, .inl (cI, 24, .inl (Rd)))] sz) t) (va_A [(m0, .inr (5, [.int (ft), .int (vl), .ref aMd, .ref aO1, .ref aT2, .int (rs), .ref aSh, .ref aMk, .ref aFa, .ref aDe, .ref aNe, .ref aBy, .ref aPi, .int (pd), .ref aNw, .ref aNs, .ref aBf, .int (rn), .int (rr)])), (aMd, .inl (cI, 24, .inl (Md))), (aO1, .inl (cI, 24, .inl (O1))), (aT2, .inl (cI, 24, .inl (T2))), (aW, .inl (cI, 24, .inl (Rd)))] sz)) 0 0 (va_A [(m0, .inr (5, [.int (ft), .int (vl), .ref aMd, .ref aO1, .ref aT2, .int (rs), .ref aSh, .ref aMk, .ref aFa, .ref aDe, .ref aNe, .ref aBy, .ref aPi, .int (pd), .ref aNw, .ref aNs, .ref aBf, .int (rn), .int (rr)])), (aMd, .inl (cI, 24, .inl (Md))), (aO1, .inl (cI, 24, .inl (O1))), (aT2, .inl (cI, 24, .inl (T2))), (aW, .inl (cI, 24, .inl (Rd)))] sz) := by
  refine Met.ofW (cc := cM_reckon) (maxL := 5) (ret := (some .int)) (by decide) rfl ?_
  intro p e s m args below meth c s₁ B hml hv0
  have hx := B.exec
  have hb := B.bytes
  have hr := B.returns
  have hts := atoms_spec (ws := wsM_reckon) B.pre
  have hown : s.vm.findClass RM = some m.cls := findClass_of_methodNamed B.named
  have hlocks := B.notSynchronized
  obtain ⟨rfl, hsz, hG⟩ := dw_enter hv0
  generalize va_A [(m0, .inr (5, [.int (ft), .int (vl), .ref aMd, .ref aO1, .ref aT2, .int (rs), .ref aSh, .ref aMk, .ref aFa, .ref aDe, .ref aNe, .ref aBy, .ref aPi, .int (pd), .ref aNw, .ref aNs, .ref aBf, .int (rn), .int (rr)])), (aMd, .inl (cI, 24, .inl (Md))), (aO1, .inl (cI, 24, .inl (O1))), (aT2, .inl (cI, 24, .inl (T2))), (aW, .inl (cI, 24, .inl (Rd)))] sz = A at hG ⊢
  have hl := lv_entry ([.ref m0, .int (nI (v)), .ref aW]) (n := 5) (Nat.le_of_ble_eq_true rfl)
  rw [lg_entry_eq]
  generalize (lg_sl ([.ref m0, .int (nI (v)), .ref aW]) ++ List.replicate (5 - (lg_sl ([.ref m0, .int (nI (v)), .ref aW])).length) Slot.unset).toArray = ls at hl ⊢
  have hl : lv_has ls 5 [(0, .ref m0), (1, .int (nI (v))), (2, .ref aW)] := hl
  have hw496 := hts _ (List.mem_cons_of_mem _ tw_496)
  have hw497 := hts _ (List.mem_cons_of_mem _ tw_497)
  have hw498 := hts _ (List.mem_cons_of_mem _ tw_498)
  refine dw_Q (fun Q hQ => ?_)
  suffices hgo : ∀ (H : Heap) (locs : List Loc), dw_G (dC, dI) vwCl [(cI, .int), (cZ, .boolean)] A s.heap s [(m0, .inr (5, [.int (ft), .int (vl), .ref aMd, .ref aO1, .ref aT2, .int (rs), .ref aSh, .ref aMk, .ref aFa, .ref aDe, .ref aNe, .ref aBy, .ref aPi, .int (pd), .ref aNw, .ref aNs, .ref aBf, .int (rn), .int (rr)])), (aMd, .inl (cI, 24, .inl (Md))), (aO1, .inl (cI, 24, .inl (O1))), (aT2, .inl (cI, 24, .inl (T2))), (aW, .inl (cI, 24, .inl (Rd)))] H locs → W p l e (headSpec wsM_reckon { frames := 0, cells := 0, slots := 0, locals := 0 }).room s m [.ref m0, .int (nI (v)), .ref aW].toArray below meth c H locs 0 0 Q (F0 m 0 ls []) from hgo _ _ hG
  clear hG
  intro H locs hG
  refine lv_aload_n hx hb dM_reckon_0 rfl (lv_at hl 0 rfl) ?_
  refine dw_get hx hb hts inMc hown hG 0 2 rfl rfl (by decide) hw496 rfl rfl dM_reckon_1 ?_
  refine lv_iload_n hx hb dM_reckon_4 rfl (lv_at hl 1 rfl) ?_
  refine dw_ia (x := 2) hx hb hG 1 0 rfl rfl (v) rfl (by omega) (by decide) em dM_reckon_5 ?_
  refine lv_bipush (v := 13) hx hb dM_reckon_6 (by decide) ?_
  refine lv_icmp_ge (tgt := 22) hx hb dM_reckon_8 (by decide) (fun h8 => ?_) (fun h8 => ?_)
  · skip
    replace h8 := (nI_leI (a := 13) (b := 2) (by omega) (by omega)).mp h8
    (exfalso; omega)
  replace h8 : ¬ 13 ≤ 2 := fun hq0 => h8 ((nI_leI (a := 13) (b := 2) (by omega) (by omega)).mpr hq0)
  refine lv_aload_n hx hb dM_reckon_11 rfl (lv_at hl 2 rfl) ?_
  refine lv_aload_n hx hb dM_reckon_12 rfl (lv_at hl 0 rfl) ?_
  refine dw_get hx hb hts inMc hown hG 0 3 rfl rfl (by decide) hw497 rfl rfl dM_reckon_13 ?_
  refine lv_iload_n hx hb dM_reckon_16 rfl (lv_at hl 1 rfl) ?_
  refine dw_ia (x := nI (x)) hx hb hG 2 0 rfl rfl (v) rfl (by omega) (by decide) e1 dM_reckon_17 ?_
  refine dw_ia (x := (Rd) (x)) hx hb hG 4 0 rfl rfl (x) rfl (by omega) (by decide) rfl dM_reckon_18 ?_
  refine lv_goto (tgt := 28) hx hb dM_reckon_19 (by decide) ?_
  refine lv_istore_n (lv' := [(3, .int ((Rd) (x))), (0, .ref m0), (1, .int (nI (v))), (2, .ref aW)]) hx hb dM_reckon_28 rfl hl (by decide) rfl (fun ls hl => ?_)
  refine lv_aload_n hx hb dM_reckon_29 rfl (lv_at hl 1 rfl) ?_
  refine dw_get hx hb hts inMc hown hG 0 2 rfl rfl (by decide) hw496 rfl rfl dM_reckon_30 ?_
  refine lv_iload_n hx hb dM_reckon_33 rfl (lv_at hl 2 rfl) ?_
  refine dw_ia (x := 2) hx hb hG 1 0 rfl rfl (v) rfl (by omega) (by decide) em dM_reckon_34 ?_
  refine lv_iconst (v := 5) hx hb dM_reckon_35 (by decide) ?_
  refine lv_icmp_gt (tgt := 50) hx hb dM_reckon_36 (by decide) (fun h36 => ?_) (fun h36 => ?_)
  · skip
    replace h36 := (nI_ltI (a := 5) (b := 2) (by omega) (by omega)).mp h36
    (exfalso; omega)
  replace h36 : ¬ 5 < 2 := fun hq0 => h36 ((nI_ltI (a := 5) (b := 2) (by omega) (by omega)).mpr hq0)
  refine lv_aload_n hx hb dM_reckon_39 rfl (lv_at hl 3 rfl) ?_
  refine lv_aload_n hx hb dM_reckon_40 rfl (lv_at hl 1 rfl) ?_
  refine dw_get hx hb hts inMc hown hG 0 4 rfl rfl (by decide) hw498 rfl rfl dM_reckon_41 ?_
  refine lv_iload_n hx hb dM_reckon_44 rfl (lv_at hl 2 rfl) ?_
  refine dw_ia (x := nI (y)) hx hb hG 3 0 rfl rfl (v) rfl (by omega) (by decide) e2 dM_reckon_45 ?_
  refine dw_ia (x := (Rd) (y)) hx hb hG 4 0 rfl rfl (y) rfl (by omega) (by decide) rfl dM_reckon_46 ?_
  refine lv_goto (tgt := 56) hx hb dM_reckon_47 (by decide) ?_
  refine lv_istore (lv' := [(4, .int ((Rd) (y))), (3, .int ((Rd) (x))), (0, .ref m0), (1, .int (nI (v))), (2, .ref aW)]) hx hb dM_reckon_56 hl (by decide) rfl (fun ls hl => ?_)
  refine lv_aload_n hx hb dM_reckon_58 rfl (lv_at hl 2 rfl) ?_
  refine dw_get hx hb hts inMc hown hG 0 2 rfl rfl (by decide) hw496 rfl rfl dM_reckon_59 ?_
  refine lv_iload_n hx hb dM_reckon_62 rfl (lv_at hl 3 rfl) ?_
  refine dw_ia (x := 2) hx hb hG 1 0 rfl rfl (v) rfl (by omega) (by decide) em dM_reckon_63 ?_
  refine lv_tableIn (tgt := 134) hx hb dM_reckon_64 (by decide) (by decide) rfl (by decide) ?_
  refine lv_iload_n hx hb dM_reckon_134 rfl (lv_at hl 1 rfl) ?_
  refine lv_iload hx hb dM_reckon_135 (lv_at hl 0 rfl) ?_
  refine lv_imul hx hb dM_reckon_137 ?_
  subst hQ
  exact dw_iret hx hb hr hG (()) rfl rfl dM_reckon_138 hlocks

set_option maxRecDepth 100000 in
set_option maxHeartbeats 4000000 in
theorem rf_reckon3 (l : Launch) (dC : Nat → ClassId) (dI : Nat → Nat → Nat) (cI cZ : ClassId) (m0 aMd aO1 aT2 aSh aMk aFa aDe aNe aBy aPi aNw aNs aBf : Nat) (ft vl rs pd rn rr : Int32) (aW v x y : Nat) (Md O1 T2 Rd inp : Nat → Int32) (nm : Int32) (sz : Nat) (hv : v < 24) (em : Md v = nI 3) (hx9 : x < 24) (e1 : O1 v = nI x) (hy9 : y < 24) (e2 : T2 v = nI y) : Met l yM_reckon wsM_reckon { frames := 0, cells := 0, slots := 0, locals := 0 } (va_Pc [.ref m0, .int (nI (v)), .ref aW] (dw_pre (dC, dI) vwCl [(m0, .inr (5, [.int (ft), .int (vl), .ref aMd, .ref aO1, .ref aT2, .int (rs), .ref aSh, .ref aMk, .ref aFa, .ref aDe, .ref aNe, .ref aBy, .ref aPi, .int (pd), .ref aNw, .ref aNs, .ref aBf, .int (rn), .int (rr)])), (aMd, .inl (cI, 24, .inl (Md))), (aO1, .inl (cI, 24, .inl (O1))), (aT2, .inl (cI, 24, .inl (T2))), (aW, .inl (cI, 24, .inl (Rd)))] [(cI, .int), (cZ, .boolean)] sz)) (va_Qi (fun (r : Int32) (u : Unit) => r = db_op 3 (Rd x) (Rd y) nm inp) (fun u t => dw_post (dC, dI) vwCl [(m0, .inr (5, [.int (ft), .int (vl), .ref aMd, .ref aO1, .ref aT2, .int (rs), .ref aSh, .ref aMk, .ref aFa, .ref aDe, .ref aNe, .ref aBy, .ref aPi, .int (pd), .ref aNw, .ref aNs, .ref aBf, .int (rn), .int (rr)])), (aMd, .inl (cI, 24, .inl (Md))), (aO1, .inl (cI, 24, .inl (O1))), (aT2, .inl (cI, 24, .inl (T2))), (aW, .inl (cI, 24, .inl (Rd)))] [(cI, .int), (cZ, .boolean)] (va_A [(m0, .inr (5, [.int (ft), .int (vl), .ref aMd, .ref aO1, .ref aT2, .int (rs), .ref aSh, .ref aMk, .ref aFa, .ref aDe, .ref aNe, .ref aBy, .ref aPi, .int (pd), .ref aNw, .ref aNs, .ref aBf, .int (rn), .int (rr)])), (aMd, .inl (cI, 24, .inl (Md))), (aO1, .inl (cI, 24, .inl (O1))), (aT2, .inl (cI, 24, .inl (T2))), (aW, .inl (cI, 24, .inl (Rd)))] sz) t) (va_A [(m0, .inr (5, [.int (ft), .int (vl), .ref aMd, .ref aO1, .ref aT2, .int (rs), .ref aSh, .ref aMk, .ref aFa, .ref aDe, .ref aNe, .ref aBy, .ref aPi, .int (pd), .ref aNw, .ref aNs, .ref aBf, .int (rn), .int (rr)])), (aMd, .inl (cI, 24, .inl (Md))), (aO1, .inl (cI, 24, .inl (O1))), (aT2, .inl (cI, 24, .inl (T2))), (aW, .inl (cI, 24, .inl (Rd)))] sz)) 0 0 (va_A [(m0, .inr (5, [.int (ft), .int (vl), .ref aMd, .ref aO1, .ref aT2, .int (rs), .ref aSh, .ref aMk, .ref aFa, .ref aDe, .ref aNe, .ref aBy, .ref aPi, .int (pd), .ref aNw, .ref aNs, .ref aBf, .int (rn), .int (rr)])), (aMd, .inl (cI, 24, .inl (Md))), (aO1, .inl (cI, 24, .inl (O1))), (aT2, .inl (cI, 24, .inl (T2))), (aW, .inl (cI, 24, .inl (Rd)))] sz) := by
  refine Met.ofW (cc := cM_reckon) (maxL := 5) (ret := (some .int)) (by decide) rfl ?_
  intro p e s m args below meth c s₁ B hml hv0
  have hx := B.exec
  have hb := B.bytes
  have hr := B.returns
  have hts := atoms_spec (ws := wsM_reckon) B.pre
  have hown : s.vm.findClass RM = some m.cls := findClass_of_methodNamed B.named
  have hlocks := B.notSynchronized
  obtain ⟨rfl, hsz, hG⟩ := dw_enter hv0
  generalize va_A [(m0, .inr (5, [.int (ft), .int (vl), .ref aMd, .ref aO1, .ref aT2, .int (rs), .ref aSh, .ref aMk, .ref aFa, .ref aDe, .ref aNe, .ref aBy, .ref aPi, .int (pd), .ref aNw, .ref aNs, .ref aBf, .int (rn), .int (rr)])), (aMd, .inl (cI, 24, .inl (Md))), (aO1, .inl (cI, 24, .inl (O1))), (aT2, .inl (cI, 24, .inl (T2))), (aW, .inl (cI, 24, .inl (Rd)))] sz = A at hG ⊢
  have hl := lv_entry ([.ref m0, .int (nI (v)), .ref aW]) (n := 5) (Nat.le_of_ble_eq_true rfl)
  rw [lg_entry_eq]
  generalize (lg_sl ([.ref m0, .int (nI (v)), .ref aW]) ++ List.replicate (5 - (lg_sl ([.ref m0, .int (nI (v)), .ref aW])).length) Slot.unset).toArray = ls at hl ⊢
  have hl : lv_has ls 5 [(0, .ref m0), (1, .int (nI (v))), (2, .ref aW)] := hl
  have hw496 := hts _ (List.mem_cons_of_mem _ tw_496)
  have hw497 := hts _ (List.mem_cons_of_mem _ tw_497)
  have hw498 := hts _ (List.mem_cons_of_mem _ tw_498)
  refine dw_Q (fun Q hQ => ?_)
  suffices hgo : ∀ (H : Heap) (locs : List Loc), dw_G (dC, dI) vwCl [(cI, .int), (cZ, .boolean)] A s.heap s [(m0, .inr (5, [.int (ft), .int (vl), .ref aMd, .ref aO1, .ref aT2, .int (rs), .ref aSh, .ref aMk, .ref aFa, .ref aDe, .ref aNe, .ref aBy, .ref aPi, .int (pd), .ref aNw, .ref aNs, .ref aBf, .int (rn), .int (rr)])), (aMd, .inl (cI, 24, .inl (Md))), (aO1, .inl (cI, 24, .inl (O1))), (aT2, .inl (cI, 24, .inl (T2))), (aW, .inl (cI, 24, .inl (Rd)))] H locs → W p l e (headSpec wsM_reckon { frames := 0, cells := 0, slots := 0, locals := 0 }).room s m [.ref m0, .int (nI (v)), .ref aW].toArray below meth c H locs 0 0 Q (F0 m 0 ls []) from hgo _ _ hG
  clear hG
  intro H locs hG
  refine lv_aload_n hx hb dM_reckon_0 rfl (lv_at hl 0 rfl) ?_
  refine dw_get hx hb hts inMc hown hG 0 2 rfl rfl (by decide) hw496 rfl rfl dM_reckon_1 ?_
  refine lv_iload_n hx hb dM_reckon_4 rfl (lv_at hl 1 rfl) ?_
  refine dw_ia (x := 3) hx hb hG 1 0 rfl rfl (v) rfl (by omega) (by decide) em dM_reckon_5 ?_
  refine lv_bipush (v := 13) hx hb dM_reckon_6 (by decide) ?_
  refine lv_icmp_ge (tgt := 22) hx hb dM_reckon_8 (by decide) (fun h8 => ?_) (fun h8 => ?_)
  · skip
    replace h8 := (nI_leI (a := 13) (b := 3) (by omega) (by omega)).mp h8
    (exfalso; omega)
  replace h8 : ¬ 13 ≤ 3 := fun hq0 => h8 ((nI_leI (a := 13) (b := 3) (by omega) (by omega)).mpr hq0)
  refine lv_aload_n hx hb dM_reckon_11 rfl (lv_at hl 2 rfl) ?_
  refine lv_aload_n hx hb dM_reckon_12 rfl (lv_at hl 0 rfl) ?_
  refine dw_get hx hb hts inMc hown hG 0 3 rfl rfl (by decide) hw497 rfl rfl dM_reckon_13 ?_
  refine lv_iload_n hx hb dM_reckon_16 rfl (lv_at hl 1 rfl) ?_
  refine dw_ia (x := nI (x)) hx hb hG 2 0 rfl rfl (v) rfl (by omega) (by decide) e1 dM_reckon_17 ?_
  refine dw_ia (x := (Rd) (x)) hx hb hG 4 0 rfl rfl (x) rfl (by omega) (by decide) rfl dM_reckon_18 ?_
  refine lv_goto (tgt := 28) hx hb dM_reckon_19 (by decide) ?_
  refine lv_istore_n (lv' := [(3, .int ((Rd) (x))), (0, .ref m0), (1, .int (nI (v))), (2, .ref aW)]) hx hb dM_reckon_28 rfl hl (by decide) rfl (fun ls hl => ?_)
  refine lv_aload_n hx hb dM_reckon_29 rfl (lv_at hl 1 rfl) ?_
  refine dw_get hx hb hts inMc hown hG 0 2 rfl rfl (by decide) hw496 rfl rfl dM_reckon_30 ?_
  refine lv_iload_n hx hb dM_reckon_33 rfl (lv_at hl 2 rfl) ?_
  refine dw_ia (x := 3) hx hb hG 1 0 rfl rfl (v) rfl (by omega) (by decide) em dM_reckon_34 ?_
  refine lv_iconst (v := 5) hx hb dM_reckon_35 (by decide) ?_
  refine lv_icmp_gt (tgt := 50) hx hb dM_reckon_36 (by decide) (fun h36 => ?_) (fun h36 => ?_)
  · skip
    replace h36 := (nI_ltI (a := 5) (b := 3) (by omega) (by omega)).mp h36
    (exfalso; omega)
  replace h36 : ¬ 5 < 3 := fun hq0 => h36 ((nI_ltI (a := 5) (b := 3) (by omega) (by omega)).mpr hq0)
  refine lv_aload_n hx hb dM_reckon_39 rfl (lv_at hl 3 rfl) ?_
  refine lv_aload_n hx hb dM_reckon_40 rfl (lv_at hl 1 rfl) ?_
  refine dw_get hx hb hts inMc hown hG 0 4 rfl rfl (by decide) hw498 rfl rfl dM_reckon_41 ?_
  refine lv_iload_n hx hb dM_reckon_44 rfl (lv_at hl 2 rfl) ?_
  refine dw_ia (x := nI (y)) hx hb hG 3 0 rfl rfl (v) rfl (by omega) (by decide) e2 dM_reckon_45 ?_
  refine dw_ia (x := (Rd) (y)) hx hb hG 4 0 rfl rfl (y) rfl (by omega) (by decide) rfl dM_reckon_46 ?_
  refine lv_goto (tgt := 56) hx hb dM_reckon_47 (by decide) ?_
  refine lv_istore (lv' := [(4, .int ((Rd) (y))), (3, .int ((Rd) (x))), (0, .ref m0), (1, .int (nI (v))), (2, .ref aW)]) hx hb dM_reckon_56 hl (by decide) rfl (fun ls hl => ?_)
  refine lv_aload_n hx hb dM_reckon_58 rfl (lv_at hl 2 rfl) ?_
  refine dw_get hx hb hts inMc hown hG 0 2 rfl rfl (by decide) hw496 rfl rfl dM_reckon_59 ?_
  refine lv_iload_n hx hb dM_reckon_62 rfl (lv_at hl 3 rfl) ?_
  refine dw_ia (x := 3) hx hb hG 1 0 rfl rfl (v) rfl (by omega) (by decide) em dM_reckon_63 ?_
  refine lv_tableIn (tgt := 139) hx hb dM_reckon_64 (by decide) (by decide) rfl (by decide) ?_
  refine lv_iload_n hx hb dM_reckon_139 rfl (lv_at hl 1 rfl) ?_
  refine lv_iload hx hb dM_reckon_140 (lv_at hl 0 rfl) ?_
  refine lv_iand hx hb dM_reckon_142 ?_
  subst hQ
  exact dw_iret hx hb hr hG (()) rfl rfl dM_reckon_143 hlocks

set_option maxRecDepth 100000 in
set_option maxHeartbeats 4000000 in
theorem rf_reckon4 (l : Launch) (dC : Nat → ClassId) (dI : Nat → Nat → Nat) (cI cZ : ClassId) (m0 aMd aO1 aT2 aSh aMk aFa aDe aNe aBy aPi aNw aNs aBf : Nat) (ft vl rs pd rn rr : Int32) (aW v x y : Nat) (Md O1 T2 Rd inp : Nat → Int32) (nm : Int32) (sz : Nat) (hv : v < 24) (em : Md v = nI 4) (hx9 : x < 24) (e1 : O1 v = nI x) (hy9 : y < 24) (e2 : T2 v = nI y) : Met l yM_reckon wsM_reckon { frames := 0, cells := 0, slots := 0, locals := 0 } (va_Pc [.ref m0, .int (nI (v)), .ref aW] (dw_pre (dC, dI) vwCl [(m0, .inr (5, [.int (ft), .int (vl), .ref aMd, .ref aO1, .ref aT2, .int (rs), .ref aSh, .ref aMk, .ref aFa, .ref aDe, .ref aNe, .ref aBy, .ref aPi, .int (pd), .ref aNw, .ref aNs, .ref aBf, .int (rn), .int (rr)])), (aMd, .inl (cI, 24, .inl (Md))), (aO1, .inl (cI, 24, .inl (O1))), (aT2, .inl (cI, 24, .inl (T2))), (aW, .inl (cI, 24, .inl (Rd)))] [(cI, .int), (cZ, .boolean)] sz)) (va_Qi (fun (r : Int32) (u : Unit) => r = db_op 4 (Rd x) (Rd y) nm inp) (fun u t => dw_post (dC, dI) vwCl [(m0, .inr (5, [.int (ft), .int (vl), .ref aMd, .ref aO1, .ref aT2, .int (rs), .ref aSh, .ref aMk, .ref aFa, .ref aDe, .ref aNe, .ref aBy, .ref aPi, .int (pd), .ref aNw, .ref aNs, .ref aBf, .int (rn), .int (rr)])), (aMd, .inl (cI, 24, .inl (Md))), (aO1, .inl (cI, 24, .inl (O1))), (aT2, .inl (cI, 24, .inl (T2))), (aW, .inl (cI, 24, .inl (Rd)))] [(cI, .int), (cZ, .boolean)] (va_A [(m0, .inr (5, [.int (ft), .int (vl), .ref aMd, .ref aO1, .ref aT2, .int (rs), .ref aSh, .ref aMk, .ref aFa, .ref aDe, .ref aNe, .ref aBy, .ref aPi, .int (pd), .ref aNw, .ref aNs, .ref aBf, .int (rn), .int (rr)])), (aMd, .inl (cI, 24, .inl (Md))), (aO1, .inl (cI, 24, .inl (O1))), (aT2, .inl (cI, 24, .inl (T2))), (aW, .inl (cI, 24, .inl (Rd)))] sz) t) (va_A [(m0, .inr (5, [.int (ft), .int (vl), .ref aMd, .ref aO1, .ref aT2, .int (rs), .ref aSh, .ref aMk, .ref aFa, .ref aDe, .ref aNe, .ref aBy, .ref aPi, .int (pd), .ref aNw, .ref aNs, .ref aBf, .int (rn), .int (rr)])), (aMd, .inl (cI, 24, .inl (Md))), (aO1, .inl (cI, 24, .inl (O1))), (aT2, .inl (cI, 24, .inl (T2))), (aW, .inl (cI, 24, .inl (Rd)))] sz)) 0 0 (va_A [(m0, .inr (5, [.int (ft), .int (vl), .ref aMd, .ref aO1, .ref aT2, .int (rs), .ref aSh, .ref aMk, .ref aFa, .ref aDe, .ref aNe, .ref aBy, .ref aPi, .int (pd), .ref aNw, .ref aNs, .ref aBf, .int (rn), .int (rr)])), (aMd, .inl (cI, 24, .inl (Md))), (aO1, .inl (cI, 24, .inl (O1))), (aT2, .inl (cI, 24, .inl (T2))), (aW, .inl (cI, 24, .inl (Rd)))] sz) := by
  refine Met.ofW (cc := cM_reckon) (maxL := 5) (ret := (some .int)) (by decide) rfl ?_
  intro p e s m args below meth c s₁ B hml hv0
  have hx := B.exec
  have hb := B.bytes
  have hr := B.returns
  have hts := atoms_spec (ws := wsM_reckon) B.pre
  have hown : s.vm.findClass RM = some m.cls := findClass_of_methodNamed B.named
  have hlocks := B.notSynchronized
  obtain ⟨rfl, hsz, hG⟩ := dw_enter hv0
  generalize va_A [(m0, .inr (5, [.int (ft), .int (vl), .ref aMd, .ref aO1, .ref aT2, .int (rs), .ref aSh, .ref aMk, .ref aFa, .ref aDe, .ref aNe, .ref aBy, .ref aPi, .int (pd), .ref aNw, .ref aNs, .ref aBf, .int (rn), .int (rr)])), (aMd, .inl (cI, 24, .inl (Md))), (aO1, .inl (cI, 24, .inl (O1))), (aT2, .inl (cI, 24, .inl (T2))), (aW, .inl (cI, 24, .inl (Rd)))] sz = A at hG ⊢
  have hl := lv_entry ([.ref m0, .int (nI (v)), .ref aW]) (n := 5) (Nat.le_of_ble_eq_true rfl)
  rw [lg_entry_eq]
  generalize (lg_sl ([.ref m0, .int (nI (v)), .ref aW]) ++ List.replicate (5 - (lg_sl ([.ref m0, .int (nI (v)), .ref aW])).length) Slot.unset).toArray = ls at hl ⊢
  have hl : lv_has ls 5 [(0, .ref m0), (1, .int (nI (v))), (2, .ref aW)] := hl
  have hw496 := hts _ (List.mem_cons_of_mem _ tw_496)
  have hw497 := hts _ (List.mem_cons_of_mem _ tw_497)
  have hw498 := hts _ (List.mem_cons_of_mem _ tw_498)
  refine dw_Q (fun Q hQ => ?_)
  suffices hgo : ∀ (H : Heap) (locs : List Loc), dw_G (dC, dI) vwCl [(cI, .int), (cZ, .boolean)] A s.heap s [(m0, .inr (5, [.int (ft), .int (vl), .ref aMd, .ref aO1, .ref aT2, .int (rs), .ref aSh, .ref aMk, .ref aFa, .ref aDe, .ref aNe, .ref aBy, .ref aPi, .int (pd), .ref aNw, .ref aNs, .ref aBf, .int (rn), .int (rr)])), (aMd, .inl (cI, 24, .inl (Md))), (aO1, .inl (cI, 24, .inl (O1))), (aT2, .inl (cI, 24, .inl (T2))), (aW, .inl (cI, 24, .inl (Rd)))] H locs → W p l e (headSpec wsM_reckon { frames := 0, cells := 0, slots := 0, locals := 0 }).room s m [.ref m0, .int (nI (v)), .ref aW].toArray below meth c H locs 0 0 Q (F0 m 0 ls []) from hgo _ _ hG
  clear hG
  intro H locs hG
  refine lv_aload_n hx hb dM_reckon_0 rfl (lv_at hl 0 rfl) ?_
  refine dw_get hx hb hts inMc hown hG 0 2 rfl rfl (by decide) hw496 rfl rfl dM_reckon_1 ?_
  refine lv_iload_n hx hb dM_reckon_4 rfl (lv_at hl 1 rfl) ?_
  refine dw_ia (x := 4) hx hb hG 1 0 rfl rfl (v) rfl (by omega) (by decide) em dM_reckon_5 ?_
  refine lv_bipush (v := 13) hx hb dM_reckon_6 (by decide) ?_
  refine lv_icmp_ge (tgt := 22) hx hb dM_reckon_8 (by decide) (fun h8 => ?_) (fun h8 => ?_)
  · skip
    replace h8 := (nI_leI (a := 13) (b := 4) (by omega) (by omega)).mp h8
    (exfalso; omega)
  replace h8 : ¬ 13 ≤ 4 := fun hq0 => h8 ((nI_leI (a := 13) (b := 4) (by omega) (by omega)).mpr hq0)
  refine lv_aload_n hx hb dM_reckon_11 rfl (lv_at hl 2 rfl) ?_
  refine lv_aload_n hx hb dM_reckon_12 rfl (lv_at hl 0 rfl) ?_
  refine dw_get hx hb hts inMc hown hG 0 3 rfl rfl (by decide) hw497 rfl rfl dM_reckon_13 ?_
  refine lv_iload_n hx hb dM_reckon_16 rfl (lv_at hl 1 rfl) ?_
  refine dw_ia (x := nI (x)) hx hb hG 2 0 rfl rfl (v) rfl (by omega) (by decide) e1 dM_reckon_17 ?_
  refine dw_ia (x := (Rd) (x)) hx hb hG 4 0 rfl rfl (x) rfl (by omega) (by decide) rfl dM_reckon_18 ?_
  refine lv_goto (tgt := 28) hx hb dM_reckon_19 (by decide) ?_
  refine lv_istore_n (lv' := [(3, .int ((Rd) (x))), (0, .ref m0), (1, .int (nI (v))), (2, .ref aW)]) hx hb dM_reckon_28 rfl hl (by decide) rfl (fun ls hl => ?_)
  refine lv_aload_n hx hb dM_reckon_29 rfl (lv_at hl 1 rfl) ?_
  refine dw_get hx hb hts inMc hown hG 0 2 rfl rfl (by decide) hw496 rfl rfl dM_reckon_30 ?_
  refine lv_iload_n hx hb dM_reckon_33 rfl (lv_at hl 2 rfl) ?_
  refine dw_ia (x := 4) hx hb hG 1 0 rfl rfl (v) rfl (by omega) (by decide) em dM_reckon_34 ?_
  refine lv_iconst (v := 5) hx hb dM_reckon_35 (by decide) ?_
  refine lv_icmp_gt (tgt := 50) hx hb dM_reckon_36 (by decide) (fun h36 => ?_) (fun h36 => ?_)
  · skip
    replace h36 := (nI_ltI (a := 5) (b := 4) (by omega) (by omega)).mp h36
    (exfalso; omega)
  replace h36 : ¬ 5 < 4 := fun hq0 => h36 ((nI_ltI (a := 5) (b := 4) (by omega) (by omega)).mpr hq0)
  refine lv_aload_n hx hb dM_reckon_39 rfl (lv_at hl 3 rfl) ?_
  refine lv_aload_n hx hb dM_reckon_40 rfl (lv_at hl 1 rfl) ?_
  refine dw_get hx hb hts inMc hown hG 0 4 rfl rfl (by decide) hw498 rfl rfl dM_reckon_41 ?_
  refine lv_iload_n hx hb dM_reckon_44 rfl (lv_at hl 2 rfl) ?_
  refine dw_ia (x := nI (y)) hx hb hG 3 0 rfl rfl (v) rfl (by omega) (by decide) e2 dM_reckon_45 ?_
  refine dw_ia (x := (Rd) (y)) hx hb hG 4 0 rfl rfl (y) rfl (by omega) (by decide) rfl dM_reckon_46 ?_
  refine lv_goto (tgt := 56) hx hb dM_reckon_47 (by decide) ?_
  refine lv_istore (lv' := [(4, .int ((Rd) (y))), (3, .int ((Rd) (x))), (0, .ref m0), (1, .int (nI (v))), (2, .ref aW)]) hx hb dM_reckon_56 hl (by decide) rfl (fun ls hl => ?_)
  refine lv_aload_n hx hb dM_reckon_58 rfl (lv_at hl 2 rfl) ?_
  refine dw_get hx hb hts inMc hown hG 0 2 rfl rfl (by decide) hw496 rfl rfl dM_reckon_59 ?_
  refine lv_iload_n hx hb dM_reckon_62 rfl (lv_at hl 3 rfl) ?_
  refine dw_ia (x := 4) hx hb hG 1 0 rfl rfl (v) rfl (by omega) (by decide) em dM_reckon_63 ?_
  refine lv_tableIn (tgt := 144) hx hb dM_reckon_64 (by decide) (by decide) rfl (by decide) ?_
  refine lv_iload_n hx hb dM_reckon_144 rfl (lv_at hl 1 rfl) ?_
  refine lv_iload hx hb dM_reckon_145 (lv_at hl 0 rfl) ?_
  refine lv_ior hx hb dM_reckon_147 ?_
  subst hQ
  exact dw_iret hx hb hr hG (()) rfl rfl dM_reckon_148 hlocks

set_option maxRecDepth 100000 in
set_option maxHeartbeats 4000000 in
theorem rf_reckon5 (l : Launch) (dC : Nat → ClassId) (dI : Nat → Nat → Nat) (cI cZ : ClassId) (m0 aMd aO1 aT2 aSh aMk aFa aDe aNe aBy aPi aNw aNs aBf : Nat) (ft vl rs pd rn rr : Int32) (aW v x y : Nat) (Md O1 T2 Rd inp : Nat → Int32) (nm : Int32) (sz : Nat) (hv : v < 24) (em : Md v = nI 5) (hx9 : x < 24) (e1 : O1 v = nI x) (hy9 : y < 24) (e2 : T2 v = nI y) : Met l yM_reckon wsM_reckon { frames := 0, cells := 0, slots := 0, locals := 0 } (va_Pc [.ref m0, .int (nI (v)), .ref aW] (dw_pre (dC, dI) vwCl [(m0, .inr (5, [.int (ft), .int (vl), .ref aMd, .ref aO1, .ref aT2, .int (rs), .ref aSh, .ref aMk, .ref aFa, .ref aDe, .ref aNe, .ref aBy, .ref aPi, .int (pd), .ref aNw, .ref aNs, .ref aBf, .int (rn), .int (rr)])), (aMd, .inl (cI, 24, .inl (Md))), (aO1, .inl (cI, 24, .inl (O1))), (aT2, .inl (cI, 24, .inl (T2))), (aW, .inl (cI, 24, .inl (Rd)))] [(cI, .int), (cZ, .boolean)] sz)) (va_Qi (fun (r : Int32) (u : Unit) => r = db_op 5 (Rd x) (Rd y) nm inp) (fun u t => dw_post (dC, dI) vwCl [(m0, .inr (5, [.int (ft), .int (vl), .ref aMd, .ref aO1, .ref aT2, .int (rs), .ref aSh, .ref aMk, .ref aFa, .ref aDe, .ref aNe, .ref aBy, .ref aPi, .int (pd), .ref aNw, .ref aNs, .ref aBf, .int (rn), .int (rr)])), (aMd, .inl (cI, 24, .inl (Md))), (aO1, .inl (cI, 24, .inl (O1))), (aT2, .inl (cI, 24, .inl (T2))), (aW, .inl (cI, 24, .inl (Rd)))] [(cI, .int), (cZ, .boolean)] (va_A [(m0, .inr (5, [.int (ft), .int (vl), .ref aMd, .ref aO1, .ref aT2, .int (rs), .ref aSh, .ref aMk, .ref aFa, .ref aDe, .ref aNe, .ref aBy, .ref aPi, .int (pd), .ref aNw, .ref aNs, .ref aBf, .int (rn), .int (rr)])), (aMd, .inl (cI, 24, .inl (Md))), (aO1, .inl (cI, 24, .inl (O1))), (aT2, .inl (cI, 24, .inl (T2))), (aW, .inl (cI, 24, .inl (Rd)))] sz) t) (va_A [(m0, .inr (5, [.int (ft), .int (vl), .ref aMd, .ref aO1, .ref aT2, .int (rs), .ref aSh, .ref aMk, .ref aFa, .ref aDe, .ref aNe, .ref aBy, .ref aPi, .int (pd), .ref aNw, .ref aNs, .ref aBf, .int (rn), .int (rr)])), (aMd, .inl (cI, 24, .inl (Md))), (aO1, .inl (cI, 24, .inl (O1))), (aT2, .inl (cI, 24, .inl (T2))), (aW, .inl (cI, 24, .inl (Rd)))] sz)) 0 0 (va_A [(m0, .inr (5, [.int (ft), .int (vl), .ref aMd, .ref aO1, .ref aT2, .int (rs), .ref aSh, .ref aMk, .ref aFa, .ref aDe, .ref aNe, .ref aBy, .ref aPi, .int (pd), .ref aNw, .ref aNs, .ref aBf, .int (rn), .int (rr)])), (aMd, .inl (cI, 24, .inl (Md))), (aO1, .inl (cI, 24, .inl (O1))), (aT2, .inl (cI, 24, .inl (T2))), (aW, .inl (cI, 24, .inl (Rd)))] sz) := by
  refine Met.ofW (cc := cM_reckon) (maxL := 5) (ret := (some .int)) (by decide) rfl ?_
  intro p e s m args below meth c s₁ B hml hv0
  have hx := B.exec
  have hb := B.bytes
  have hr := B.returns
  have hts := atoms_spec (ws := wsM_reckon) B.pre
  have hown : s.vm.findClass RM = some m.cls := findClass_of_methodNamed B.named
  have hlocks := B.notSynchronized
  obtain ⟨rfl, hsz, hG⟩ := dw_enter hv0
  generalize va_A [(m0, .inr (5, [.int (ft), .int (vl), .ref aMd, .ref aO1, .ref aT2, .int (rs), .ref aSh, .ref aMk, .ref aFa, .ref aDe, .ref aNe, .ref aBy, .ref aPi, .int (pd), .ref aNw, .ref aNs, .ref aBf, .int (rn), .int (rr)])), (aMd, .inl (cI, 24, .inl (Md))), (aO1, .inl (cI, 24, .inl (O1))), (aT2, .inl (cI, 24, .inl (T2))), (aW, .inl (cI, 24, .inl (Rd)))] sz = A at hG ⊢
  have hl := lv_entry ([.ref m0, .int (nI (v)), .ref aW]) (n := 5) (Nat.le_of_ble_eq_true rfl)
  rw [lg_entry_eq]
  generalize (lg_sl ([.ref m0, .int (nI (v)), .ref aW]) ++ List.replicate (5 - (lg_sl ([.ref m0, .int (nI (v)), .ref aW])).length) Slot.unset).toArray = ls at hl ⊢
  have hl : lv_has ls 5 [(0, .ref m0), (1, .int (nI (v))), (2, .ref aW)] := hl
  have hw496 := hts _ (List.mem_cons_of_mem _ tw_496)
  have hw497 := hts _ (List.mem_cons_of_mem _ tw_497)
  have hw498 := hts _ (List.mem_cons_of_mem _ tw_498)
  refine dw_Q (fun Q hQ => ?_)
  suffices hgo : ∀ (H : Heap) (locs : List Loc), dw_G (dC, dI) vwCl [(cI, .int), (cZ, .boolean)] A s.heap s [(m0, .inr (5, [.int (ft), .int (vl), .ref aMd, .ref aO1, .ref aT2, .int (rs), .ref aSh, .ref aMk, .ref aFa, .ref aDe, .ref aNe, .ref aBy, .ref aPi, .int (pd), .ref aNw, .ref aNs, .ref aBf, .int (rn), .int (rr)])), (aMd, .inl (cI, 24, .inl (Md))), (aO1, .inl (cI, 24, .inl (O1))), (aT2, .inl (cI, 24, .inl (T2))), (aW, .inl (cI, 24, .inl (Rd)))] H locs → W p l e (headSpec wsM_reckon { frames := 0, cells := 0, slots := 0, locals := 0 }).room s m [.ref m0, .int (nI (v)), .ref aW].toArray below meth c H locs 0 0 Q (F0 m 0 ls []) from hgo _ _ hG
  clear hG
  intro H locs hG
  refine lv_aload_n hx hb dM_reckon_0 rfl (lv_at hl 0 rfl) ?_
  refine dw_get hx hb hts inMc hown hG 0 2 rfl rfl (by decide) hw496 rfl rfl dM_reckon_1 ?_
  refine lv_iload_n hx hb dM_reckon_4 rfl (lv_at hl 1 rfl) ?_
  refine dw_ia (x := 5) hx hb hG 1 0 rfl rfl (v) rfl (by omega) (by decide) em dM_reckon_5 ?_
  refine lv_bipush (v := 13) hx hb dM_reckon_6 (by decide) ?_
  refine lv_icmp_ge (tgt := 22) hx hb dM_reckon_8 (by decide) (fun h8 => ?_) (fun h8 => ?_)
  · skip
    replace h8 := (nI_leI (a := 13) (b := 5) (by omega) (by omega)).mp h8
    (exfalso; omega)
  replace h8 : ¬ 13 ≤ 5 := fun hq0 => h8 ((nI_leI (a := 13) (b := 5) (by omega) (by omega)).mpr hq0)
  refine lv_aload_n hx hb dM_reckon_11 rfl (lv_at hl 2 rfl) ?_
  refine lv_aload_n hx hb dM_reckon_12 rfl (lv_at hl 0 rfl) ?_
  refine dw_get hx hb hts inMc hown hG 0 3 rfl rfl (by decide) hw497 rfl rfl dM_reckon_13 ?_
  refine lv_iload_n hx hb dM_reckon_16 rfl (lv_at hl 1 rfl) ?_
  refine dw_ia (x := nI (x)) hx hb hG 2 0 rfl rfl (v) rfl (by omega) (by decide) e1 dM_reckon_17 ?_
  refine dw_ia (x := (Rd) (x)) hx hb hG 4 0 rfl rfl (x) rfl (by omega) (by decide) rfl dM_reckon_18 ?_
  refine lv_goto (tgt := 28) hx hb dM_reckon_19 (by decide) ?_
  refine lv_istore_n (lv' := [(3, .int ((Rd) (x))), (0, .ref m0), (1, .int (nI (v))), (2, .ref aW)]) hx hb dM_reckon_28 rfl hl (by decide) rfl (fun ls hl => ?_)
  refine lv_aload_n hx hb dM_reckon_29 rfl (lv_at hl 1 rfl) ?_
  refine dw_get hx hb hts inMc hown hG 0 2 rfl rfl (by decide) hw496 rfl rfl dM_reckon_30 ?_
  refine lv_iload_n hx hb dM_reckon_33 rfl (lv_at hl 2 rfl) ?_
  refine dw_ia (x := 5) hx hb hG 1 0 rfl rfl (v) rfl (by omega) (by decide) em dM_reckon_34 ?_
  refine lv_iconst (v := 5) hx hb dM_reckon_35 (by decide) ?_
  refine lv_icmp_gt (tgt := 50) hx hb dM_reckon_36 (by decide) (fun h36 => ?_) (fun h36 => ?_)
  · skip
    replace h36 := (nI_ltI (a := 5) (b := 5) (by omega) (by omega)).mp h36
    (exfalso; omega)
  replace h36 : ¬ 5 < 5 := fun hq0 => h36 ((nI_ltI (a := 5) (b := 5) (by omega) (by omega)).mpr hq0)
  refine lv_aload_n hx hb dM_reckon_39 rfl (lv_at hl 3 rfl) ?_
  refine lv_aload_n hx hb dM_reckon_40 rfl (lv_at hl 1 rfl) ?_
  refine dw_get hx hb hts inMc hown hG 0 4 rfl rfl (by decide) hw498 rfl rfl dM_reckon_41 ?_
  refine lv_iload_n hx hb dM_reckon_44 rfl (lv_at hl 2 rfl) ?_
  refine dw_ia (x := nI (y)) hx hb hG 3 0 rfl rfl (v) rfl (by omega) (by decide) e2 dM_reckon_45 ?_
  refine dw_ia (x := (Rd) (y)) hx hb hG 4 0 rfl rfl (y) rfl (by omega) (by decide) rfl dM_reckon_46 ?_
  refine lv_goto (tgt := 56) hx hb dM_reckon_47 (by decide) ?_
  refine lv_istore (lv' := [(4, .int ((Rd) (y))), (3, .int ((Rd) (x))), (0, .ref m0), (1, .int (nI (v))), (2, .ref aW)]) hx hb dM_reckon_56 hl (by decide) rfl (fun ls hl => ?_)
  refine lv_aload_n hx hb dM_reckon_58 rfl (lv_at hl 2 rfl) ?_
  refine dw_get hx hb hts inMc hown hG 0 2 rfl rfl (by decide) hw496 rfl rfl dM_reckon_59 ?_
  refine lv_iload_n hx hb dM_reckon_62 rfl (lv_at hl 3 rfl) ?_
  refine dw_ia (x := 5) hx hb hG 1 0 rfl rfl (v) rfl (by omega) (by decide) em dM_reckon_63 ?_
  refine lv_tableIn (tgt := 149) hx hb dM_reckon_64 (by decide) (by decide) rfl (by decide) ?_
  refine lv_iload_n hx hb dM_reckon_149 rfl (lv_at hl 1 rfl) ?_
  refine lv_iload hx hb dM_reckon_150 (lv_at hl 0 rfl) ?_
  refine lv_ixor hx hb dM_reckon_152 ?_
  subst hQ
  exact dw_iret hx hb hr hG (()) rfl rfl dM_reckon_153 hlocks

set_option maxRecDepth 100000 in
set_option maxHeartbeats 4000000 in
theorem rf_reckon6 (l : Launch) (dC : Nat → ClassId) (dI : Nat → Nat → Nat) (cI cZ : ClassId) (m0 aMd aO1 aT2 aSh aMk aFa aDe aNe aBy aPi aNw aNs aBf : Nat) (ft vl rs pd rn rr : Int32) (aW v x y : Nat) (Md O1 T2 Rd inp : Nat → Int32) (nm : Int32) (sz : Nat) (hv : v < 24) (em : Md v = nI 6) (hx9 : x < 24) (e1 : O1 v = nI x) (e2 : T2 v = nm) : Met l yM_reckon wsM_reckon { frames := 0, cells := 0, slots := 0, locals := 0 } (va_Pc [.ref m0, .int (nI (v)), .ref aW] (dw_pre (dC, dI) vwCl [(m0, .inr (5, [.int (ft), .int (vl), .ref aMd, .ref aO1, .ref aT2, .int (rs), .ref aSh, .ref aMk, .ref aFa, .ref aDe, .ref aNe, .ref aBy, .ref aPi, .int (pd), .ref aNw, .ref aNs, .ref aBf, .int (rn), .int (rr)])), (aMd, .inl (cI, 24, .inl (Md))), (aO1, .inl (cI, 24, .inl (O1))), (aT2, .inl (cI, 24, .inl (T2))), (aW, .inl (cI, 24, .inl (Rd)))] [(cI, .int), (cZ, .boolean)] sz)) (va_Qi (fun (r : Int32) (u : Unit) => r = db_op 6 (Rd x) (Rd y) nm inp) (fun u t => dw_post (dC, dI) vwCl [(m0, .inr (5, [.int (ft), .int (vl), .ref aMd, .ref aO1, .ref aT2, .int (rs), .ref aSh, .ref aMk, .ref aFa, .ref aDe, .ref aNe, .ref aBy, .ref aPi, .int (pd), .ref aNw, .ref aNs, .ref aBf, .int (rn), .int (rr)])), (aMd, .inl (cI, 24, .inl (Md))), (aO1, .inl (cI, 24, .inl (O1))), (aT2, .inl (cI, 24, .inl (T2))), (aW, .inl (cI, 24, .inl (Rd)))] [(cI, .int), (cZ, .boolean)] (va_A [(m0, .inr (5, [.int (ft), .int (vl), .ref aMd, .ref aO1, .ref aT2, .int (rs), .ref aSh, .ref aMk, .ref aFa, .ref aDe, .ref aNe, .ref aBy, .ref aPi, .int (pd), .ref aNw, .ref aNs, .ref aBf, .int (rn), .int (rr)])), (aMd, .inl (cI, 24, .inl (Md))), (aO1, .inl (cI, 24, .inl (O1))), (aT2, .inl (cI, 24, .inl (T2))), (aW, .inl (cI, 24, .inl (Rd)))] sz) t) (va_A [(m0, .inr (5, [.int (ft), .int (vl), .ref aMd, .ref aO1, .ref aT2, .int (rs), .ref aSh, .ref aMk, .ref aFa, .ref aDe, .ref aNe, .ref aBy, .ref aPi, .int (pd), .ref aNw, .ref aNs, .ref aBf, .int (rn), .int (rr)])), (aMd, .inl (cI, 24, .inl (Md))), (aO1, .inl (cI, 24, .inl (O1))), (aT2, .inl (cI, 24, .inl (T2))), (aW, .inl (cI, 24, .inl (Rd)))] sz)) 0 0 (va_A [(m0, .inr (5, [.int (ft), .int (vl), .ref aMd, .ref aO1, .ref aT2, .int (rs), .ref aSh, .ref aMk, .ref aFa, .ref aDe, .ref aNe, .ref aBy, .ref aPi, .int (pd), .ref aNw, .ref aNs, .ref aBf, .int (rn), .int (rr)])), (aMd, .inl (cI, 24, .inl (Md))), (aO1, .inl (cI, 24, .inl (O1))), (aT2, .inl (cI, 24, .inl (T2))), (aW, .inl (cI, 24, .inl (Rd)))] sz) := by
  refine Met.ofW (cc := cM_reckon) (maxL := 5) (ret := (some .int)) (by decide) rfl ?_
  intro p e s m args below meth c s₁ B hml hv0
  have hx := B.exec
  have hb := B.bytes
  have hr := B.returns
  have hts := atoms_spec (ws := wsM_reckon) B.pre
  have hown : s.vm.findClass RM = some m.cls := findClass_of_methodNamed B.named
  have hlocks := B.notSynchronized
  obtain ⟨rfl, hsz, hG⟩ := dw_enter hv0
  generalize va_A [(m0, .inr (5, [.int (ft), .int (vl), .ref aMd, .ref aO1, .ref aT2, .int (rs), .ref aSh, .ref aMk, .ref aFa, .ref aDe, .ref aNe, .ref aBy, .ref aPi, .int (pd), .ref aNw, .ref aNs, .ref aBf, .int (rn), .int (rr)])), (aMd, .inl (cI, 24, .inl (Md))), (aO1, .inl (cI, 24, .inl (O1))), (aT2, .inl (cI, 24, .inl (T2))), (aW, .inl (cI, 24, .inl (Rd)))] sz = A at hG ⊢
  have hl := lv_entry ([.ref m0, .int (nI (v)), .ref aW]) (n := 5) (Nat.le_of_ble_eq_true rfl)
  rw [lg_entry_eq]
  generalize (lg_sl ([.ref m0, .int (nI (v)), .ref aW]) ++ List.replicate (5 - (lg_sl ([.ref m0, .int (nI (v)), .ref aW])).length) Slot.unset).toArray = ls at hl ⊢
  have hl : lv_has ls 5 [(0, .ref m0), (1, .int (nI (v))), (2, .ref aW)] := hl
  have hw496 := hts _ (List.mem_cons_of_mem _ tw_496)
  have hw497 := hts _ (List.mem_cons_of_mem _ tw_497)
  have hw498 := hts _ (List.mem_cons_of_mem _ tw_498)
  refine dw_Q (fun Q hQ => ?_)
  suffices hgo : ∀ (H : Heap) (locs : List Loc), dw_G (dC, dI) vwCl [(cI, .int), (cZ, .boolean)] A s.heap s [(m0, .inr (5, [.int (ft), .int (vl), .ref aMd, .ref aO1, .ref aT2, .int (rs), .ref aSh, .ref aMk, .ref aFa, .ref aDe, .ref aNe, .ref aBy, .ref aPi, .int (pd), .ref aNw, .ref aNs, .ref aBf, .int (rn), .int (rr)])), (aMd, .inl (cI, 24, .inl (Md))), (aO1, .inl (cI, 24, .inl (O1))), (aT2, .inl (cI, 24, .inl (T2))), (aW, .inl (cI, 24, .inl (Rd)))] H locs → W p l e (headSpec wsM_reckon { frames := 0, cells := 0, slots := 0, locals := 0 }).room s m [.ref m0, .int (nI (v)), .ref aW].toArray below meth c H locs 0 0 Q (F0 m 0 ls []) from hgo _ _ hG
  clear hG
  intro H locs hG
  refine lv_aload_n hx hb dM_reckon_0 rfl (lv_at hl 0 rfl) ?_
  refine dw_get hx hb hts inMc hown hG 0 2 rfl rfl (by decide) hw496 rfl rfl dM_reckon_1 ?_
  refine lv_iload_n hx hb dM_reckon_4 rfl (lv_at hl 1 rfl) ?_
  refine dw_ia (x := 6) hx hb hG 1 0 rfl rfl (v) rfl (by omega) (by decide) em dM_reckon_5 ?_
  refine lv_bipush (v := 13) hx hb dM_reckon_6 (by decide) ?_
  refine lv_icmp_ge (tgt := 22) hx hb dM_reckon_8 (by decide) (fun h8 => ?_) (fun h8 => ?_)
  · skip
    replace h8 := (nI_leI (a := 13) (b := 6) (by omega) (by omega)).mp h8
    (exfalso; omega)
  replace h8 : ¬ 13 ≤ 6 := fun hq0 => h8 ((nI_leI (a := 13) (b := 6) (by omega) (by omega)).mpr hq0)
  refine lv_aload_n hx hb dM_reckon_11 rfl (lv_at hl 2 rfl) ?_
  refine lv_aload_n hx hb dM_reckon_12 rfl (lv_at hl 0 rfl) ?_
  refine dw_get hx hb hts inMc hown hG 0 3 rfl rfl (by decide) hw497 rfl rfl dM_reckon_13 ?_
  refine lv_iload_n hx hb dM_reckon_16 rfl (lv_at hl 1 rfl) ?_
  refine dw_ia (x := nI (x)) hx hb hG 2 0 rfl rfl (v) rfl (by omega) (by decide) e1 dM_reckon_17 ?_
  refine dw_ia (x := (Rd) (x)) hx hb hG 4 0 rfl rfl (x) rfl (by omega) (by decide) rfl dM_reckon_18 ?_
  refine lv_goto (tgt := 28) hx hb dM_reckon_19 (by decide) ?_
  refine lv_istore_n (lv' := [(3, .int ((Rd) (x))), (0, .ref m0), (1, .int (nI (v))), (2, .ref aW)]) hx hb dM_reckon_28 rfl hl (by decide) rfl (fun ls hl => ?_)
  refine lv_aload_n hx hb dM_reckon_29 rfl (lv_at hl 1 rfl) ?_
  refine dw_get hx hb hts inMc hown hG 0 2 rfl rfl (by decide) hw496 rfl rfl dM_reckon_30 ?_
  refine lv_iload_n hx hb dM_reckon_33 rfl (lv_at hl 2 rfl) ?_
  refine dw_ia (x := 6) hx hb hG 1 0 rfl rfl (v) rfl (by omega) (by decide) em dM_reckon_34 ?_
  refine lv_iconst (v := 5) hx hb dM_reckon_35 (by decide) ?_
  refine lv_icmp_gt (tgt := 50) hx hb dM_reckon_36 (by decide) (fun h36 => ?_) (fun h36 => ?_)
  · skip
    replace h36 := (nI_ltI (a := 5) (b := 6) (by omega) (by omega)).mp h36
    refine lv_aload_n hx hb dM_reckon_50 rfl (lv_at hl 1 rfl) ?_
    refine dw_get hx hb hts inMc hown hG 0 4 rfl rfl (by decide) hw498 rfl rfl dM_reckon_51 ?_
    refine lv_iload_n hx hb dM_reckon_54 rfl (lv_at hl 2 rfl) ?_
    refine dw_ia (x := nm) hx hb hG 3 0 rfl rfl (v) rfl (by omega) (by decide) e2 dM_reckon_55 ?_
    refine lv_istore (lv' := [(4, .int (nm)), (3, .int ((Rd) (x))), (0, .ref m0), (1, .int (nI (v))), (2, .ref aW)]) hx hb dM_reckon_56 hl (by decide) rfl (fun ls hl => ?_)
    refine lv_aload_n hx hb dM_reckon_58 rfl (lv_at hl 2 rfl) ?_
    refine dw_get hx hb hts inMc hown hG 0 2 rfl rfl (by decide) hw496 rfl rfl dM_reckon_59 ?_
    refine lv_iload_n hx hb dM_reckon_62 rfl (lv_at hl 3 rfl) ?_
    refine dw_ia (x := 6) hx hb hG 1 0 rfl rfl (v) rfl (by omega) (by decide) em dM_reckon_63 ?_
    refine lv_tableIn (tgt := 154) hx hb dM_reckon_64 (by decide) (by decide) rfl (by decide) ?_
    refine lv_iload_n hx hb dM_reckon_154 rfl (lv_at hl 1 rfl) ?_
    refine lv_iload hx hb dM_reckon_155 (lv_at hl 0 rfl) ?_
    refine lv_ishl hx hb dM_reckon_157 ?_
    subst hQ
    exact dw_iret hx hb hr hG (()) rfl rfl dM_reckon_158 hlocks
  replace h36 : ¬ 5 < 6 := fun hq0 => h36 ((nI_ltI (a := 5) (b := 6) (by omega) (by omega)).mpr hq0)
  (exfalso; omega)

set_option maxRecDepth 100000 in
set_option maxHeartbeats 4000000 in
theorem rf_reckon7 (l : Launch) (dC : Nat → ClassId) (dI : Nat → Nat → Nat) (cI cZ : ClassId) (m0 aMd aO1 aT2 aSh aMk aFa aDe aNe aBy aPi aNw aNs aBf : Nat) (ft vl rs pd rn rr : Int32) (aW v x y : Nat) (Md O1 T2 Rd inp : Nat → Int32) (nm : Int32) (sz : Nat) (hv : v < 24) (em : Md v = nI 7) (hx9 : x < 24) (e1 : O1 v = nI x) (e2 : T2 v = nm) : Met l yM_reckon wsM_reckon { frames := 0, cells := 0, slots := 0, locals := 0 } (va_Pc [.ref m0, .int (nI (v)), .ref aW] (dw_pre (dC, dI) vwCl [(m0, .inr (5, [.int (ft), .int (vl), .ref aMd, .ref aO1, .ref aT2, .int (rs), .ref aSh, .ref aMk, .ref aFa, .ref aDe, .ref aNe, .ref aBy, .ref aPi, .int (pd), .ref aNw, .ref aNs, .ref aBf, .int (rn), .int (rr)])), (aMd, .inl (cI, 24, .inl (Md))), (aO1, .inl (cI, 24, .inl (O1))), (aT2, .inl (cI, 24, .inl (T2))), (aW, .inl (cI, 24, .inl (Rd)))] [(cI, .int), (cZ, .boolean)] sz)) (va_Qi (fun (r : Int32) (u : Unit) => r = db_op 7 (Rd x) (Rd y) nm inp) (fun u t => dw_post (dC, dI) vwCl [(m0, .inr (5, [.int (ft), .int (vl), .ref aMd, .ref aO1, .ref aT2, .int (rs), .ref aSh, .ref aMk, .ref aFa, .ref aDe, .ref aNe, .ref aBy, .ref aPi, .int (pd), .ref aNw, .ref aNs, .ref aBf, .int (rn), .int (rr)])), (aMd, .inl (cI, 24, .inl (Md))), (aO1, .inl (cI, 24, .inl (O1))), (aT2, .inl (cI, 24, .inl (T2))), (aW, .inl (cI, 24, .inl (Rd)))] [(cI, .int), (cZ, .boolean)] (va_A [(m0, .inr (5, [.int (ft), .int (vl), .ref aMd, .ref aO1, .ref aT2, .int (rs), .ref aSh, .ref aMk, .ref aFa, .ref aDe, .ref aNe, .ref aBy, .ref aPi, .int (pd), .ref aNw, .ref aNs, .ref aBf, .int (rn), .int (rr)])), (aMd, .inl (cI, 24, .inl (Md))), (aO1, .inl (cI, 24, .inl (O1))), (aT2, .inl (cI, 24, .inl (T2))), (aW, .inl (cI, 24, .inl (Rd)))] sz) t) (va_A [(m0, .inr (5, [.int (ft), .int (vl), .ref aMd, .ref aO1, .ref aT2, .int (rs), .ref aSh, .ref aMk, .ref aFa, .ref aDe, .ref aNe, .ref aBy, .ref aPi, .int (pd), .ref aNw, .ref aNs, .ref aBf, .int (rn), .int (rr)])), (aMd, .inl (cI, 24, .inl (Md))), (aO1, .inl (cI, 24, .inl (O1))), (aT2, .inl (cI, 24, .inl (T2))), (aW, .inl (cI, 24, .inl (Rd)))] sz)) 0 0 (va_A [(m0, .inr (5, [.int (ft), .int (vl), .ref aMd, .ref aO1, .ref aT2, .int (rs), .ref aSh, .ref aMk, .ref aFa, .ref aDe, .ref aNe, .ref aBy, .ref aPi, .int (pd), .ref aNw, .ref aNs, .ref aBf, .int (rn), .int (rr)])), (aMd, .inl (cI, 24, .inl (Md))), (aO1, .inl (cI, 24, .inl (O1))), (aT2, .inl (cI, 24, .inl (T2))), (aW, .inl (cI, 24, .inl (Rd)))] sz) := by
  refine Met.ofW (cc := cM_reckon) (maxL := 5) (ret := (some .int)) (by decide) rfl ?_
  intro p e s m args below meth c s₁ B hml hv0
  have hx := B.exec
  have hb := B.bytes
  have hr := B.returns
  have hts := atoms_spec (ws := wsM_reckon) B.pre
  have hown : s.vm.findClass RM = some m.cls := findClass_of_methodNamed B.named
  have hlocks := B.notSynchronized
  obtain ⟨rfl, hsz, hG⟩ := dw_enter hv0
  generalize va_A [(m0, .inr (5, [.int (ft), .int (vl), .ref aMd, .ref aO1, .ref aT2, .int (rs), .ref aSh, .ref aMk, .ref aFa, .ref aDe, .ref aNe, .ref aBy, .ref aPi, .int (pd), .ref aNw, .ref aNs, .ref aBf, .int (rn), .int (rr)])), (aMd, .inl (cI, 24, .inl (Md))), (aO1, .inl (cI, 24, .inl (O1))), (aT2, .inl (cI, 24, .inl (T2))), (aW, .inl (cI, 24, .inl (Rd)))] sz = A at hG ⊢
  have hl := lv_entry ([.ref m0, .int (nI (v)), .ref aW]) (n := 5) (Nat.le_of_ble_eq_true rfl)
  rw [lg_entry_eq]
  generalize (lg_sl ([.ref m0, .int (nI (v)), .ref aW]) ++ List.replicate (5 - (lg_sl ([.ref m0, .int (nI (v)), .ref aW])).length) Slot.unset).toArray = ls at hl ⊢
  have hl : lv_has ls 5 [(0, .ref m0), (1, .int (nI (v))), (2, .ref aW)] := hl
  have hw496 := hts _ (List.mem_cons_of_mem _ tw_496)
  have hw497 := hts _ (List.mem_cons_of_mem _ tw_497)
  have hw498 := hts _ (List.mem_cons_of_mem _ tw_498)
  refine dw_Q (fun Q hQ => ?_)
  suffices hgo : ∀ (H : Heap) (locs : List Loc), dw_G (dC, dI) vwCl [(cI, .int), (cZ, .boolean)] A s.heap s [(m0, .inr (5, [.int (ft), .int (vl), .ref aMd, .ref aO1, .ref aT2, .int (rs), .ref aSh, .ref aMk, .ref aFa, .ref aDe, .ref aNe, .ref aBy, .ref aPi, .int (pd), .ref aNw, .ref aNs, .ref aBf, .int (rn), .int (rr)])), (aMd, .inl (cI, 24, .inl (Md))), (aO1, .inl (cI, 24, .inl (O1))), (aT2, .inl (cI, 24, .inl (T2))), (aW, .inl (cI, 24, .inl (Rd)))] H locs → W p l e (headSpec wsM_reckon { frames := 0, cells := 0, slots := 0, locals := 0 }).room s m [.ref m0, .int (nI (v)), .ref aW].toArray below meth c H locs 0 0 Q (F0 m 0 ls []) from hgo _ _ hG
  clear hG
  intro H locs hG
  refine lv_aload_n hx hb dM_reckon_0 rfl (lv_at hl 0 rfl) ?_
  refine dw_get hx hb hts inMc hown hG 0 2 rfl rfl (by decide) hw496 rfl rfl dM_reckon_1 ?_
  refine lv_iload_n hx hb dM_reckon_4 rfl (lv_at hl 1 rfl) ?_
  refine dw_ia (x := 7) hx hb hG 1 0 rfl rfl (v) rfl (by omega) (by decide) em dM_reckon_5 ?_
  refine lv_bipush (v := 13) hx hb dM_reckon_6 (by decide) ?_
  refine lv_icmp_ge (tgt := 22) hx hb dM_reckon_8 (by decide) (fun h8 => ?_) (fun h8 => ?_)
  · skip
    replace h8 := (nI_leI (a := 13) (b := 7) (by omega) (by omega)).mp h8
    (exfalso; omega)
  replace h8 : ¬ 13 ≤ 7 := fun hq0 => h8 ((nI_leI (a := 13) (b := 7) (by omega) (by omega)).mpr hq0)
  refine lv_aload_n hx hb dM_reckon_11 rfl (lv_at hl 2 rfl) ?_
  refine lv_aload_n hx hb dM_reckon_12 rfl (lv_at hl 0 rfl) ?_
  refine dw_get hx hb hts inMc hown hG 0 3 rfl rfl (by decide) hw497 rfl rfl dM_reckon_13 ?_
  refine lv_iload_n hx hb dM_reckon_16 rfl (lv_at hl 1 rfl) ?_
  refine dw_ia (x := nI (x)) hx hb hG 2 0 rfl rfl (v) rfl (by omega) (by decide) e1 dM_reckon_17 ?_
  refine dw_ia (x := (Rd) (x)) hx hb hG 4 0 rfl rfl (x) rfl (by omega) (by decide) rfl dM_reckon_18 ?_
  refine lv_goto (tgt := 28) hx hb dM_reckon_19 (by decide) ?_
  refine lv_istore_n (lv' := [(3, .int ((Rd) (x))), (0, .ref m0), (1, .int (nI (v))), (2, .ref aW)]) hx hb dM_reckon_28 rfl hl (by decide) rfl (fun ls hl => ?_)
  refine lv_aload_n hx hb dM_reckon_29 rfl (lv_at hl 1 rfl) ?_
  refine dw_get hx hb hts inMc hown hG 0 2 rfl rfl (by decide) hw496 rfl rfl dM_reckon_30 ?_
  refine lv_iload_n hx hb dM_reckon_33 rfl (lv_at hl 2 rfl) ?_
  refine dw_ia (x := 7) hx hb hG 1 0 rfl rfl (v) rfl (by omega) (by decide) em dM_reckon_34 ?_
  refine lv_iconst (v := 5) hx hb dM_reckon_35 (by decide) ?_
  refine lv_icmp_gt (tgt := 50) hx hb dM_reckon_36 (by decide) (fun h36 => ?_) (fun h36 => ?_)
  · skip
    replace h36 := (nI_ltI (a := 5) (b := 7) (by omega) (by omega)).mp h36
    refine lv_aload_n hx hb dM_reckon_50 rfl (lv_at hl 1 rfl) ?_
    refine dw_get hx hb hts inMc hown hG 0 4 rfl rfl (by decide) hw498 rfl rfl dM_reckon_51 ?_
    refine lv_iload_n hx hb dM_reckon_54 rfl (lv_at hl 2 rfl) ?_
    refine dw_ia (x := nm) hx hb hG 3 0 rfl rfl (v) rfl (by omega) (by decide) e2 dM_reckon_55 ?_
    refine lv_istore (lv' := [(4, .int (nm)), (3, .int ((Rd) (x))), (0, .ref m0), (1, .int (nI (v))), (2, .ref aW)]) hx hb dM_reckon_56 hl (by decide) rfl (fun ls hl => ?_)
    refine lv_aload_n hx hb dM_reckon_58 rfl (lv_at hl 2 rfl) ?_
    refine dw_get hx hb hts inMc hown hG 0 2 rfl rfl (by decide) hw496 rfl rfl dM_reckon_59 ?_
    refine lv_iload_n hx hb dM_reckon_62 rfl (lv_at hl 3 rfl) ?_
    refine dw_ia (x := 7) hx hb hG 1 0 rfl rfl (v) rfl (by omega) (by decide) em dM_reckon_63 ?_
    refine lv_tableIn (tgt := 159) hx hb dM_reckon_64 (by decide) (by decide) rfl (by decide) ?_
    refine lv_iload_n hx hb dM_reckon_159 rfl (lv_at hl 1 rfl) ?_
    refine lv_iload hx hb dM_reckon_160 (lv_at hl 0 rfl) ?_
    refine lv_ishr hx hb dM_reckon_162 ?_
    subst hQ
    exact dw_iret hx hb hr hG (()) rfl rfl dM_reckon_163 hlocks
  replace h36 : ¬ 5 < 7 := fun hq0 => h36 ((nI_ltI (a := 5) (b := 7) (by omega) (by omega)).mpr hq0)
  (exfalso; omega)

set_option maxRecDepth 100000 in
set_option maxHeartbeats 4000000 in
theorem rf_reckon8 (l : Launch) (dC : Nat → ClassId) (dI : Nat → Nat → Nat) (cI cZ : ClassId) (m0 aMd aO1 aT2 aSh aMk aFa aDe aNe aBy aPi aNw aNs aBf : Nat) (ft vl rs pd rn rr : Int32) (aW v x y : Nat) (Md O1 T2 Rd inp : Nat → Int32) (nm : Int32) (sz : Nat) (hv : v < 24) (em : Md v = nI 8) (hx9 : x < 24) (e1 : O1 v = nI x) (e2 : T2 v = nm) : Met l yM_reckon wsM_reckon { frames := 0, cells := 0, slots := 0, locals := 0 } (va_Pc [.ref m0, .int (nI (v)), .ref aW] (dw_pre (dC, dI) vwCl [(m0, .inr (5, [.int (ft), .int (vl), .ref aMd, .ref aO1, .ref aT2, .int (rs), .ref aSh, .ref aMk, .ref aFa, .ref aDe, .ref aNe, .ref aBy, .ref aPi, .int (pd), .ref aNw, .ref aNs, .ref aBf, .int (rn), .int (rr)])), (aMd, .inl (cI, 24, .inl (Md))), (aO1, .inl (cI, 24, .inl (O1))), (aT2, .inl (cI, 24, .inl (T2))), (aW, .inl (cI, 24, .inl (Rd)))] [(cI, .int), (cZ, .boolean)] sz)) (va_Qi (fun (r : Int32) (u : Unit) => r = db_op 8 (Rd x) (Rd y) nm inp) (fun u t => dw_post (dC, dI) vwCl [(m0, .inr (5, [.int (ft), .int (vl), .ref aMd, .ref aO1, .ref aT2, .int (rs), .ref aSh, .ref aMk, .ref aFa, .ref aDe, .ref aNe, .ref aBy, .ref aPi, .int (pd), .ref aNw, .ref aNs, .ref aBf, .int (rn), .int (rr)])), (aMd, .inl (cI, 24, .inl (Md))), (aO1, .inl (cI, 24, .inl (O1))), (aT2, .inl (cI, 24, .inl (T2))), (aW, .inl (cI, 24, .inl (Rd)))] [(cI, .int), (cZ, .boolean)] (va_A [(m0, .inr (5, [.int (ft), .int (vl), .ref aMd, .ref aO1, .ref aT2, .int (rs), .ref aSh, .ref aMk, .ref aFa, .ref aDe, .ref aNe, .ref aBy, .ref aPi, .int (pd), .ref aNw, .ref aNs, .ref aBf, .int (rn), .int (rr)])), (aMd, .inl (cI, 24, .inl (Md))), (aO1, .inl (cI, 24, .inl (O1))), (aT2, .inl (cI, 24, .inl (T2))), (aW, .inl (cI, 24, .inl (Rd)))] sz) t) (va_A [(m0, .inr (5, [.int (ft), .int (vl), .ref aMd, .ref aO1, .ref aT2, .int (rs), .ref aSh, .ref aMk, .ref aFa, .ref aDe, .ref aNe, .ref aBy, .ref aPi, .int (pd), .ref aNw, .ref aNs, .ref aBf, .int (rn), .int (rr)])), (aMd, .inl (cI, 24, .inl (Md))), (aO1, .inl (cI, 24, .inl (O1))), (aT2, .inl (cI, 24, .inl (T2))), (aW, .inl (cI, 24, .inl (Rd)))] sz)) 0 0 (va_A [(m0, .inr (5, [.int (ft), .int (vl), .ref aMd, .ref aO1, .ref aT2, .int (rs), .ref aSh, .ref aMk, .ref aFa, .ref aDe, .ref aNe, .ref aBy, .ref aPi, .int (pd), .ref aNw, .ref aNs, .ref aBf, .int (rn), .int (rr)])), (aMd, .inl (cI, 24, .inl (Md))), (aO1, .inl (cI, 24, .inl (O1))), (aT2, .inl (cI, 24, .inl (T2))), (aW, .inl (cI, 24, .inl (Rd)))] sz) := by
  refine Met.ofW (cc := cM_reckon) (maxL := 5) (ret := (some .int)) (by decide) rfl ?_
  intro p e s m args below meth c s₁ B hml hv0
  have hx := B.exec
  have hb := B.bytes
  have hr := B.returns
  have hts := atoms_spec (ws := wsM_reckon) B.pre
  have hown : s.vm.findClass RM = some m.cls := findClass_of_methodNamed B.named
  have hlocks := B.notSynchronized
  obtain ⟨rfl, hsz, hG⟩ := dw_enter hv0
  generalize va_A [(m0, .inr (5, [.int (ft), .int (vl), .ref aMd, .ref aO1, .ref aT2, .int (rs), .ref aSh, .ref aMk, .ref aFa, .ref aDe, .ref aNe, .ref aBy, .ref aPi, .int (pd), .ref aNw, .ref aNs, .ref aBf, .int (rn), .int (rr)])), (aMd, .inl (cI, 24, .inl (Md))), (aO1, .inl (cI, 24, .inl (O1))), (aT2, .inl (cI, 24, .inl (T2))), (aW, .inl (cI, 24, .inl (Rd)))] sz = A at hG ⊢
  have hl := lv_entry ([.ref m0, .int (nI (v)), .ref aW]) (n := 5) (Nat.le_of_ble_eq_true rfl)
  rw [lg_entry_eq]
  generalize (lg_sl ([.ref m0, .int (nI (v)), .ref aW]) ++ List.replicate (5 - (lg_sl ([.ref m0, .int (nI (v)), .ref aW])).length) Slot.unset).toArray = ls at hl ⊢
  have hl : lv_has ls 5 [(0, .ref m0), (1, .int (nI (v))), (2, .ref aW)] := hl
  have hw496 := hts _ (List.mem_cons_of_mem _ tw_496)
  have hw497 := hts _ (List.mem_cons_of_mem _ tw_497)
  have hw498 := hts _ (List.mem_cons_of_mem _ tw_498)
  refine dw_Q (fun Q hQ => ?_)
  suffices hgo : ∀ (H : Heap) (locs : List Loc), dw_G (dC, dI) vwCl [(cI, .int), (cZ, .boolean)] A s.heap s [(m0, .inr (5, [.int (ft), .int (vl), .ref aMd, .ref aO1, .ref aT2, .int (rs), .ref aSh, .ref aMk, .ref aFa, .ref aDe, .ref aNe, .ref aBy, .ref aPi, .int (pd), .ref aNw, .ref aNs, .ref aBf, .int (rn), .int (rr)])), (aMd, .inl (cI, 24, .inl (Md))), (aO1, .inl (cI, 24, .inl (O1))), (aT2, .inl (cI, 24, .inl (T2))), (aW, .inl (cI, 24, .inl (Rd)))] H locs → W p l e (headSpec wsM_reckon { frames := 0, cells := 0, slots := 0, locals := 0 }).room s m [.ref m0, .int (nI (v)), .ref aW].toArray below meth c H locs 0 0 Q (F0 m 0 ls []) from hgo _ _ hG
  clear hG
  intro H locs hG
  refine lv_aload_n hx hb dM_reckon_0 rfl (lv_at hl 0 rfl) ?_
  refine dw_get hx hb hts inMc hown hG 0 2 rfl rfl (by decide) hw496 rfl rfl dM_reckon_1 ?_
  refine lv_iload_n hx hb dM_reckon_4 rfl (lv_at hl 1 rfl) ?_
  refine dw_ia (x := 8) hx hb hG 1 0 rfl rfl (v) rfl (by omega) (by decide) em dM_reckon_5 ?_
  refine lv_bipush (v := 13) hx hb dM_reckon_6 (by decide) ?_
  refine lv_icmp_ge (tgt := 22) hx hb dM_reckon_8 (by decide) (fun h8 => ?_) (fun h8 => ?_)
  · skip
    replace h8 := (nI_leI (a := 13) (b := 8) (by omega) (by omega)).mp h8
    (exfalso; omega)
  replace h8 : ¬ 13 ≤ 8 := fun hq0 => h8 ((nI_leI (a := 13) (b := 8) (by omega) (by omega)).mpr hq0)
  refine lv_aload_n hx hb dM_reckon_11 rfl (lv_at hl 2 rfl) ?_
  refine lv_aload_n hx hb dM_reckon_12 rfl (lv_at hl 0 rfl) ?_
  refine dw_get hx hb hts inMc hown hG 0 3 rfl rfl (by decide) hw497 rfl rfl dM_reckon_13 ?_
  refine lv_iload_n hx hb dM_reckon_16 rfl (lv_at hl 1 rfl) ?_
  refine dw_ia (x := nI (x)) hx hb hG 2 0 rfl rfl (v) rfl (by omega) (by decide) e1 dM_reckon_17 ?_
  refine dw_ia (x := (Rd) (x)) hx hb hG 4 0 rfl rfl (x) rfl (by omega) (by decide) rfl dM_reckon_18 ?_
  refine lv_goto (tgt := 28) hx hb dM_reckon_19 (by decide) ?_
  refine lv_istore_n (lv' := [(3, .int ((Rd) (x))), (0, .ref m0), (1, .int (nI (v))), (2, .ref aW)]) hx hb dM_reckon_28 rfl hl (by decide) rfl (fun ls hl => ?_)
  refine lv_aload_n hx hb dM_reckon_29 rfl (lv_at hl 1 rfl) ?_
  refine dw_get hx hb hts inMc hown hG 0 2 rfl rfl (by decide) hw496 rfl rfl dM_reckon_30 ?_
  refine lv_iload_n hx hb dM_reckon_33 rfl (lv_at hl 2 rfl) ?_
  refine dw_ia (x := 8) hx hb hG 1 0 rfl rfl (v) rfl (by omega) (by decide) em dM_reckon_34 ?_
  refine lv_iconst (v := 5) hx hb dM_reckon_35 (by decide) ?_
  refine lv_icmp_gt (tgt := 50) hx hb dM_reckon_36 (by decide) (fun h36 => ?_) (fun h36 => ?_)
  · skip
    replace h36 := (nI_ltI (a := 5) (b := 8) (by omega) (by omega)).mp h36
    refine lv_aload_n hx hb dM_reckon_50 rfl (lv_at hl 1 rfl) ?_
    refine dw_get hx hb hts inMc hown hG 0 4 rfl rfl (by decide) hw498 rfl rfl dM_reckon_51 ?_
    refine lv_iload_n hx hb dM_reckon_54 rfl (lv_at hl 2 rfl) ?_
    refine dw_ia (x := nm) hx hb hG 3 0 rfl rfl (v) rfl (by omega) (by decide) e2 dM_reckon_55 ?_
    refine lv_istore (lv' := [(4, .int (nm)), (3, .int ((Rd) (x))), (0, .ref m0), (1, .int (nI (v))), (2, .ref aW)]) hx hb dM_reckon_56 hl (by decide) rfl (fun ls hl => ?_)
    refine lv_aload_n hx hb dM_reckon_58 rfl (lv_at hl 2 rfl) ?_
    refine dw_get hx hb hts inMc hown hG 0 2 rfl rfl (by decide) hw496 rfl rfl dM_reckon_59 ?_
    refine lv_iload_n hx hb dM_reckon_62 rfl (lv_at hl 3 rfl) ?_
    refine dw_ia (x := 8) hx hb hG 1 0 rfl rfl (v) rfl (by omega) (by decide) em dM_reckon_63 ?_
    refine lv_tableIn (tgt := 164) hx hb dM_reckon_64 (by decide) (by decide) rfl (by decide) ?_
    refine lv_iload_n hx hb dM_reckon_164 rfl (lv_at hl 1 rfl) ?_
    refine lv_iload hx hb dM_reckon_165 (lv_at hl 0 rfl) ?_
    refine lv_iushr (v := db_ushr ((Rd) (x)) (nm)) hx hb dM_reckon_167 rfl ?_
    subst hQ
    exact dw_iret hx hb hr hG (()) rfl rfl dM_reckon_168 hlocks
  replace h36 : ¬ 5 < 8 := fun hq0 => h36 ((nI_ltI (a := 5) (b := 8) (by omega) (by omega)).mpr hq0)
  (exfalso; omega)

set_option maxRecDepth 100000 in
set_option maxHeartbeats 4000000 in
theorem rf_reckon10 (l : Launch) (dC : Nat → ClassId) (dI : Nat → Nat → Nat) (cI cZ : ClassId) (m0 aMd aO1 aT2 aSh aMk aFa aDe aNe aBy aPi aNw aNs aBf : Nat) (ft vl rs pd rn rr : Int32) (aW v x y : Nat) (Md O1 T2 Rd inp : Nat → Int32) (nm : Int32) (sz : Nat) (hv : v < 24) (em : Md v = nI 13) (e1 : O1 v = nm) : Met l yM_reckon wsM_reckon { frames := 0, cells := 0, slots := 0, locals := 0 } (va_Pc [.ref m0, .int (nI (v)), .ref aW] (dw_pre (dC, dI) vwCl [(m0, .inr (5, [.int (ft), .int (vl), .ref aMd, .ref aO1, .ref aT2, .int (rs), .ref aSh, .ref aMk, .ref aFa, .ref aDe, .ref aNe, .ref aBy, .ref aPi, .int (pd), .ref aNw, .ref aNs, .ref aBf, .int (rn), .int (rr)])), (aMd, .inl (cI, 24, .inl (Md))), (aO1, .inl (cI, 24, .inl (O1))), (aT2, .inl (cI, 24, .inl (T2))), (aW, .inl (cI, 24, .inl (Rd)))] [(cI, .int), (cZ, .boolean)] sz)) (va_Qi (fun (r : Int32) (u : Unit) => r = db_op 10 (Rd x) (Rd y) nm inp) (fun u t => dw_post (dC, dI) vwCl [(m0, .inr (5, [.int (ft), .int (vl), .ref aMd, .ref aO1, .ref aT2, .int (rs), .ref aSh, .ref aMk, .ref aFa, .ref aDe, .ref aNe, .ref aBy, .ref aPi, .int (pd), .ref aNw, .ref aNs, .ref aBf, .int (rn), .int (rr)])), (aMd, .inl (cI, 24, .inl (Md))), (aO1, .inl (cI, 24, .inl (O1))), (aT2, .inl (cI, 24, .inl (T2))), (aW, .inl (cI, 24, .inl (Rd)))] [(cI, .int), (cZ, .boolean)] (va_A [(m0, .inr (5, [.int (ft), .int (vl), .ref aMd, .ref aO1, .ref aT2, .int (rs), .ref aSh, .ref aMk, .ref aFa, .ref aDe, .ref aNe, .ref aBy, .ref aPi, .int (pd), .ref aNw, .ref aNs, .ref aBf, .int (rn), .int (rr)])), (aMd, .inl (cI, 24, .inl (Md))), (aO1, .inl (cI, 24, .inl (O1))), (aT2, .inl (cI, 24, .inl (T2))), (aW, .inl (cI, 24, .inl (Rd)))] sz) t) (va_A [(m0, .inr (5, [.int (ft), .int (vl), .ref aMd, .ref aO1, .ref aT2, .int (rs), .ref aSh, .ref aMk, .ref aFa, .ref aDe, .ref aNe, .ref aBy, .ref aPi, .int (pd), .ref aNw, .ref aNs, .ref aBf, .int (rn), .int (rr)])), (aMd, .inl (cI, 24, .inl (Md))), (aO1, .inl (cI, 24, .inl (O1))), (aT2, .inl (cI, 24, .inl (T2))), (aW, .inl (cI, 24, .inl (Rd)))] sz)) 0 0 (va_A [(m0, .inr (5, [.int (ft), .int (vl), .ref aMd, .ref aO1, .ref aT2, .int (rs), .ref aSh, .ref aMk, .ref aFa, .ref aDe, .ref aNe, .ref aBy, .ref aPi, .int (pd), .ref aNw, .ref aNs, .ref aBf, .int (rn), .int (rr)])), (aMd, .inl (cI, 24, .inl (Md))), (aO1, .inl (cI, 24, .inl (O1))), (aT2, .inl (cI, 24, .inl (T2))), (aW, .inl (cI, 24, .inl (Rd)))] sz) := by
  refine Met.ofW (cc := cM_reckon) (maxL := 5) (ret := (some .int)) (by decide) rfl ?_
  intro p e s m args below meth c s₁ B hml hv0
  have hx := B.exec
  have hb := B.bytes
  have hr := B.returns
  have hts := atoms_spec (ws := wsM_reckon) B.pre
  have hown : s.vm.findClass RM = some m.cls := findClass_of_methodNamed B.named
  have hlocks := B.notSynchronized
  obtain ⟨rfl, hsz, hG⟩ := dw_enter hv0
  generalize va_A [(m0, .inr (5, [.int (ft), .int (vl), .ref aMd, .ref aO1, .ref aT2, .int (rs), .ref aSh, .ref aMk, .ref aFa, .ref aDe, .ref aNe, .ref aBy, .ref aPi, .int (pd), .ref aNw, .ref aNs, .ref aBf, .int (rn), .int (rr)])), (aMd, .inl (cI, 24, .inl (Md))), (aO1, .inl (cI, 24, .inl (O1))), (aT2, .inl (cI, 24, .inl (T2))), (aW, .inl (cI, 24, .inl (Rd)))] sz = A at hG ⊢
  have hl := lv_entry ([.ref m0, .int (nI (v)), .ref aW]) (n := 5) (Nat.le_of_ble_eq_true rfl)
  rw [lg_entry_eq]
  generalize (lg_sl ([.ref m0, .int (nI (v)), .ref aW]) ++ List.replicate (5 - (lg_sl ([.ref m0, .int (nI (v)), .ref aW])).length) Slot.unset).toArray = ls at hl ⊢
  have hl : lv_has ls 5 [(0, .ref m0), (1, .int (nI (v))), (2, .ref aW)] := hl
  have hw496 := hts _ (List.mem_cons_of_mem _ tw_496)
  have hw497 := hts _ (List.mem_cons_of_mem _ tw_497)
  have hw498 := hts _ (List.mem_cons_of_mem _ tw_498)
  refine dw_Q (fun Q hQ => ?_)
  suffices hgo : ∀ (H : Heap) (locs : List Loc), dw_G (dC, dI) vwCl [(cI, .int), (cZ, .boolean)] A s.heap s [(m0, .inr (5, [.int (ft), .int (vl), .ref aMd, .ref aO1, .ref aT2, .int (rs), .ref aSh, .ref aMk, .ref aFa, .ref aDe, .ref aNe, .ref aBy, .ref aPi, .int (pd), .ref aNw, .ref aNs, .ref aBf, .int (rn), .int (rr)])), (aMd, .inl (cI, 24, .inl (Md))), (aO1, .inl (cI, 24, .inl (O1))), (aT2, .inl (cI, 24, .inl (T2))), (aW, .inl (cI, 24, .inl (Rd)))] H locs → W p l e (headSpec wsM_reckon { frames := 0, cells := 0, slots := 0, locals := 0 }).room s m [.ref m0, .int (nI (v)), .ref aW].toArray below meth c H locs 0 0 Q (F0 m 0 ls []) from hgo _ _ hG
  clear hG
  intro H locs hG
  refine lv_aload_n hx hb dM_reckon_0 rfl (lv_at hl 0 rfl) ?_
  refine dw_get hx hb hts inMc hown hG 0 2 rfl rfl (by decide) hw496 rfl rfl dM_reckon_1 ?_
  refine lv_iload_n hx hb dM_reckon_4 rfl (lv_at hl 1 rfl) ?_
  refine dw_ia (x := 13) hx hb hG 1 0 rfl rfl (v) rfl (by omega) (by decide) em dM_reckon_5 ?_
  refine lv_bipush (v := 13) hx hb dM_reckon_6 (by decide) ?_
  refine lv_icmp_ge (tgt := 22) hx hb dM_reckon_8 (by decide) (fun h8 => ?_) (fun h8 => ?_)
  · skip
    replace h8 := (nI_leI (a := 13) (b := 13) (by omega) (by omega)).mp h8
    refine lv_aload_n hx hb dM_reckon_22 rfl (lv_at hl 0 rfl) ?_
    refine dw_get hx hb hts inMc hown hG 0 3 rfl rfl (by decide) hw497 rfl rfl dM_reckon_23 ?_
    refine lv_iload_n hx hb dM_reckon_26 rfl (lv_at hl 1 rfl) ?_
    refine dw_ia (x := nm) hx hb hG 2 0 rfl rfl (v) rfl (by omega) (by decide) e1 dM_reckon_27 ?_
    refine lv_istore_n (lv' := [(3, .int (nm)), (0, .ref m0), (1, .int (nI (v))), (2, .ref aW)]) hx hb dM_reckon_28 rfl hl (by decide) rfl (fun ls hl => ?_)
    refine lv_aload_n hx hb dM_reckon_29 rfl (lv_at hl 1 rfl) ?_
    refine dw_get hx hb hts inMc hown hG 0 2 rfl rfl (by decide) hw496 rfl rfl dM_reckon_30 ?_
    refine lv_iload_n hx hb dM_reckon_33 rfl (lv_at hl 2 rfl) ?_
    refine dw_ia (x := 13) hx hb hG 1 0 rfl rfl (v) rfl (by omega) (by decide) em dM_reckon_34 ?_
    refine lv_iconst (v := 5) hx hb dM_reckon_35 (by decide) ?_
    refine lv_icmp_gt (tgt := 50) hx hb dM_reckon_36 (by decide) (fun h36 => ?_) (fun h36 => ?_)
    · skip
      replace h36 := (nI_ltI (a := 5) (b := 13) (by omega) (by omega)).mp h36
      refine lv_aload_n hx hb dM_reckon_50 rfl (lv_at hl 1 rfl) ?_
      refine dw_get hx hb hts inMc hown hG 0 4 rfl rfl (by decide) hw498 rfl rfl dM_reckon_51 ?_
      refine lv_iload_n hx hb dM_reckon_54 rfl (lv_at hl 2 rfl) ?_
      refine dw_ia (x := (T2) (v)) hx hb hG 3 0 rfl rfl (v) rfl (by omega) (by decide) rfl dM_reckon_55 ?_
      refine lv_istore (lv' := [(4, .int ((T2) (v))), (3, .int (nm)), (0, .ref m0), (1, .int (nI (v))), (2, .ref aW)]) hx hb dM_reckon_56 hl (by decide) rfl (fun ls hl => ?_)
      refine lv_aload_n hx hb dM_reckon_58 rfl (lv_at hl 2 rfl) ?_
      refine dw_get hx hb hts inMc hown hG 0 2 rfl rfl (by decide) hw496 rfl rfl dM_reckon_59 ?_
      refine lv_iload_n hx hb dM_reckon_62 rfl (lv_at hl 3 rfl) ?_
      refine dw_ia (x := 13) hx hb hG 1 0 rfl rfl (v) rfl (by omega) (by decide) em dM_reckon_63 ?_
      refine lv_tableOut (tgt := 185) hx hb dM_reckon_64 (by decide) (by decide) ?_
      refine lv_iload_n hx hb dM_reckon_185 rfl (lv_at hl 1 rfl) ?_
      subst hQ
      exact dw_iret hx hb hr hG (()) rfl rfl dM_reckon_186 hlocks
    replace h36 : ¬ 5 < 13 := fun hq0 => h36 ((nI_ltI (a := 5) (b := 13) (by omega) (by omega)).mpr hq0)
    (exfalso; omega)
  replace h8 : ¬ 13 ≤ 13 := fun hq0 => h8 ((nI_leI (a := 13) (b := 13) (by omega) (by omega)).mpr hq0)
  (exfalso; omega)

set_option maxRecDepth 100000 in
set_option maxHeartbeats 4000000 in
theorem rf_reckon11 (l : Launch) (dC : Nat → ClassId) (dI : Nat → Nat → Nat) (cI cZ : ClassId) (m0 aMd aO1 aT2 aSh aMk aFa aDe aNe aBy aPi aNw aNs aBf : Nat) (ft vl rs pd rn rr : Int32) (aW v x y : Nat) (Md O1 T2 Rd inp : Nat → Int32) (nm : Int32) (sz : Nat) (hv : v < 24) (em : Md v = nI 9) (hx9 : x < 24) (e1 : O1 v = nI x) : Met l yM_reckon wsM_reckon { frames := 0, cells := 0, slots := 0, locals := 0 } (va_Pc [.ref m0, .int (nI (v)), .ref aW] (dw_pre (dC, dI) vwCl [(m0, .inr (5, [.int (ft), .int (vl), .ref aMd, .ref aO1, .ref aT2, .int (rs), .ref aSh, .ref aMk, .ref aFa, .ref aDe, .ref aNe, .ref aBy, .ref aPi, .int (pd), .ref aNw, .ref aNs, .ref aBf, .int (rn), .int (rr)])), (aMd, .inl (cI, 24, .inl (Md))), (aO1, .inl (cI, 24, .inl (O1))), (aT2, .inl (cI, 24, .inl (T2))), (aW, .inl (cI, 24, .inl (Rd)))] [(cI, .int), (cZ, .boolean)] sz)) (va_Qi (fun (r : Int32) (u : Unit) => r = db_op 11 (Rd x) (Rd y) nm inp) (fun u t => dw_post (dC, dI) vwCl [(m0, .inr (5, [.int (ft), .int (vl), .ref aMd, .ref aO1, .ref aT2, .int (rs), .ref aSh, .ref aMk, .ref aFa, .ref aDe, .ref aNe, .ref aBy, .ref aPi, .int (pd), .ref aNw, .ref aNs, .ref aBf, .int (rn), .int (rr)])), (aMd, .inl (cI, 24, .inl (Md))), (aO1, .inl (cI, 24, .inl (O1))), (aT2, .inl (cI, 24, .inl (T2))), (aW, .inl (cI, 24, .inl (Rd)))] [(cI, .int), (cZ, .boolean)] (va_A [(m0, .inr (5, [.int (ft), .int (vl), .ref aMd, .ref aO1, .ref aT2, .int (rs), .ref aSh, .ref aMk, .ref aFa, .ref aDe, .ref aNe, .ref aBy, .ref aPi, .int (pd), .ref aNw, .ref aNs, .ref aBf, .int (rn), .int (rr)])), (aMd, .inl (cI, 24, .inl (Md))), (aO1, .inl (cI, 24, .inl (O1))), (aT2, .inl (cI, 24, .inl (T2))), (aW, .inl (cI, 24, .inl (Rd)))] sz) t) (va_A [(m0, .inr (5, [.int (ft), .int (vl), .ref aMd, .ref aO1, .ref aT2, .int (rs), .ref aSh, .ref aMk, .ref aFa, .ref aDe, .ref aNe, .ref aBy, .ref aPi, .int (pd), .ref aNw, .ref aNs, .ref aBf, .int (rn), .int (rr)])), (aMd, .inl (cI, 24, .inl (Md))), (aO1, .inl (cI, 24, .inl (O1))), (aT2, .inl (cI, 24, .inl (T2))), (aW, .inl (cI, 24, .inl (Rd)))] sz)) 0 0 (va_A [(m0, .inr (5, [.int (ft), .int (vl), .ref aMd, .ref aO1, .ref aT2, .int (rs), .ref aSh, .ref aMk, .ref aFa, .ref aDe, .ref aNe, .ref aBy, .ref aPi, .int (pd), .ref aNw, .ref aNs, .ref aBf, .int (rn), .int (rr)])), (aMd, .inl (cI, 24, .inl (Md))), (aO1, .inl (cI, 24, .inl (O1))), (aT2, .inl (cI, 24, .inl (T2))), (aW, .inl (cI, 24, .inl (Rd)))] sz) := by
  refine Met.ofW (cc := cM_reckon) (maxL := 5) (ret := (some .int)) (by decide) rfl ?_
  intro p e s m args below meth c s₁ B hml hv0
  have hx := B.exec
  have hb := B.bytes
  have hr := B.returns
  have hts := atoms_spec (ws := wsM_reckon) B.pre
  have hown : s.vm.findClass RM = some m.cls := findClass_of_methodNamed B.named
  have hlocks := B.notSynchronized
  obtain ⟨rfl, hsz, hG⟩ := dw_enter hv0
  generalize va_A [(m0, .inr (5, [.int (ft), .int (vl), .ref aMd, .ref aO1, .ref aT2, .int (rs), .ref aSh, .ref aMk, .ref aFa, .ref aDe, .ref aNe, .ref aBy, .ref aPi, .int (pd), .ref aNw, .ref aNs, .ref aBf, .int (rn), .int (rr)])), (aMd, .inl (cI, 24, .inl (Md))), (aO1, .inl (cI, 24, .inl (O1))), (aT2, .inl (cI, 24, .inl (T2))), (aW, .inl (cI, 24, .inl (Rd)))] sz = A at hG ⊢
  have hl := lv_entry ([.ref m0, .int (nI (v)), .ref aW]) (n := 5) (Nat.le_of_ble_eq_true rfl)
  rw [lg_entry_eq]
  generalize (lg_sl ([.ref m0, .int (nI (v)), .ref aW]) ++ List.replicate (5 - (lg_sl ([.ref m0, .int (nI (v)), .ref aW])).length) Slot.unset).toArray = ls at hl ⊢
  have hl : lv_has ls 5 [(0, .ref m0), (1, .int (nI (v))), (2, .ref aW)] := hl
  have hw496 := hts _ (List.mem_cons_of_mem _ tw_496)
  have hw497 := hts _ (List.mem_cons_of_mem _ tw_497)
  have hw498 := hts _ (List.mem_cons_of_mem _ tw_498)
  refine dw_Q (fun Q hQ => ?_)
  suffices hgo : ∀ (H : Heap) (locs : List Loc), dw_G (dC, dI) vwCl [(cI, .int), (cZ, .boolean)] A s.heap s [(m0, .inr (5, [.int (ft), .int (vl), .ref aMd, .ref aO1, .ref aT2, .int (rs), .ref aSh, .ref aMk, .ref aFa, .ref aDe, .ref aNe, .ref aBy, .ref aPi, .int (pd), .ref aNw, .ref aNs, .ref aBf, .int (rn), .int (rr)])), (aMd, .inl (cI, 24, .inl (Md))), (aO1, .inl (cI, 24, .inl (O1))), (aT2, .inl (cI, 24, .inl (T2))), (aW, .inl (cI, 24, .inl (Rd)))] H locs → W p l e (headSpec wsM_reckon { frames := 0, cells := 0, slots := 0, locals := 0 }).room s m [.ref m0, .int (nI (v)), .ref aW].toArray below meth c H locs 0 0 Q (F0 m 0 ls []) from hgo _ _ hG
  clear hG
  intro H locs hG
  refine lv_aload_n hx hb dM_reckon_0 rfl (lv_at hl 0 rfl) ?_
  refine dw_get hx hb hts inMc hown hG 0 2 rfl rfl (by decide) hw496 rfl rfl dM_reckon_1 ?_
  refine lv_iload_n hx hb dM_reckon_4 rfl (lv_at hl 1 rfl) ?_
  refine dw_ia (x := 9) hx hb hG 1 0 rfl rfl (v) rfl (by omega) (by decide) em dM_reckon_5 ?_
  refine lv_bipush (v := 13) hx hb dM_reckon_6 (by decide) ?_
  refine lv_icmp_ge (tgt := 22) hx hb dM_reckon_8 (by decide) (fun h8 => ?_) (fun h8 => ?_)
  · skip
    replace h8 := (nI_leI (a := 13) (b := 9) (by omega) (by omega)).mp h8
    (exfalso; omega)
  replace h8 : ¬ 13 ≤ 9 := fun hq0 => h8 ((nI_leI (a := 13) (b := 9) (by omega) (by omega)).mpr hq0)
  refine lv_aload_n hx hb dM_reckon_11 rfl (lv_at hl 2 rfl) ?_
  refine lv_aload_n hx hb dM_reckon_12 rfl (lv_at hl 0 rfl) ?_
  refine dw_get hx hb hts inMc hown hG 0 3 rfl rfl (by decide) hw497 rfl rfl dM_reckon_13 ?_
  refine lv_iload_n hx hb dM_reckon_16 rfl (lv_at hl 1 rfl) ?_
  refine dw_ia (x := nI (x)) hx hb hG 2 0 rfl rfl (v) rfl (by omega) (by decide) e1 dM_reckon_17 ?_
  refine dw_ia (x := (Rd) (x)) hx hb hG 4 0 rfl rfl (x) rfl (by omega) (by decide) rfl dM_reckon_18 ?_
  refine lv_goto (tgt := 28) hx hb dM_reckon_19 (by decide) ?_
  refine lv_istore_n (lv' := [(3, .int ((Rd) (x))), (0, .ref m0), (1, .int (nI (v))), (2, .ref aW)]) hx hb dM_reckon_28 rfl hl (by decide) rfl (fun ls hl => ?_)
  refine lv_aload_n hx hb dM_reckon_29 rfl (lv_at hl 1 rfl) ?_
  refine dw_get hx hb hts inMc hown hG 0 2 rfl rfl (by decide) hw496 rfl rfl dM_reckon_30 ?_
  refine lv_iload_n hx hb dM_reckon_33 rfl (lv_at hl 2 rfl) ?_
  refine dw_ia (x := 9) hx hb hG 1 0 rfl rfl (v) rfl (by omega) (by decide) em dM_reckon_34 ?_
  refine lv_iconst (v := 5) hx hb dM_reckon_35 (by decide) ?_
  refine lv_icmp_gt (tgt := 50) hx hb dM_reckon_36 (by decide) (fun h36 => ?_) (fun h36 => ?_)
  · skip
    replace h36 := (nI_ltI (a := 5) (b := 9) (by omega) (by omega)).mp h36
    refine lv_aload_n hx hb dM_reckon_50 rfl (lv_at hl 1 rfl) ?_
    refine dw_get hx hb hts inMc hown hG 0 4 rfl rfl (by decide) hw498 rfl rfl dM_reckon_51 ?_
    refine lv_iload_n hx hb dM_reckon_54 rfl (lv_at hl 2 rfl) ?_
    refine dw_ia (x := (T2) (v)) hx hb hG 3 0 rfl rfl (v) rfl (by omega) (by decide) rfl dM_reckon_55 ?_
    refine lv_istore (lv' := [(4, .int ((T2) (v))), (3, .int ((Rd) (x))), (0, .ref m0), (1, .int (nI (v))), (2, .ref aW)]) hx hb dM_reckon_56 hl (by decide) rfl (fun ls hl => ?_)
    refine lv_aload_n hx hb dM_reckon_58 rfl (lv_at hl 2 rfl) ?_
    refine dw_get hx hb hts inMc hown hG 0 2 rfl rfl (by decide) hw496 rfl rfl dM_reckon_59 ?_
    refine lv_iload_n hx hb dM_reckon_62 rfl (lv_at hl 3 rfl) ?_
    refine dw_ia (x := 9) hx hb hG 1 0 rfl rfl (v) rfl (by omega) (by decide) em dM_reckon_63 ?_
    refine lv_tableIn (tgt := 169) hx hb dM_reckon_64 (by decide) (by decide) rfl (by decide) ?_
    refine lv_iload_n hx hb dM_reckon_169 rfl (lv_at hl 1 rfl) ?_
    refine lv_bipush (v := 24) hx hb dM_reckon_170 (by decide) ?_
    refine lv_ishl hx hb dM_reckon_172 ?_
    refine lv_bipush (v := 24) hx hb dM_reckon_173 (by decide) ?_
    refine lv_ishr hx hb dM_reckon_175 ?_
    subst hQ
    exact dw_iret hx hb hr hG (()) rfl (db_b24 _) dM_reckon_176 hlocks
  replace h36 : ¬ 5 < 9 := fun hq0 => h36 ((nI_ltI (a := 5) (b := 9) (by omega) (by omega)).mpr hq0)
  (exfalso; omega)

set_option maxRecDepth 100000 in
set_option maxHeartbeats 4000000 in
theorem rf_reckon12 (l : Launch) (dC : Nat → ClassId) (dI : Nat → Nat → Nat) (cI cZ : ClassId) (m0 aMd aO1 aT2 aSh aMk aFa aDe aNe aBy aPi aNw aNs aBf : Nat) (ft vl rs pd rn rr : Int32) (aW v x y : Nat) (Md O1 T2 Rd inp : Nat → Int32) (nm : Int32) (sz : Nat) (hv : v < 24) (em : Md v = nI 10) (hx9 : x < 24) (e1 : O1 v = nI x) : Met l yM_reckon wsM_reckon { frames := 0, cells := 0, slots := 0, locals := 0 } (va_Pc [.ref m0, .int (nI (v)), .ref aW] (dw_pre (dC, dI) vwCl [(m0, .inr (5, [.int (ft), .int (vl), .ref aMd, .ref aO1, .ref aT2, .int (rs), .ref aSh, .ref aMk, .ref aFa, .ref aDe, .ref aNe, .ref aBy, .ref aPi, .int (pd), .ref aNw, .ref aNs, .ref aBf, .int (rn), .int (rr)])), (aMd, .inl (cI, 24, .inl (Md))), (aO1, .inl (cI, 24, .inl (O1))), (aT2, .inl (cI, 24, .inl (T2))), (aW, .inl (cI, 24, .inl (Rd)))] [(cI, .int), (cZ, .boolean)] sz)) (va_Qi (fun (r : Int32) (u : Unit) => r = db_op 12 (Rd x) (Rd y) nm inp) (fun u t => dw_post (dC, dI) vwCl [(m0, .inr (5, [.int (ft), .int (vl), .ref aMd, .ref aO1, .ref aT2, .int (rs), .ref aSh, .ref aMk, .ref aFa, .ref aDe, .ref aNe, .ref aBy, .ref aPi, .int (pd), .ref aNw, .ref aNs, .ref aBf, .int (rn), .int (rr)])), (aMd, .inl (cI, 24, .inl (Md))), (aO1, .inl (cI, 24, .inl (O1))), (aT2, .inl (cI, 24, .inl (T2))), (aW, .inl (cI, 24, .inl (Rd)))] [(cI, .int), (cZ, .boolean)] (va_A [(m0, .inr (5, [.int (ft), .int (vl), .ref aMd, .ref aO1, .ref aT2, .int (rs), .ref aSh, .ref aMk, .ref aFa, .ref aDe, .ref aNe, .ref aBy, .ref aPi, .int (pd), .ref aNw, .ref aNs, .ref aBf, .int (rn), .int (rr)])), (aMd, .inl (cI, 24, .inl (Md))), (aO1, .inl (cI, 24, .inl (O1))), (aT2, .inl (cI, 24, .inl (T2))), (aW, .inl (cI, 24, .inl (Rd)))] sz) t) (va_A [(m0, .inr (5, [.int (ft), .int (vl), .ref aMd, .ref aO1, .ref aT2, .int (rs), .ref aSh, .ref aMk, .ref aFa, .ref aDe, .ref aNe, .ref aBy, .ref aPi, .int (pd), .ref aNw, .ref aNs, .ref aBf, .int (rn), .int (rr)])), (aMd, .inl (cI, 24, .inl (Md))), (aO1, .inl (cI, 24, .inl (O1))), (aT2, .inl (cI, 24, .inl (T2))), (aW, .inl (cI, 24, .inl (Rd)))] sz)) 0 0 (va_A [(m0, .inr (5, [.int (ft), .int (vl), .ref aMd, .ref aO1, .ref aT2, .int (rs), .ref aSh, .ref aMk, .ref aFa, .ref aDe, .ref aNe, .ref aBy, .ref aPi, .int (pd), .ref aNw, .ref aNs, .ref aBf, .int (rn), .int (rr)])), (aMd, .inl (cI, 24, .inl (Md))), (aO1, .inl (cI, 24, .inl (O1))), (aT2, .inl (cI, 24, .inl (T2))), (aW, .inl (cI, 24, .inl (Rd)))] sz) := by
  refine Met.ofW (cc := cM_reckon) (maxL := 5) (ret := (some .int)) (by decide) rfl ?_
  intro p e s m args below meth c s₁ B hml hv0
  have hx := B.exec
  have hb := B.bytes
  have hr := B.returns
  have hts := atoms_spec (ws := wsM_reckon) B.pre
  have hown : s.vm.findClass RM = some m.cls := findClass_of_methodNamed B.named
  have hlocks := B.notSynchronized
  obtain ⟨rfl, hsz, hG⟩ := dw_enter hv0
  generalize va_A [(m0, .inr (5, [.int (ft), .int (vl), .ref aMd, .ref aO1, .ref aT2, .int (rs), .ref aSh, .ref aMk, .ref aFa, .ref aDe, .ref aNe, .ref aBy, .ref aPi, .int (pd), .ref aNw, .ref aNs, .ref aBf, .int (rn), .int (rr)])), (aMd, .inl (cI, 24, .inl (Md))), (aO1, .inl (cI, 24, .inl (O1))), (aT2, .inl (cI, 24, .inl (T2))), (aW, .inl (cI, 24, .inl (Rd)))] sz = A at hG ⊢
  have hl := lv_entry ([.ref m0, .int (nI (v)), .ref aW]) (n := 5) (Nat.le_of_ble_eq_true rfl)
  rw [lg_entry_eq]
  generalize (lg_sl ([.ref m0, .int (nI (v)), .ref aW]) ++ List.replicate (5 - (lg_sl ([.ref m0, .int (nI (v)), .ref aW])).length) Slot.unset).toArray = ls at hl ⊢
  have hl : lv_has ls 5 [(0, .ref m0), (1, .int (nI (v))), (2, .ref aW)] := hl
  have hw496 := hts _ (List.mem_cons_of_mem _ tw_496)
  have hw497 := hts _ (List.mem_cons_of_mem _ tw_497)
  have hw498 := hts _ (List.mem_cons_of_mem _ tw_498)
  refine dw_Q (fun Q hQ => ?_)
  suffices hgo : ∀ (H : Heap) (locs : List Loc), dw_G (dC, dI) vwCl [(cI, .int), (cZ, .boolean)] A s.heap s [(m0, .inr (5, [.int (ft), .int (vl), .ref aMd, .ref aO1, .ref aT2, .int (rs), .ref aSh, .ref aMk, .ref aFa, .ref aDe, .ref aNe, .ref aBy, .ref aPi, .int (pd), .ref aNw, .ref aNs, .ref aBf, .int (rn), .int (rr)])), (aMd, .inl (cI, 24, .inl (Md))), (aO1, .inl (cI, 24, .inl (O1))), (aT2, .inl (cI, 24, .inl (T2))), (aW, .inl (cI, 24, .inl (Rd)))] H locs → W p l e (headSpec wsM_reckon { frames := 0, cells := 0, slots := 0, locals := 0 }).room s m [.ref m0, .int (nI (v)), .ref aW].toArray below meth c H locs 0 0 Q (F0 m 0 ls []) from hgo _ _ hG
  clear hG
  intro H locs hG
  refine lv_aload_n hx hb dM_reckon_0 rfl (lv_at hl 0 rfl) ?_
  refine dw_get hx hb hts inMc hown hG 0 2 rfl rfl (by decide) hw496 rfl rfl dM_reckon_1 ?_
  refine lv_iload_n hx hb dM_reckon_4 rfl (lv_at hl 1 rfl) ?_
  refine dw_ia (x := 10) hx hb hG 1 0 rfl rfl (v) rfl (by omega) (by decide) em dM_reckon_5 ?_
  refine lv_bipush (v := 13) hx hb dM_reckon_6 (by decide) ?_
  refine lv_icmp_ge (tgt := 22) hx hb dM_reckon_8 (by decide) (fun h8 => ?_) (fun h8 => ?_)
  · skip
    replace h8 := (nI_leI (a := 13) (b := 10) (by omega) (by omega)).mp h8
    (exfalso; omega)
  replace h8 : ¬ 13 ≤ 10 := fun hq0 => h8 ((nI_leI (a := 13) (b := 10) (by omega) (by omega)).mpr hq0)
  refine lv_aload_n hx hb dM_reckon_11 rfl (lv_at hl 2 rfl) ?_
  refine lv_aload_n hx hb dM_reckon_12 rfl (lv_at hl 0 rfl) ?_
  refine dw_get hx hb hts inMc hown hG 0 3 rfl rfl (by decide) hw497 rfl rfl dM_reckon_13 ?_
  refine lv_iload_n hx hb dM_reckon_16 rfl (lv_at hl 1 rfl) ?_
  refine dw_ia (x := nI (x)) hx hb hG 2 0 rfl rfl (v) rfl (by omega) (by decide) e1 dM_reckon_17 ?_
  refine dw_ia (x := (Rd) (x)) hx hb hG 4 0 rfl rfl (x) rfl (by omega) (by decide) rfl dM_reckon_18 ?_
  refine lv_goto (tgt := 28) hx hb dM_reckon_19 (by decide) ?_
  refine lv_istore_n (lv' := [(3, .int ((Rd) (x))), (0, .ref m0), (1, .int (nI (v))), (2, .ref aW)]) hx hb dM_reckon_28 rfl hl (by decide) rfl (fun ls hl => ?_)
  refine lv_aload_n hx hb dM_reckon_29 rfl (lv_at hl 1 rfl) ?_
  refine dw_get hx hb hts inMc hown hG 0 2 rfl rfl (by decide) hw496 rfl rfl dM_reckon_30 ?_
  refine lv_iload_n hx hb dM_reckon_33 rfl (lv_at hl 2 rfl) ?_
  refine dw_ia (x := 10) hx hb hG 1 0 rfl rfl (v) rfl (by omega) (by decide) em dM_reckon_34 ?_
  refine lv_iconst (v := 5) hx hb dM_reckon_35 (by decide) ?_
  refine lv_icmp_gt (tgt := 50) hx hb dM_reckon_36 (by decide) (fun h36 => ?_) (fun h36 => ?_)
  · skip
    replace h36 := (nI_ltI (a := 5) (b := 10) (by omega) (by omega)).mp h36
    refine lv_aload_n hx hb dM_reckon_50 rfl (lv_at hl 1 rfl) ?_
    refine dw_get hx hb hts inMc hown hG 0 4 rfl rfl (by decide) hw498 rfl rfl dM_reckon_51 ?_
    refine lv_iload_n hx hb dM_reckon_54 rfl (lv_at hl 2 rfl) ?_
    refine dw_ia (x := (T2) (v)) hx hb hG 3 0 rfl rfl (v) rfl (by omega) (by decide) rfl dM_reckon_55 ?_
    refine lv_istore (lv' := [(4, .int ((T2) (v))), (3, .int ((Rd) (x))), (0, .ref m0), (1, .int (nI (v))), (2, .ref aW)]) hx hb dM_reckon_56 hl (by decide) rfl (fun ls hl => ?_)
    refine lv_aload_n hx hb dM_reckon_58 rfl (lv_at hl 2 rfl) ?_
    refine dw_get hx hb hts inMc hown hG 0 2 rfl rfl (by decide) hw496 rfl rfl dM_reckon_59 ?_
    refine lv_iload_n hx hb dM_reckon_62 rfl (lv_at hl 3 rfl) ?_
    refine dw_ia (x := 10) hx hb hG 1 0 rfl rfl (v) rfl (by omega) (by decide) em dM_reckon_63 ?_
    refine lv_tableIn (tgt := 177) hx hb dM_reckon_64 (by decide) (by decide) rfl (by decide) ?_
    refine lv_iload_n hx hb dM_reckon_177 rfl (lv_at hl 1 rfl) ?_
    refine lv_bipush (v := 16) hx hb dM_reckon_178 (by decide) ?_
    refine lv_ishl hx hb dM_reckon_180 ?_
    refine lv_bipush (v := 16) hx hb dM_reckon_181 (by decide) ?_
    refine lv_ishr hx hb dM_reckon_183 ?_
    subst hQ
    exact dw_iret hx hb hr hG (()) rfl (db_s16 _) dM_reckon_184 hlocks
  replace h36 : ¬ 5 < 10 := fun hq0 => h36 ((nI_ltI (a := 5) (b := 10) (by omega) (by omega)).mpr hq0)
  (exfalso; omega)

set_option maxRecDepth 100000 in
theorem rf_reckon (l : Launch) (dC : Nat → ClassId) (dI : Nat → Nat → Nat) (cI cZ : ClassId) (m0 aMd aO1 aT2 aSh aMk aFa aDe aNe aBy aPi aNw aNs aBf : Nat) (ft vl rs pd rn rr : Int32) (aW v x y : Nat) (Md O1 T2 Rd inp : Nat → Int32) (nm : Int32) (kd : Nat) (sz : Nat) (hv : v < 24) (hkd : kd ≤ 12) (hk9 : kd ≠ 9) (em : Md v = nI (db_rk kd)) (hX : db_ux kd → x < 24 ∧ O1 v = nI x) (hY : kd ≤ 5 → y < 24 ∧ T2 v = nI y) (hS : db_shift kd → T2 v = nm) (hO : kd = 10 → O1 v = nm) : Met l yM_reckon wsM_reckon { frames := 0, cells := 0, slots := 0, locals := 0 } (va_Pc [.ref m0, .int (nI (v)), .ref aW] (dw_pre (dC, dI) vwCl [(m0, .inr (5, [.int (ft), .int (vl), .ref aMd, .ref aO1, .ref aT2, .int (rs), .ref aSh, .ref aMk, .ref aFa, .ref aDe, .ref aNe, .ref aBy, .ref aPi, .int (pd), .ref aNw, .ref aNs, .ref aBf, .int (rn), .int (rr)])), (aMd, .inl (cI, 24, .inl (Md))), (aO1, .inl (cI, 24, .inl (O1))), (aT2, .inl (cI, 24, .inl (T2))), (aW, .inl (cI, 24, .inl (Rd)))] [(cI, .int), (cZ, .boolean)] sz)) (va_Qi (fun (r : Int32) (u : Unit) => r = db_op kd (Rd x) (Rd y) nm inp) (fun u t => dw_post (dC, dI) vwCl [(m0, .inr (5, [.int (ft), .int (vl), .ref aMd, .ref aO1, .ref aT2, .int (rs), .ref aSh, .ref aMk, .ref aFa, .ref aDe, .ref aNe, .ref aBy, .ref aPi, .int (pd), .ref aNw, .ref aNs, .ref aBf, .int (rn), .int (rr)])), (aMd, .inl (cI, 24, .inl (Md))), (aO1, .inl (cI, 24, .inl (O1))), (aT2, .inl (cI, 24, .inl (T2))), (aW, .inl (cI, 24, .inl (Rd)))] [(cI, .int), (cZ, .boolean)] (va_A [(m0, .inr (5, [.int (ft), .int (vl), .ref aMd, .ref aO1, .ref aT2, .int (rs), .ref aSh, .ref aMk, .ref aFa, .ref aDe, .ref aNe, .ref aBy, .ref aPi, .int (pd), .ref aNw, .ref aNs, .ref aBf, .int (rn), .int (rr)])), (aMd, .inl (cI, 24, .inl (Md))), (aO1, .inl (cI, 24, .inl (O1))), (aT2, .inl (cI, 24, .inl (T2))), (aW, .inl (cI, 24, .inl (Rd)))] sz) t) (va_A [(m0, .inr (5, [.int (ft), .int (vl), .ref aMd, .ref aO1, .ref aT2, .int (rs), .ref aSh, .ref aMk, .ref aFa, .ref aDe, .ref aNe, .ref aBy, .ref aPi, .int (pd), .ref aNw, .ref aNs, .ref aBf, .int (rn), .int (rr)])), (aMd, .inl (cI, 24, .inl (Md))), (aO1, .inl (cI, 24, .inl (O1))), (aT2, .inl (cI, 24, .inl (T2))), (aW, .inl (cI, 24, .inl (Rd)))] sz)) 0 0 (va_A [(m0, .inr (5, [.int (ft), .int (vl), .ref aMd, .ref aO1, .ref aT2, .int (rs), .ref aSh, .ref aMk, .ref aFa, .ref aDe, .ref aNe, .ref aBy, .ref aPi, .int (pd), .ref aNw, .ref aNs, .ref aBf, .int (rn), .int (rr)])), (aMd, .inl (cI, 24, .inl (Md))), (aO1, .inl (cI, 24, .inl (O1))), (aT2, .inl (cI, 24, .inl (T2))), (aW, .inl (cI, 24, .inl (Rd)))] sz) := by
  rcases (by omega : kd = 0 ∨ kd = 1 ∨ kd = 2 ∨ kd = 3 ∨ kd = 4 ∨ kd = 5 ∨ kd = 6 ∨ kd = 7 ∨ kd = 8 ∨ kd = 10 ∨ kd = 11 ∨ kd = 12) with e | e | e | e | e | e | e | e | e | e | e | e
  · subst e
    obtain ⟨x1, x2⟩ := hX (by unfold db_ux; omega)
    obtain ⟨y1, y2⟩ := hY (by omega)
    exact rf_reckon0 l dC dI cI cZ m0 aMd aO1 aT2 aSh aMk aFa aDe aNe aBy aPi aNw aNs aBf ft vl rs pd rn rr aW v x y Md O1 T2 Rd inp nm sz hv em x1 x2 y1 y2
  · subst e
    obtain ⟨x1, x2⟩ := hX (by unfold db_ux; omega)
    obtain ⟨y1, y2⟩ := hY (by omega)
    exact rf_reckon1 l dC dI cI cZ m0 aMd aO1 aT2 aSh aMk aFa aDe aNe aBy aPi aNw aNs aBf ft vl rs pd rn rr aW v x y Md O1 T2 Rd inp nm sz hv em x1 x2 y1 y2
  · subst e
    obtain ⟨x1, x2⟩ := hX (by unfold db_ux; omega)
    obtain ⟨y1, y2⟩ := hY (by omega)
    exact rf_reckon2 l dC dI cI cZ m0 aMd aO1 aT2 aSh aMk aFa aDe aNe aBy aPi aNw aNs aBf ft vl rs pd rn rr aW v x y Md O1 T2 Rd inp nm sz hv em x1 x2 y1 y2
  · subst e
    obtain ⟨x1, x2⟩ := hX (by unfold db_ux; omega)
    obtain ⟨y1, y2⟩ := hY (by omega)
    exact rf_reckon3 l dC dI cI cZ m0 aMd aO1 aT2 aSh aMk aFa aDe aNe aBy aPi aNw aNs aBf ft vl rs pd rn rr aW v x y Md O1 T2 Rd inp nm sz hv em x1 x2 y1 y2
  · subst e
    obtain ⟨x1, x2⟩ := hX (by unfold db_ux; omega)
    obtain ⟨y1, y2⟩ := hY (by omega)
    exact rf_reckon4 l dC dI cI cZ m0 aMd aO1 aT2 aSh aMk aFa aDe aNe aBy aPi aNw aNs aBf ft vl rs pd rn rr aW v x y Md O1 T2 Rd inp nm sz hv em x1 x2 y1 y2
  · subst e
    obtain ⟨x1, x2⟩ := hX (by unfold db_ux; omega)
    obtain ⟨y1, y2⟩ := hY (by omega)
    exact rf_reckon5 l dC dI cI cZ m0 aMd aO1 aT2 aSh aMk aFa aDe aNe aBy aPi aNw aNs aBf ft vl rs pd rn rr aW v x y Md O1 T2 Rd inp nm sz hv em x1 x2 y1 y2
  · subst e
    obtain ⟨x1, x2⟩ := hX (by unfold db_ux; omega)
    exact rf_reckon6 l dC dI cI cZ m0 aMd aO1 aT2 aSh aMk aFa aDe aNe aBy aPi aNw aNs aBf ft vl rs pd rn rr aW v x y Md O1 T2 Rd inp nm sz hv em x1 x2 (hS (by unfold db_shift; omega))
  · subst e
    obtain ⟨x1, x2⟩ := hX (by unfold db_ux; omega)
    exact rf_reckon7 l dC dI cI cZ m0 aMd aO1 aT2 aSh aMk aFa aDe aNe aBy aPi aNw aNs aBf ft vl rs pd rn rr aW v x y Md O1 T2 Rd inp nm sz hv em x1 x2 (hS (by unfold db_shift; omega))
  · subst e
    obtain ⟨x1, x2⟩ := hX (by unfold db_ux; omega)
    exact rf_reckon8 l dC dI cI cZ m0 aMd aO1 aT2 aSh aMk aFa aDe aNe aBy aPi aNw aNs aBf ft vl rs pd rn rr aW v x y Md O1 T2 Rd inp nm sz hv em x1 x2 (hS (by unfold db_shift; omega))
  · subst e
    exact rf_reckon10 l dC dI cI cZ m0 aMd aO1 aT2 aSh aMk aFa aDe aNe aBy aPi aNw aNs aBf ft vl rs pd rn rr aW v x y Md O1 T2 Rd inp nm sz hv em (hO rfl)
  · subst e
    obtain ⟨x1, x2⟩ := hX (by unfold db_ux; omega)
    exact rf_reckon11 l dC dI cI cZ m0 aMd aO1 aT2 aSh aMk aFa aDe aNe aBy aPi aNw aNs aBf ft vl rs pd rn rr aW v x y Md O1 T2 Rd inp nm sz hv em x1 x2
  · subst e
    obtain ⟨x1, x2⟩ := hX (by unfold db_ux; omega)
    exact rf_reckon12 l dC dI cI cZ m0 aMd aO1 aT2 aSh aMk aFa aDe aNe aBy aPi aNw aNs aBf ft vl rs pd rn rr aW v x y Md O1 T2 Rd inp nm sz hv em x1 x2

