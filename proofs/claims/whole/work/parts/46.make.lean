set_option maxRecDepth 100000 in
set_option maxHeartbeats 4000000 in
theorem rf_make0 (l : Launch) (dC : Nat → ClassId) (dI : Nat → Nat → Nat) (cI cZ : ClassId) (m0 aMd aO1 aT2 aSh aMk aFa aDe aNe aBy aPi aNw aNs aBf n : Nat) (ft rs pd rn rr : Int32) (Md O1 T2 : Nat → Int32) (wh x9 y9 : Int32) (sz : Nat) (hn : n < 24) : Met l yM_make wsM_make { frames := 0, cells := 0, slots := 0, locals := 0 } (va_Pc [.ref m0, .int (0), .int (wh), .int (x9), .int (y9)] (dw_pre (dC, dI) vwCl [(m0, .inr (5, [.int (ft), .int (nI (n)), .ref aMd, .ref aO1, .ref aT2, .int (rs), .ref aSh, .ref aMk, .ref aFa, .ref aDe, .ref aNe, .ref aBy, .ref aPi, .int (pd), .ref aNw, .ref aNs, .ref aBf, .int (rn), .int (rr)])), (aMd, .inl (cI, 24, .inl (Md))), (aO1, .inl (cI, 24, .inl (O1))), (aT2, .inl (cI, 24, .inl (T2)))] [(cI, .int), (cZ, .boolean)] sz)) (va_Qi (fun (r : Int32) (u : Unit) => r = nI n) (fun u t => dw_post (dC, dI) vwCl [(m0, .inr (5, [.int (0), .int (nI (n + 1)), .ref aMd, .ref aO1, .ref aT2, .int (rs), .ref aSh, .ref aMk, .ref aFa, .ref aDe, .ref aNe, .ref aBy, .ref aPi, .int (pd), .ref aNw, .ref aNs, .ref aBf, .int (rn), .int (rr)])), (aMd, .inl (cI, 24, .inl (upd Md n wh))), (aO1, .inl (cI, 24, .inl (upd O1 n x9))), (aT2, .inl (cI, 24, .inl (upd T2 n y9)))] [(cI, .int), (cZ, .boolean)] (va_A [(m0, .inr (5, [.int (ft), .int (nI (n)), .ref aMd, .ref aO1, .ref aT2, .int (rs), .ref aSh, .ref aMk, .ref aFa, .ref aDe, .ref aNe, .ref aBy, .ref aPi, .int (pd), .ref aNw, .ref aNs, .ref aBf, .int (rn), .int (rr)])), (aMd, .inl (cI, 24, .inl (Md))), (aO1, .inl (cI, 24, .inl (O1))), (aT2, .inl (cI, 24, .inl (T2)))] sz) t) (va_A [(m0, .inr (5, [.int (ft), .int (nI (n)), .ref aMd, .ref aO1, .ref aT2, .int (rs), .ref aSh, .ref aMk, .ref aFa, .ref aDe, .ref aNe, .ref aBy, .ref aPi, .int (pd), .ref aNw, .ref aNs, .ref aBf, .int (rn), .int (rr)])), (aMd, .inl (cI, 24, .inl (Md))), (aO1, .inl (cI, 24, .inl (O1))), (aT2, .inl (cI, 24, .inl (T2)))] sz)) 0 0 (va_A [(m0, .inr (5, [.int (ft), .int (nI (n)), .ref aMd, .ref aO1, .ref aT2, .int (rs), .ref aSh, .ref aMk, .ref aFa, .ref aDe, .ref aNe, .ref aBy, .ref aPi, .int (pd), .ref aNw, .ref aNs, .ref aBf, .int (rn), .int (rr)])), (aMd, .inl (cI, 24, .inl (Md))), (aO1, .inl (cI, 24, .inl (O1))), (aT2, .inl (cI, 24, .inl (T2)))] sz) := by
  refine Met.ofW (cc := cM_make) (maxL := 5) (ret := (some .int)) (by decide) rfl ?_
  intro p e s m args below meth c s₁ B hml hv0
  have hx := B.exec
  have hb := B.bytes
  have hr := B.returns
  have hts := atoms_spec (ws := wsM_make) B.pre
  have hown : s.vm.findClass RM = some m.cls := findClass_of_methodNamed B.named
  have hlocks := B.notSynchronized
  obtain ⟨rfl, hsz, hG⟩ := dw_enter hv0
  generalize va_A [(m0, .inr (5, [.int (ft), .int (nI (n)), .ref aMd, .ref aO1, .ref aT2, .int (rs), .ref aSh, .ref aMk, .ref aFa, .ref aDe, .ref aNe, .ref aBy, .ref aPi, .int (pd), .ref aNw, .ref aNs, .ref aBf, .int (rn), .int (rr)])), (aMd, .inl (cI, 24, .inl (Md))), (aO1, .inl (cI, 24, .inl (O1))), (aT2, .inl (cI, 24, .inl (T2)))] sz = A at hG ⊢
  have hl := lv_entry ([.ref m0, .int (0), .int (wh), .int (x9), .int (y9)]) (n := 5) (Nat.le_of_ble_eq_true rfl)
  rw [lg_entry_eq]
  generalize (lg_sl ([.ref m0, .int (0), .int (wh), .int (x9), .int (y9)]) ++ List.replicate (5 - (lg_sl ([.ref m0, .int (0), .int (wh), .int (x9), .int (y9)])).length) Slot.unset).toArray = ls at hl ⊢
  have hl : lv_has ls 5 [(0, .ref m0), (1, .int (0)), (2, .int (wh)), (3, .int (x9)), (4, .int (y9))] := hl
  have hw494 := hts _ (List.mem_cons_of_mem _ tw_494)
  have hw496 := hts _ (List.mem_cons_of_mem _ tw_496)
  have hw495 := hts _ (List.mem_cons_of_mem _ tw_495)
  have hw497 := hts _ (List.mem_cons_of_mem _ tw_497)
  have hw498 := hts _ (List.mem_cons_of_mem _ tw_498)
  refine dw_Q (fun Q hQ => ?_)
  suffices hgo : ∀ (H : Heap) (locs : List Loc), dw_G (dC, dI) vwCl [(cI, .int), (cZ, .boolean)] A s.heap s [(m0, .inr (5, [.int (ft), .int (nI (n)), .ref aMd, .ref aO1, .ref aT2, .int (rs), .ref aSh, .ref aMk, .ref aFa, .ref aDe, .ref aNe, .ref aBy, .ref aPi, .int (pd), .ref aNw, .ref aNs, .ref aBf, .int (rn), .int (rr)])), (aMd, .inl (cI, 24, .inl (Md))), (aO1, .inl (cI, 24, .inl (O1))), (aT2, .inl (cI, 24, .inl (T2)))] H locs → W p l e (headSpec wsM_make { frames := 0, cells := 0, slots := 0, locals := 0 }).room s m [.ref m0, .int (0), .int (wh), .int (x9), .int (y9)].toArray below meth c H locs 0 0 Q (F0 m 0 ls []) from hgo _ _ hG
  clear hG
  intro H locs hG
  refine lv_aload_n hx hb dM_make_0 rfl (lv_at hl 0 rfl) ?_
  refine lv_iload_n hx hb dM_make_1 rfl (lv_at hl 1 rfl) ?_
  refine dw_put (ws' := [(m0, .inr (5, [.int (0), .int (nI (n)), .ref aMd, .ref aO1, .ref aT2, .int (rs), .ref aSh, .ref aMk, .ref aFa, .ref aDe, .ref aNe, .ref aBy, .ref aPi, .int (pd), .ref aNw, .ref aNs, .ref aBf, .int (rn), .int (rr)])), (aMd, .inl (cI, 24, .inl (Md))), (aO1, .inl (cI, 24, .inl (O1))), (aT2, .inl (cI, 24, .inl (T2)))]) hx hb hts inMc tyM tyM_ok nmM hown hG 0 0 rfl rfl (by decide) hw494 rfl rfl (ty := .int) (by decide +kernel) rfl rfl (Nat.le_of_ble_eq_true rfl) dM_make_2 rfl (fun H locs hG => ?_)
  refine lv_aload_n hx hb dM_make_5 rfl (lv_at hl 0 rfl) ?_
  refine dw_get hx hb hts inMc hown hG 0 0 rfl rfl (by decide) hw494 rfl rfl dM_make_6 ?_
  refine lv_if_le (tgt := 14) hx hb dM_make_9 (by decide) (fun h9 => ?_) (fun h9 => ?_)
  · skip
    replace h9 := (nI_leI (a := 0) (b := 0) (by omega) (by omega)).mp h9
    refine lv_aload_n hx hb dM_make_14 rfl (lv_at hl 0 rfl) ?_
    refine dw_get hx hb hts inMc hown hG 0 2 rfl rfl (by decide) hw496 rfl rfl dM_make_15 ?_
    refine lv_aload_n hx hb dM_make_18 rfl (lv_at hl 0 rfl) ?_
    refine dw_get hx hb hts inMc hown hG 0 1 rfl rfl (by decide) hw495 rfl rfl dM_make_19 ?_
    refine lv_iload_n hx hb dM_make_22 rfl (lv_at hl 2 rfl) ?_
    refine dw_is (ws' := [(m0, .inr (5, [.int (0), .int (nI (n)), .ref aMd, .ref aO1, .ref aT2, .int (rs), .ref aSh, .ref aMk, .ref aFa, .ref aDe, .ref aNe, .ref aBy, .ref aPi, .int (pd), .ref aNw, .ref aNs, .ref aBf, .int (rn), .int (rr)])), (aMd, .inl (cI, 24, .inl (upd (Md) (n) (wh)))), (aO1, .inl (cI, 24, .inl (O1))), (aT2, .inl (cI, 24, .inl (T2)))]) hx hb hG 1 0 rfl rfl (n) rfl (by omega) (by decide) dM_make_23 rfl (fun H locs hG => ?_)
    refine lv_aload_n hx hb dM_make_24 rfl (lv_at hl 0 rfl) ?_
    refine dw_get hx hb hts inMc hown hG 0 3 rfl rfl (by decide) hw497 rfl rfl dM_make_25 ?_
    refine lv_aload_n hx hb dM_make_28 rfl (lv_at hl 0 rfl) ?_
    refine dw_get hx hb hts inMc hown hG 0 1 rfl rfl (by decide) hw495 rfl rfl dM_make_29 ?_
    refine lv_iload_n hx hb dM_make_32 rfl (lv_at hl 3 rfl) ?_
    refine dw_is (ws' := [(m0, .inr (5, [.int (0), .int (nI (n)), .ref aMd, .ref aO1, .ref aT2, .int (rs), .ref aSh, .ref aMk, .ref aFa, .ref aDe, .ref aNe, .ref aBy, .ref aPi, .int (pd), .ref aNw, .ref aNs, .ref aBf, .int (rn), .int (rr)])), (aMd, .inl (cI, 24, .inl (upd (Md) (n) (wh)))), (aO1, .inl (cI, 24, .inl (upd (O1) (n) (x9)))), (aT2, .inl (cI, 24, .inl (T2)))]) hx hb hG 2 0 rfl rfl (n) rfl (by omega) (by decide) dM_make_33 rfl (fun H locs hG => ?_)
    refine lv_aload_n hx hb dM_make_34 rfl (lv_at hl 0 rfl) ?_
    refine dw_get hx hb hts inMc hown hG 0 4 rfl rfl (by decide) hw498 rfl rfl dM_make_35 ?_
    refine lv_aload_n hx hb dM_make_38 rfl (lv_at hl 0 rfl) ?_
    refine dw_get hx hb hts inMc hown hG 0 1 rfl rfl (by decide) hw495 rfl rfl dM_make_39 ?_
    refine lv_iload hx hb dM_make_42 (lv_at hl 4 rfl) ?_
    refine dw_is (ws' := [(m0, .inr (5, [.int (0), .int (nI (n)), .ref aMd, .ref aO1, .ref aT2, .int (rs), .ref aSh, .ref aMk, .ref aFa, .ref aDe, .ref aNe, .ref aBy, .ref aPi, .int (pd), .ref aNw, .ref aNs, .ref aBf, .int (rn), .int (rr)])), (aMd, .inl (cI, 24, .inl (upd (Md) (n) (wh)))), (aO1, .inl (cI, 24, .inl (upd (O1) (n) (x9)))), (aT2, .inl (cI, 24, .inl (upd (T2) (n) (y9))))]) hx hb hG 3 0 rfl rfl (n) rfl (by omega) (by decide) dM_make_44 rfl (fun H locs hG => ?_)
    refine lv_aload_n hx hb dM_make_45 rfl (lv_at hl 0 rfl) ?_
    refine lv_dup hx hb dM_make_46 rfl ?_
    refine dw_get hx hb hts inMc hown hG 0 1 rfl rfl (by decide) hw495 rfl rfl dM_make_47 ?_
    refine lv_iconst (v := 1) hx hb dM_make_50 (by decide) ?_
    refine lv_iadd hx hb dM_make_51 ?_
    refine lv_topi (nm_r (show ((nI (n)) + (1) : Int32) = nI (n + 1) from nI_add (n) (1)) ?_)
    refine dw_put (ws' := [(m0, .inr (5, [.int (0), .int (nI (n + 1)), .ref aMd, .ref aO1, .ref aT2, .int (rs), .ref aSh, .ref aMk, .ref aFa, .ref aDe, .ref aNe, .ref aBy, .ref aPi, .int (pd), .ref aNw, .ref aNs, .ref aBf, .int (rn), .int (rr)])), (aMd, .inl (cI, 24, .inl (upd (Md) (n) (wh)))), (aO1, .inl (cI, 24, .inl (upd (O1) (n) (x9)))), (aT2, .inl (cI, 24, .inl (upd (T2) (n) (y9))))]) hx hb hts inMc tyM tyM_ok nmM hown hG 0 1 rfl rfl (by decide) hw495 rfl rfl (ty := .int) (by decide +kernel) rfl rfl (Nat.le_of_ble_eq_true rfl) dM_make_52 rfl (fun H locs hG => ?_)
    refine lv_aload_n hx hb dM_make_55 rfl (lv_at hl 0 rfl) ?_
    refine dw_get hx hb hts inMc hown hG 0 1 rfl rfl (by decide) hw495 rfl rfl dM_make_56 ?_
    refine lv_iconst (v := 1) hx hb dM_make_59 (by decide) ?_
    refine lv_isub hx hb dM_make_60 ?_
    refine lv_topi (nm_r (show ((nI (n + 1)) - (1) : Int32) = nI (n) from (nI_pred n)) ?_)
    subst hQ
    exact dw_iret hx hb hr hG (()) rfl rfl dM_make_61 hlocks
  replace h9 : ¬ 0 ≤ 0 := fun hq0 => h9 ((nI_leI (a := 0) (b := 0) (by omega) (by omega)).mpr hq0)
  (exfalso; omega)

set_option maxRecDepth 100000 in
set_option maxHeartbeats 4000000 in
theorem rf_makeW1 (l : Launch) (dC : Nat → ClassId) (dI : Nat → Nat → Nat) (cI cZ : ClassId) (m0 aMd aO1 aT2 aSh aMk aFa aDe aNe aBy aPi aNw aNs aBf n : Nat) (ft rs pd rn rr : Int32) (Md O1 T2 : Nat → Int32) (wh x9 y9 : Int32) (sz : Nat)  : Met l yM_make wsM_make { frames := 0, cells := 0, slots := 0, locals := 0 } (va_Pc [.ref m0, .int (1), .int (wh), .int (x9), .int (y9)] (dw_pre (dC, dI) vwCl [(m0, .inr (5, [.int (ft), .int (nI (n)), .ref aMd, .ref aO1, .ref aT2, .int (rs), .ref aSh, .ref aMk, .ref aFa, .ref aDe, .ref aNe, .ref aBy, .ref aPi, .int (pd), .ref aNw, .ref aNs, .ref aBf, .int (rn), .int (rr)])), (aMd, .inl (cI, 24, .inl (Md))), (aO1, .inl (cI, 24, .inl (O1))), (aT2, .inl (cI, 24, .inl (T2)))] [(cI, .int), (cZ, .boolean)] sz)) (va_Qi (fun (r : Int32) (u : Unit) => r = 0) (fun u t => dw_post (dC, dI) vwCl [(m0, .inr (5, [.int (1), .int (nI (n)), .ref aMd, .ref aO1, .ref aT2, .int (rs), .ref aSh, .ref aMk, .ref aFa, .ref aDe, .ref aNe, .ref aBy, .ref aPi, .int (pd), .ref aNw, .ref aNs, .ref aBf, .int (rn), .int (rr)])), (aMd, .inl (cI, 24, .inl (Md))), (aO1, .inl (cI, 24, .inl (O1))), (aT2, .inl (cI, 24, .inl (T2)))] [(cI, .int), (cZ, .boolean)] (va_A [(m0, .inr (5, [.int (ft), .int (nI (n)), .ref aMd, .ref aO1, .ref aT2, .int (rs), .ref aSh, .ref aMk, .ref aFa, .ref aDe, .ref aNe, .ref aBy, .ref aPi, .int (pd), .ref aNw, .ref aNs, .ref aBf, .int (rn), .int (rr)])), (aMd, .inl (cI, 24, .inl (Md))), (aO1, .inl (cI, 24, .inl (O1))), (aT2, .inl (cI, 24, .inl (T2)))] sz) t) (va_A [(m0, .inr (5, [.int (ft), .int (nI (n)), .ref aMd, .ref aO1, .ref aT2, .int (rs), .ref aSh, .ref aMk, .ref aFa, .ref aDe, .ref aNe, .ref aBy, .ref aPi, .int (pd), .ref aNw, .ref aNs, .ref aBf, .int (rn), .int (rr)])), (aMd, .inl (cI, 24, .inl (Md))), (aO1, .inl (cI, 24, .inl (O1))), (aT2, .inl (cI, 24, .inl (T2)))] sz)) 0 0 (va_A [(m0, .inr (5, [.int (ft), .int (nI (n)), .ref aMd, .ref aO1, .ref aT2, .int (rs), .ref aSh, .ref aMk, .ref aFa, .ref aDe, .ref aNe, .ref aBy, .ref aPi, .int (pd), .ref aNw, .ref aNs, .ref aBf, .int (rn), .int (rr)])), (aMd, .inl (cI, 24, .inl (Md))), (aO1, .inl (cI, 24, .inl (O1))), (aT2, .inl (cI, 24, .inl (T2)))] sz) := by
  refine Met.ofW (cc := cM_make) (maxL := 5) (ret := (some .int)) (by decide) rfl ?_
  intro p e s m args below meth c s₁ B hml hv0
  have hx := B.exec
  have hb := B.bytes
  have hr := B.returns
  have hts := atoms_spec (ws := wsM_make) B.pre
  have hown : s.vm.findClass RM = some m.cls := findClass_of_methodNamed B.named
  have hlocks := B.notSynchronized
  obtain ⟨rfl, hsz, hG⟩ := dw_enter hv0
  generalize va_A [(m0, .inr (5, [.int (ft), .int (nI (n)), .ref aMd, .ref aO1, .ref aT2, .int (rs), .ref aSh, .ref aMk, .ref aFa, .ref aDe, .ref aNe, .ref aBy, .ref aPi, .int (pd), .ref aNw, .ref aNs, .ref aBf, .int (rn), .int (rr)])), (aMd, .inl (cI, 24, .inl (Md))), (aO1, .inl (cI, 24, .inl (O1))), (aT2, .inl (cI, 24, .inl (T2)))] sz = A at hG ⊢
  have hl := lv_entry ([.ref m0, .int (1), .int (wh), .int (x9), .int (y9)]) (n := 5) (Nat.le_of_ble_eq_true rfl)
  rw [lg_entry_eq]
  generalize (lg_sl ([.ref m0, .int (1), .int (wh), .int (x9), .int (y9)]) ++ List.replicate (5 - (lg_sl ([.ref m0, .int (1), .int (wh), .int (x9), .int (y9)])).length) Slot.unset).toArray = ls at hl ⊢
  have hl : lv_has ls 5 [(0, .ref m0), (1, .int (1)), (2, .int (wh)), (3, .int (x9)), (4, .int (y9))] := hl
  have hw494 := hts _ (List.mem_cons_of_mem _ tw_494)
  refine dw_Q (fun Q hQ => ?_)
  suffices hgo : ∀ (H : Heap) (locs : List Loc), dw_G (dC, dI) vwCl [(cI, .int), (cZ, .boolean)] A s.heap s [(m0, .inr (5, [.int (ft), .int (nI (n)), .ref aMd, .ref aO1, .ref aT2, .int (rs), .ref aSh, .ref aMk, .ref aFa, .ref aDe, .ref aNe, .ref aBy, .ref aPi, .int (pd), .ref aNw, .ref aNs, .ref aBf, .int (rn), .int (rr)])), (aMd, .inl (cI, 24, .inl (Md))), (aO1, .inl (cI, 24, .inl (O1))), (aT2, .inl (cI, 24, .inl (T2)))] H locs → W p l e (headSpec wsM_make { frames := 0, cells := 0, slots := 0, locals := 0 }).room s m [.ref m0, .int (1), .int (wh), .int (x9), .int (y9)].toArray below meth c H locs 0 0 Q (F0 m 0 ls []) from hgo _ _ hG
  clear hG
  intro H locs hG
  refine lv_aload_n hx hb dM_make_0 rfl (lv_at hl 0 rfl) ?_
  refine lv_iload_n hx hb dM_make_1 rfl (lv_at hl 1 rfl) ?_
  refine dw_put (ws' := [(m0, .inr (5, [.int (1), .int (nI (n)), .ref aMd, .ref aO1, .ref aT2, .int (rs), .ref aSh, .ref aMk, .ref aFa, .ref aDe, .ref aNe, .ref aBy, .ref aPi, .int (pd), .ref aNw, .ref aNs, .ref aBf, .int (rn), .int (rr)])), (aMd, .inl (cI, 24, .inl (Md))), (aO1, .inl (cI, 24, .inl (O1))), (aT2, .inl (cI, 24, .inl (T2)))]) hx hb hts inMc tyM tyM_ok nmM hown hG 0 0 rfl rfl (by decide) hw494 rfl rfl (ty := .int) (by decide +kernel) rfl rfl (Nat.le_of_ble_eq_true rfl) dM_make_2 rfl (fun H locs hG => ?_)
  refine lv_aload_n hx hb dM_make_5 rfl (lv_at hl 0 rfl) ?_
  refine dw_get hx hb hts inMc hown hG 0 0 rfl rfl (by decide) hw494 rfl rfl dM_make_6 ?_
  refine lv_if_le (tgt := 14) hx hb dM_make_9 (by decide) (fun h9 => ?_) (fun h9 => ?_)
  · skip
    replace h9 := (nI_leI (a := 1) (b := 0) (by omega) (by omega)).mp h9
    (exfalso; omega)
  replace h9 : ¬ 1 ≤ 0 := fun hq0 => h9 ((nI_leI (a := 1) (b := 0) (by omega) (by omega)).mpr hq0)
  refine lv_iconst (v := 0) hx hb dM_make_12 (by decide) ?_
  subst hQ
  exact dw_iret hx hb hr hG (()) rfl rfl dM_make_13 hlocks

set_option maxRecDepth 100000 in
set_option maxHeartbeats 4000000 in
theorem rf_makeW2 (l : Launch) (dC : Nat → ClassId) (dI : Nat → Nat → Nat) (cI cZ : ClassId) (m0 aMd aO1 aT2 aSh aMk aFa aDe aNe aBy aPi aNw aNs aBf n : Nat) (ft rs pd rn rr : Int32) (Md O1 T2 : Nat → Int32) (wh x9 y9 : Int32) (sz : Nat)  : Met l yM_make wsM_make { frames := 0, cells := 0, slots := 0, locals := 0 } (va_Pc [.ref m0, .int (2), .int (wh), .int (x9), .int (y9)] (dw_pre (dC, dI) vwCl [(m0, .inr (5, [.int (ft), .int (nI (n)), .ref aMd, .ref aO1, .ref aT2, .int (rs), .ref aSh, .ref aMk, .ref aFa, .ref aDe, .ref aNe, .ref aBy, .ref aPi, .int (pd), .ref aNw, .ref aNs, .ref aBf, .int (rn), .int (rr)])), (aMd, .inl (cI, 24, .inl (Md))), (aO1, .inl (cI, 24, .inl (O1))), (aT2, .inl (cI, 24, .inl (T2)))] [(cI, .int), (cZ, .boolean)] sz)) (va_Qi (fun (r : Int32) (u : Unit) => r = 0) (fun u t => dw_post (dC, dI) vwCl [(m0, .inr (5, [.int (2), .int (nI (n)), .ref aMd, .ref aO1, .ref aT2, .int (rs), .ref aSh, .ref aMk, .ref aFa, .ref aDe, .ref aNe, .ref aBy, .ref aPi, .int (pd), .ref aNw, .ref aNs, .ref aBf, .int (rn), .int (rr)])), (aMd, .inl (cI, 24, .inl (Md))), (aO1, .inl (cI, 24, .inl (O1))), (aT2, .inl (cI, 24, .inl (T2)))] [(cI, .int), (cZ, .boolean)] (va_A [(m0, .inr (5, [.int (ft), .int (nI (n)), .ref aMd, .ref aO1, .ref aT2, .int (rs), .ref aSh, .ref aMk, .ref aFa, .ref aDe, .ref aNe, .ref aBy, .ref aPi, .int (pd), .ref aNw, .ref aNs, .ref aBf, .int (rn), .int (rr)])), (aMd, .inl (cI, 24, .inl (Md))), (aO1, .inl (cI, 24, .inl (O1))), (aT2, .inl (cI, 24, .inl (T2)))] sz) t) (va_A [(m0, .inr (5, [.int (ft), .int (nI (n)), .ref aMd, .ref aO1, .ref aT2, .int (rs), .ref aSh, .ref aMk, .ref aFa, .ref aDe, .ref aNe, .ref aBy, .ref aPi, .int (pd), .ref aNw, .ref aNs, .ref aBf, .int (rn), .int (rr)])), (aMd, .inl (cI, 24, .inl (Md))), (aO1, .inl (cI, 24, .inl (O1))), (aT2, .inl (cI, 24, .inl (T2)))] sz)) 0 0 (va_A [(m0, .inr (5, [.int (ft), .int (nI (n)), .ref aMd, .ref aO1, .ref aT2, .int (rs), .ref aSh, .ref aMk, .ref aFa, .ref aDe, .ref aNe, .ref aBy, .ref aPi, .int (pd), .ref aNw, .ref aNs, .ref aBf, .int (rn), .int (rr)])), (aMd, .inl (cI, 24, .inl (Md))), (aO1, .inl (cI, 24, .inl (O1))), (aT2, .inl (cI, 24, .inl (T2)))] sz) := by
  refine Met.ofW (cc := cM_make) (maxL := 5) (ret := (some .int)) (by decide) rfl ?_
  intro p e s m args below meth c s₁ B hml hv0
  have hx := B.exec
  have hb := B.bytes
  have hr := B.returns
  have hts := atoms_spec (ws := wsM_make) B.pre
  have hown : s.vm.findClass RM = some m.cls := findClass_of_methodNamed B.named
  have hlocks := B.notSynchronized
  obtain ⟨rfl, hsz, hG⟩ := dw_enter hv0
  generalize va_A [(m0, .inr (5, [.int (ft), .int (nI (n)), .ref aMd, .ref aO1, .ref aT2, .int (rs), .ref aSh, .ref aMk, .ref aFa, .ref aDe, .ref aNe, .ref aBy, .ref aPi, .int (pd), .ref aNw, .ref aNs, .ref aBf, .int (rn), .int (rr)])), (aMd, .inl (cI, 24, .inl (Md))), (aO1, .inl (cI, 24, .inl (O1))), (aT2, .inl (cI, 24, .inl (T2)))] sz = A at hG ⊢
  have hl := lv_entry ([.ref m0, .int (2), .int (wh), .int (x9), .int (y9)]) (n := 5) (Nat.le_of_ble_eq_true rfl)
  rw [lg_entry_eq]
  generalize (lg_sl ([.ref m0, .int (2), .int (wh), .int (x9), .int (y9)]) ++ List.replicate (5 - (lg_sl ([.ref m0, .int (2), .int (wh), .int (x9), .int (y9)])).length) Slot.unset).toArray = ls at hl ⊢
  have hl : lv_has ls 5 [(0, .ref m0), (1, .int (2)), (2, .int (wh)), (3, .int (x9)), (4, .int (y9))] := hl
  have hw494 := hts _ (List.mem_cons_of_mem _ tw_494)
  refine dw_Q (fun Q hQ => ?_)
  suffices hgo : ∀ (H : Heap) (locs : List Loc), dw_G (dC, dI) vwCl [(cI, .int), (cZ, .boolean)] A s.heap s [(m0, .inr (5, [.int (ft), .int (nI (n)), .ref aMd, .ref aO1, .ref aT2, .int (rs), .ref aSh, .ref aMk, .ref aFa, .ref aDe, .ref aNe, .ref aBy, .ref aPi, .int (pd), .ref aNw, .ref aNs, .ref aBf, .int (rn), .int (rr)])), (aMd, .inl (cI, 24, .inl (Md))), (aO1, .inl (cI, 24, .inl (O1))), (aT2, .inl (cI, 24, .inl (T2)))] H locs → W p l e (headSpec wsM_make { frames := 0, cells := 0, slots := 0, locals := 0 }).room s m [.ref m0, .int (2), .int (wh), .int (x9), .int (y9)].toArray below meth c H locs 0 0 Q (F0 m 0 ls []) from hgo _ _ hG
  clear hG
  intro H locs hG
  refine lv_aload_n hx hb dM_make_0 rfl (lv_at hl 0 rfl) ?_
  refine lv_iload_n hx hb dM_make_1 rfl (lv_at hl 1 rfl) ?_
  refine dw_put (ws' := [(m0, .inr (5, [.int (2), .int (nI (n)), .ref aMd, .ref aO1, .ref aT2, .int (rs), .ref aSh, .ref aMk, .ref aFa, .ref aDe, .ref aNe, .ref aBy, .ref aPi, .int (pd), .ref aNw, .ref aNs, .ref aBf, .int (rn), .int (rr)])), (aMd, .inl (cI, 24, .inl (Md))), (aO1, .inl (cI, 24, .inl (O1))), (aT2, .inl (cI, 24, .inl (T2)))]) hx hb hts inMc tyM tyM_ok nmM hown hG 0 0 rfl rfl (by decide) hw494 rfl rfl (ty := .int) (by decide +kernel) rfl rfl (Nat.le_of_ble_eq_true rfl) dM_make_2 rfl (fun H locs hG => ?_)
  refine lv_aload_n hx hb dM_make_5 rfl (lv_at hl 0 rfl) ?_
  refine dw_get hx hb hts inMc hown hG 0 0 rfl rfl (by decide) hw494 rfl rfl dM_make_6 ?_
  refine lv_if_le (tgt := 14) hx hb dM_make_9 (by decide) (fun h9 => ?_) (fun h9 => ?_)
  · skip
    replace h9 := (nI_leI (a := 2) (b := 0) (by omega) (by omega)).mp h9
    (exfalso; omega)
  replace h9 : ¬ 2 ≤ 0 := fun hq0 => h9 ((nI_leI (a := 2) (b := 0) (by omega) (by omega)).mpr hq0)
  refine lv_iconst (v := 0) hx hb dM_make_12 (by decide) ?_
  subst hQ
  exact dw_iret hx hb hr hG (()) rfl rfl dM_make_13 hlocks

set_option maxRecDepth 100000 in
set_option maxHeartbeats 4000000 in
theorem rf_makeW3 (l : Launch) (dC : Nat → ClassId) (dI : Nat → Nat → Nat) (cI cZ : ClassId) (m0 aMd aO1 aT2 aSh aMk aFa aDe aNe aBy aPi aNw aNs aBf n : Nat) (ft rs pd rn rr : Int32) (Md O1 T2 : Nat → Int32) (wh x9 y9 : Int32) (sz : Nat)  : Met l yM_make wsM_make { frames := 0, cells := 0, slots := 0, locals := 0 } (va_Pc [.ref m0, .int (3), .int (wh), .int (x9), .int (y9)] (dw_pre (dC, dI) vwCl [(m0, .inr (5, [.int (ft), .int (nI (n)), .ref aMd, .ref aO1, .ref aT2, .int (rs), .ref aSh, .ref aMk, .ref aFa, .ref aDe, .ref aNe, .ref aBy, .ref aPi, .int (pd), .ref aNw, .ref aNs, .ref aBf, .int (rn), .int (rr)])), (aMd, .inl (cI, 24, .inl (Md))), (aO1, .inl (cI, 24, .inl (O1))), (aT2, .inl (cI, 24, .inl (T2)))] [(cI, .int), (cZ, .boolean)] sz)) (va_Qi (fun (r : Int32) (u : Unit) => r = 0) (fun u t => dw_post (dC, dI) vwCl [(m0, .inr (5, [.int (3), .int (nI (n)), .ref aMd, .ref aO1, .ref aT2, .int (rs), .ref aSh, .ref aMk, .ref aFa, .ref aDe, .ref aNe, .ref aBy, .ref aPi, .int (pd), .ref aNw, .ref aNs, .ref aBf, .int (rn), .int (rr)])), (aMd, .inl (cI, 24, .inl (Md))), (aO1, .inl (cI, 24, .inl (O1))), (aT2, .inl (cI, 24, .inl (T2)))] [(cI, .int), (cZ, .boolean)] (va_A [(m0, .inr (5, [.int (ft), .int (nI (n)), .ref aMd, .ref aO1, .ref aT2, .int (rs), .ref aSh, .ref aMk, .ref aFa, .ref aDe, .ref aNe, .ref aBy, .ref aPi, .int (pd), .ref aNw, .ref aNs, .ref aBf, .int (rn), .int (rr)])), (aMd, .inl (cI, 24, .inl (Md))), (aO1, .inl (cI, 24, .inl (O1))), (aT2, .inl (cI, 24, .inl (T2)))] sz) t) (va_A [(m0, .inr (5, [.int (ft), .int (nI (n)), .ref aMd, .ref aO1, .ref aT2, .int (rs), .ref aSh, .ref aMk, .ref aFa, .ref aDe, .ref aNe, .ref aBy, .ref aPi, .int (pd), .ref aNw, .ref aNs, .ref aBf, .int (rn), .int (rr)])), (aMd, .inl (cI, 24, .inl (Md))), (aO1, .inl (cI, 24, .inl (O1))), (aT2, .inl (cI, 24, .inl (T2)))] sz)) 0 0 (va_A [(m0, .inr (5, [.int (ft), .int (nI (n)), .ref aMd, .ref aO1, .ref aT2, .int (rs), .ref aSh, .ref aMk, .ref aFa, .ref aDe, .ref aNe, .ref aBy, .ref aPi, .int (pd), .ref aNw, .ref aNs, .ref aBf, .int (rn), .int (rr)])), (aMd, .inl (cI, 24, .inl (Md))), (aO1, .inl (cI, 24, .inl (O1))), (aT2, .inl (cI, 24, .inl (T2)))] sz) := by
  refine Met.ofW (cc := cM_make) (maxL := 5) (ret := (some .int)) (by decide) rfl ?_
  intro p e s m args below meth c s₁ B hml hv0
  have hx := B.exec
  have hb := B.bytes
  have hr := B.returns
  have hts := atoms_spec (ws := wsM_make) B.pre
  have hown : s.vm.findClass RM = some m.cls := findClass_of_methodNamed B.named
  have hlocks := B.notSynchronized
  obtain ⟨rfl, hsz, hG⟩ := dw_enter hv0
  generalize va_A [(m0, .inr (5, [.int (ft), .int (nI (n)), .ref aMd, .ref aO1, .ref aT2, .int (rs), .ref aSh, .ref aMk, .ref aFa, .ref aDe, .ref aNe, .ref aBy, .ref aPi, .int (pd), .ref aNw, .ref aNs, .ref aBf, .int (rn), .int (rr)])), (aMd, .inl (cI, 24, .inl (Md))), (aO1, .inl (cI, 24, .inl (O1))), (aT2, .inl (cI, 24, .inl (T2)))] sz = A at hG ⊢
  have hl := lv_entry ([.ref m0, .int (3), .int (wh), .int (x9), .int (y9)]) (n := 5) (Nat.le_of_ble_eq_true rfl)
  rw [lg_entry_eq]
  generalize (lg_sl ([.ref m0, .int (3), .int (wh), .int (x9), .int (y9)]) ++ List.replicate (5 - (lg_sl ([.ref m0, .int (3), .int (wh), .int (x9), .int (y9)])).length) Slot.unset).toArray = ls at hl ⊢
  have hl : lv_has ls 5 [(0, .ref m0), (1, .int (3)), (2, .int (wh)), (3, .int (x9)), (4, .int (y9))] := hl
  have hw494 := hts _ (List.mem_cons_of_mem _ tw_494)
  refine dw_Q (fun Q hQ => ?_)
  suffices hgo : ∀ (H : Heap) (locs : List Loc), dw_G (dC, dI) vwCl [(cI, .int), (cZ, .boolean)] A s.heap s [(m0, .inr (5, [.int (ft), .int (nI (n)), .ref aMd, .ref aO1, .ref aT2, .int (rs), .ref aSh, .ref aMk, .ref aFa, .ref aDe, .ref aNe, .ref aBy, .ref aPi, .int (pd), .ref aNw, .ref aNs, .ref aBf, .int (rn), .int (rr)])), (aMd, .inl (cI, 24, .inl (Md))), (aO1, .inl (cI, 24, .inl (O1))), (aT2, .inl (cI, 24, .inl (T2)))] H locs → W p l e (headSpec wsM_make { frames := 0, cells := 0, slots := 0, locals := 0 }).room s m [.ref m0, .int (3), .int (wh), .int (x9), .int (y9)].toArray below meth c H locs 0 0 Q (F0 m 0 ls []) from hgo _ _ hG
  clear hG
  intro H locs hG
  refine lv_aload_n hx hb dM_make_0 rfl (lv_at hl 0 rfl) ?_
  refine lv_iload_n hx hb dM_make_1 rfl (lv_at hl 1 rfl) ?_
  refine dw_put (ws' := [(m0, .inr (5, [.int (3), .int (nI (n)), .ref aMd, .ref aO1, .ref aT2, .int (rs), .ref aSh, .ref aMk, .ref aFa, .ref aDe, .ref aNe, .ref aBy, .ref aPi, .int (pd), .ref aNw, .ref aNs, .ref aBf, .int (rn), .int (rr)])), (aMd, .inl (cI, 24, .inl (Md))), (aO1, .inl (cI, 24, .inl (O1))), (aT2, .inl (cI, 24, .inl (T2)))]) hx hb hts inMc tyM tyM_ok nmM hown hG 0 0 rfl rfl (by decide) hw494 rfl rfl (ty := .int) (by decide +kernel) rfl rfl (Nat.le_of_ble_eq_true rfl) dM_make_2 rfl (fun H locs hG => ?_)
  refine lv_aload_n hx hb dM_make_5 rfl (lv_at hl 0 rfl) ?_
  refine dw_get hx hb hts inMc hown hG 0 0 rfl rfl (by decide) hw494 rfl rfl dM_make_6 ?_
  refine lv_if_le (tgt := 14) hx hb dM_make_9 (by decide) (fun h9 => ?_) (fun h9 => ?_)
  · skip
    replace h9 := (nI_leI (a := 3) (b := 0) (by omega) (by omega)).mp h9
    (exfalso; omega)
  replace h9 : ¬ 3 ≤ 0 := fun hq0 => h9 ((nI_leI (a := 3) (b := 0) (by omega) (by omega)).mpr hq0)
  refine lv_iconst (v := 0) hx hb dM_make_12 (by decide) ?_
  subst hQ
  exact dw_iret hx hb hr hG (()) rfl rfl dM_make_13 hlocks

