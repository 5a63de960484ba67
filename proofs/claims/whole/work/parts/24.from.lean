set_option maxRecDepth 100000 in
set_option maxHeartbeats 4000000 in
theorem rf_from6 (l : Launch) (dC : Nat → ClassId) (dI : Nat → Nat → Nat) (cI cZ : ClassId) (m0 aMd aO1 aT2 aSh aMk aFa aDe aNe aBy aPi aNw aNs aBf : Nat) (ft vl rs pd rn rr : Int32) (v x k : Nat) (dd : Nat) (Md O1 T2 Fa : Nat → Int32) (zx ox zy oy : Int32) (sz : Nat) (hv : v < 24) (hxv : x < v) (hk : k < 32) (em : Md v = nI 6) (e1 : O1 v = nI x) (hfx : db_rep Fa x zx ox) (hdd : dd < 32) (e2 : T2 v = nI dd) : Met l yM_from wsM_from { frames := 0, cells := 0, slots := 0, locals := 0 } (va_Pc [.ref m0, .int (nI (v)), .int (nI (k))] (dw_pre (dC, dI) vwCl [(m0, .inr (5, [.int (ft), .int (vl), .ref aMd, .ref aO1, .ref aT2, .int (rs), .ref aSh, .ref aMk, .ref aFa, .ref aDe, .ref aNe, .ref aBy, .ref aPi, .int (pd), .ref aNw, .ref aNs, .ref aBf, .int (rn), .int (rr)])), (aMd, .inl (cI, 24, .inl (Md))), (aO1, .inl (cI, 24, .inl (O1))), (aT2, .inl (cI, 24, .inl (T2))), (aFa, .inl (cI, 768, .inl (Fa)))] [(cI, .int), (cZ, .boolean)] sz)) (va_Qi (fun (r : Int32) (u : Unit) => r = db_tri (bt (db_F 6 (nI dd) zx ox zy oy 0 0).1 k) (bt (db_F 6 (nI dd) zx ox zy oy 0 0).2 k)) (fun u t => dw_post (dC, dI) vwCl [(m0, .inr (5, [.int (ft), .int (vl), .ref aMd, .ref aO1, .ref aT2, .int (rs), .ref aSh, .ref aMk, .ref aFa, .ref aDe, .ref aNe, .ref aBy, .ref aPi, .int (pd), .ref aNw, .ref aNs, .ref aBf, .int (rn), .int (rr)])), (aMd, .inl (cI, 24, .inl (Md))), (aO1, .inl (cI, 24, .inl (O1))), (aT2, .inl (cI, 24, .inl (T2))), (aFa, .inl (cI, 768, .inl (Fa)))] [(cI, .int), (cZ, .boolean)] (va_A [(m0, .inr (5, [.int (ft), .int (vl), .ref aMd, .ref aO1, .ref aT2, .int (rs), .ref aSh, .ref aMk, .ref aFa, .ref aDe, .ref aNe, .ref aBy, .ref aPi, .int (pd), .ref aNw, .ref aNs, .ref aBf, .int (rn), .int (rr)])), (aMd, .inl (cI, 24, .inl (Md))), (aO1, .inl (cI, 24, .inl (O1))), (aT2, .inl (cI, 24, .inl (T2))), (aFa, .inl (cI, 768, .inl (Fa)))] sz) t) (va_A [(m0, .inr (5, [.int (ft), .int (vl), .ref aMd, .ref aO1, .ref aT2, .int (rs), .ref aSh, .ref aMk, .ref aFa, .ref aDe, .ref aNe, .ref aBy, .ref aPi, .int (pd), .ref aNw, .ref aNs, .ref aBf, .int (rn), .int (rr)])), (aMd, .inl (cI, 24, .inl (Md))), (aO1, .inl (cI, 24, .inl (O1))), (aT2, .inl (cI, 24, .inl (T2))), (aFa, .inl (cI, 768, .inl (Fa)))] sz)) 0 0 (va_A [(m0, .inr (5, [.int (ft), .int (vl), .ref aMd, .ref aO1, .ref aT2, .int (rs), .ref aSh, .ref aMk, .ref aFa, .ref aDe, .ref aNe, .ref aBy, .ref aPi, .int (pd), .ref aNw, .ref aNs, .ref aBf, .int (rn), .int (rr)])), (aMd, .inl (cI, 24, .inl (Md))), (aO1, .inl (cI, 24, .inl (O1))), (aT2, .inl (cI, 24, .inl (T2))), (aFa, .inl (cI, 768, .inl (Fa)))] sz) := by
  refine Met.ofW (cc := cM_from) (maxL := 5) (ret := (some .int)) (by decide) rfl ?_
  intro p e s m args below meth c s₁ B hml hv0
  have hx := B.exec
  have hb := B.bytes
  have hr := B.returns
  have hts := atoms_spec (ws := wsM_from) B.pre
  have hown : s.vm.findClass RM = some m.cls := findClass_of_methodNamed B.named
  have hlocks := B.notSynchronized
  obtain ⟨rfl, hsz, hG⟩ := dw_enter hv0
  generalize va_A [(m0, .inr (5, [.int (ft), .int (vl), .ref aMd, .ref aO1, .ref aT2, .int (rs), .ref aSh, .ref aMk, .ref aFa, .ref aDe, .ref aNe, .ref aBy, .ref aPi, .int (pd), .ref aNw, .ref aNs, .ref aBf, .int (rn), .int (rr)])), (aMd, .inl (cI, 24, .inl (Md))), (aO1, .inl (cI, 24, .inl (O1))), (aT2, .inl (cI, 24, .inl (T2))), (aFa, .inl (cI, 768, .inl (Fa)))] sz = A at hG ⊢
  have hl := lv_entry ([.ref m0, .int (nI (v)), .int (nI (k))]) (n := 5) (Nat.le_of_ble_eq_true rfl)
  rw [lg_entry_eq]
  generalize (lg_sl ([.ref m0, .int (nI (v)), .int (nI (k))]) ++ List.replicate (5 - (lg_sl ([.ref m0, .int (nI (v)), .int (nI (k))])).length) Slot.unset).toArray = ls at hl ⊢
  have hl : lv_has ls 5 [(0, .ref m0), (1, .int (nI (v))), (2, .int (nI (k)))] := hl
  have hw497 := hts _ (List.mem_cons_of_mem _ tw_497)
  have hw498 := hts _ (List.mem_cons_of_mem _ tw_498)
  have hw496 := hts _ (List.mem_cons_of_mem _ tw_496)
  have hw502 := hts _ (List.mem_cons_of_mem _ tw_502)
  refine dw_Q (fun Q hQ => ?_)
  suffices hgo : ∀ (H : Heap) (locs : List Loc), dw_G (dC, dI) vwCl [(cI, .int), (cZ, .boolean)] A s.heap s [(m0, .inr (5, [.int (ft), .int (vl), .ref aMd, .ref aO1, .ref aT2, .int (rs), .ref aSh, .ref aMk, .ref aFa, .ref aDe, .ref aNe, .ref aBy, .ref aPi, .int (pd), .ref aNw, .ref aNs, .ref aBf, .int (rn), .int (rr)])), (aMd, .inl (cI, 24, .inl (Md))), (aO1, .inl (cI, 24, .inl (O1))), (aT2, .inl (cI, 24, .inl (T2))), (aFa, .inl (cI, 768, .inl (Fa)))] H locs → W p l e (headSpec wsM_from { frames := 0, cells := 0, slots := 0, locals := 0 }).room s m [.ref m0, .int (nI (v)), .int (nI (k))].toArray below meth c H locs 0 0 Q (F0 m 0 ls []) from hgo _ _ hG
  clear hG
  intro H locs hG
  refine lv_bipush (v := 32) hx hb dM_from_0 (by decide) ?_
  refine lv_aload_n hx hb dM_from_2 rfl (lv_at hl 0 rfl) ?_
  refine dw_get hx hb hts inMc hown hG 0 3 rfl rfl (by decide) hw497 rfl rfl dM_from_3 ?_
  refine lv_iload_n hx hb dM_from_6 rfl (lv_at hl 1 rfl) ?_
  refine dw_ia (x := nI (x)) hx hb hG 2 0 rfl rfl (v) rfl (by omega) (by decide) e1 dM_from_7 ?_
  refine lv_imul hx hb dM_from_8 ?_
  refine lv_topi (nm_r (pk_mul (32) (x)) ?_)
  refine lv_istore_n (lv' := [(3, .int (nI (32 * (x)))), (0, .ref m0), (1, .int (nI (v))), (2, .int (nI (k)))]) hx hb dM_from_9 rfl hl (by decide) rfl (fun ls hl => ?_)
  refine lv_aload_n hx hb dM_from_10 rfl (lv_at hl 1 rfl) ?_
  refine dw_get hx hb hts inMc hown hG 0 4 rfl rfl (by decide) hw498 rfl rfl dM_from_11 ?_
  refine lv_iload_n hx hb dM_from_14 rfl (lv_at hl 2 rfl) ?_
  refine dw_ia (x := nI (dd)) hx hb hG 3 0 rfl rfl (v) rfl (by omega) (by decide) e2 dM_from_15 ?_
  refine lv_istore (lv' := [(4, .int (nI (dd))), (3, .int (nI (32 * (x)))), (0, .ref m0), (1, .int (nI (v))), (2, .int (nI (k)))]) hx hb dM_from_16 hl (by decide) rfl (fun ls hl => ?_)
  refine lv_aload_n hx hb dM_from_18 rfl (lv_at hl 2 rfl) ?_
  refine dw_get hx hb hts inMc hown hG 0 2 rfl rfl (by decide) hw496 rfl rfl dM_from_19 ?_
  refine lv_iload_n hx hb dM_from_22 rfl (lv_at hl 3 rfl) ?_
  refine dw_ia (x := 6) hx hb hG 1 0 rfl rfl (v) rfl (by omega) (by decide) em dM_from_23 ?_
  refine lv_tableIn (tgt := 56) hx hb dM_from_24 (by decide) (by decide) rfl (by decide) ?_
  refine lv_iload_n hx hb dM_from_56 rfl (lv_at hl 4 rfl) ?_
  refine lv_iload hx hb dM_from_57 (lv_at hl 0 rfl) ?_
  refine lv_icmp_ge (tgt := 66) hx hb dM_from_59 (by decide) (fun h59 => ?_) (fun h59 => ?_)
  · skip
    replace h59 := (nI_leI (a := dd) (b := k) (by omega) (by omega)).mp h59
    refine lv_aload_n hx hb dM_from_66 rfl (lv_at hl 2 rfl) ?_
    refine dw_get hx hb hts inMc hown hG 0 8 rfl rfl (by decide) hw502 rfl rfl dM_from_67 ?_
    refine lv_iload_n hx hb dM_from_70 rfl (lv_at hl 1 rfl) ?_
    refine lv_iload_n hx hb dM_from_71 rfl (lv_at hl 4 rfl) ?_
    refine lv_iadd hx hb dM_from_72 ?_
    refine lv_topi (nm_r (nI_add (32 * (x)) (k)) ?_)
    refine lv_iload hx hb dM_from_73 (lv_at hl 0 rfl) ?_
    refine lv_isub hx hb dM_from_75 ?_
    refine dw_ia (x := db_tri (bt zx (k - dd)) (bt ox (k - dd))) hx hb hG 4 0 rfl rfl (32 * x + k - dd) (pk_sub (by omega)) (by omega) (by decide) (by rw [show 32 * x + k - dd = 32 * x + (k - dd) by omega]; exact hfx (k - dd) (by omega)) dM_from_76 ?_
    subst hQ
    exact dw_iret hx hb hr hG (()) rfl (db_fr6b hdd hk (by omega) zx ox zy oy) dM_from_77 hlocks
  replace h59 : ¬ dd ≤ k := fun q => h59 ((nI_leI (a := dd) (b := k) (by omega) (by omega)).mpr q)
  refine lv_iconst (v := 0) hx hb dM_from_62 (by decide) ?_
  refine lv_goto (tgt := 77) hx hb dM_from_63 (by decide) ?_
  subst hQ
  exact dw_iret hx hb hr hG (()) rfl (db_fr6a hdd hk (by omega) zx ox zy oy) dM_from_77 hlocks

set_option maxRecDepth 100000 in
set_option maxHeartbeats 4000000 in
theorem rf_from7 (l : Launch) (dC : Nat → ClassId) (dI : Nat → Nat → Nat) (cI cZ : ClassId) (m0 aMd aO1 aT2 aSh aMk aFa aDe aNe aBy aPi aNw aNs aBf : Nat) (ft vl rs pd rn rr : Int32) (v x k : Nat) (dd : Nat) (Md O1 T2 Fa : Nat → Int32) (zx ox zy oy : Int32) (sz : Nat) (hv : v < 24) (hxv : x < v) (hk : k < 32) (em : Md v = nI 7) (e1 : O1 v = nI x) (hfx : db_rep Fa x zx ox) (hdd : dd < 32) (e2 : T2 v = nI dd) : Met l yM_from wsM_from { frames := 0, cells := 0, slots := 0, locals := 0 } (va_Pc [.ref m0, .int (nI (v)), .int (nI (k))] (dw_pre (dC, dI) vwCl [(m0, .inr (5, [.int (ft), .int (vl), .ref aMd, .ref aO1, .ref aT2, .int (rs), .ref aSh, .ref aMk, .ref aFa, .ref aDe, .ref aNe, .ref aBy, .ref aPi, .int (pd), .ref aNw, .ref aNs, .ref aBf, .int (rn), .int (rr)])), (aMd, .inl (cI, 24, .inl (Md))), (aO1, .inl (cI, 24, .inl (O1))), (aT2, .inl (cI, 24, .inl (T2))), (aFa, .inl (cI, 768, .inl (Fa)))] [(cI, .int), (cZ, .boolean)] sz)) (va_Qi (fun (r : Int32) (u : Unit) => r = db_tri (bt (db_F 7 (nI dd) zx ox zy oy 0 0).1 k) (bt (db_F 7 (nI dd) zx ox zy oy 0 0).2 k)) (fun u t => dw_post (dC, dI) vwCl [(m0, .inr (5, [.int (ft), .int (vl), .ref aMd, .ref aO1, .ref aT2, .int (rs), .ref aSh, .ref aMk, .ref aFa, .ref aDe, .ref aNe, .ref aBy, .ref aPi, .int (pd), .ref aNw, .ref aNs, .ref aBf, .int (rn), .int (rr)])), (aMd, .inl (cI, 24, .inl (Md))), (aO1, .inl (cI, 24, .inl (O1))), (aT2, .inl (cI, 24, .inl (T2))), (aFa, .inl (cI, 768, .inl (Fa)))] [(cI, .int), (cZ, .boolean)] (va_A [(m0, .inr (5, [.int (ft), .int (vl), .ref aMd, .ref aO1, .ref aT2, .int (rs), .ref aSh, .ref aMk, .ref aFa, .ref aDe, .ref aNe, .ref aBy, .ref aPi, .int (pd), .ref aNw, .ref aNs, .ref aBf, .int (rn), .int (rr)])), (aMd, .inl (cI, 24, .inl (Md))), (aO1, .inl (cI, 24, .inl (O1))), (aT2, .inl (cI, 24, .inl (T2))), (aFa, .inl (cI, 768, .inl (Fa)))] sz) t) (va_A [(m0, .inr (5, [.int (ft), .int (vl), .ref aMd, .ref aO1, .ref aT2, .int (rs), .ref aSh, .ref aMk, .ref aFa, .ref aDe, .ref aNe, .ref aBy, .ref aPi, .int (pd), .ref aNw, .ref aNs, .ref aBf, .int (rn), .int (rr)])), (aMd, .inl (cI, 24, .inl (Md))), (aO1, .inl (cI, 24, .inl (O1))), (aT2, .inl (cI, 24, .inl (T2))), (aFa, .inl (cI, 768, .inl (Fa)))] sz)) 0 0 (va_A [(m0, .inr (5, [.int (ft), .int (vl), .ref aMd, .ref aO1, .ref aT2, .int (rs), .ref aSh, .ref aMk, .ref aFa, .ref aDe, .ref aNe, .ref aBy, .ref aPi, .int (pd), .ref aNw, .ref aNs, .ref aBf, .int (rn), .int (rr)])), (aMd, .inl (cI, 24, .inl (Md))), (aO1, .inl (cI, 24, .inl (O1))), (aT2, .inl (cI, 24, .inl (T2))), (aFa, .inl (cI, 768, .inl (Fa)))] sz) := by
  refine Met.ofW (cc := cM_from) (maxL := 5) (ret := (some .int)) (by decide) rfl ?_
  intro p e s m args below meth c s₁ B hml hv0
  have hx := B.exec
  have hb := B.bytes
  have hr := B.returns
  have hts := atoms_spec (ws := wsM_from) B.pre
  have hown : s.vm.findClass RM = some m.cls := findClass_of_methodNamed B.named
  have hlocks := B.notSynchronized
  obtain ⟨rfl, hsz, hG⟩ := dw_enter hv0
  generalize va_A [(m0, .inr (5, [.int (ft), .int (vl), .ref aMd, .ref aO1, .ref aT2, .int (rs), .ref aSh, .ref aMk, .ref aFa, .ref aDe, .ref aNe, .ref aBy, .ref aPi, .int (pd), .ref aNw, .ref aNs, .ref aBf, .int (rn), .int (rr)])), (aMd, .inl (cI, 24, .inl (Md))), (aO1, .inl (cI, 24, .inl (O1))), (aT2, .inl (cI, 24, .inl (T2))), (aFa, .inl (cI, 768, .inl (Fa)))] sz = A at hG ⊢
  have hl := lv_entry ([.ref m0, .int (nI (v)), .int (nI (k))]) (n := 5) (Nat.le_of_ble_eq_true rfl)
  rw [lg_entry_eq]
  generalize (lg_sl ([.ref m0, .int (nI (v)), .int (nI (k))]) ++ List.replicate (5 - (lg_sl ([.ref m0, .int (nI (v)), .int (nI (k))])).length) Slot.unset).toArray = ls at hl ⊢
  have hl : lv_has ls 5 [(0, .ref m0), (1, .int (nI (v))), (2, .int (nI (k)))] := hl
  have hw497 := hts _ (List.mem_cons_of_mem _ tw_497)
  have hw498 := hts _ (List.mem_cons_of_mem _ tw_498)
  have hw496 := hts _ (List.mem_cons_of_mem _ tw_496)
  have hw502 := hts _ (List.mem_cons_of_mem _ tw_502)
  refine dw_Q (fun Q hQ => ?_)
  suffices hgo : ∀ (H : Heap) (locs : List Loc), dw_G (dC, dI) vwCl [(cI, .int), (cZ, .boolean)] A s.heap s [(m0, .inr (5, [.int (ft), .int (vl), .ref aMd, .ref aO1, .ref aT2, .int (rs), .ref aSh, .ref aMk, .ref aFa, .ref aDe, .ref aNe, .ref aBy, .ref aPi, .int (pd), .ref aNw, .ref aNs, .ref aBf, .int (rn), .int (rr)])), (aMd, .inl (cI, 24, .inl (Md))), (aO1, .inl (cI, 24, .inl (O1))), (aT2, .inl (cI, 24, .inl (T2))), (aFa, .inl (cI, 768, .inl (Fa)))] H locs → W p l e (headSpec wsM_from { frames := 0, cells := 0, slots := 0, locals := 0 }).room s m [.ref m0, .int (nI (v)), .int (nI (k))].toArray below meth c H locs 0 0 Q (F0 m 0 ls []) from hgo _ _ hG
  clear hG
  intro H locs hG
  refine lv_bipush (v := 32) hx hb dM_from_0 (by decide) ?_
  refine lv_aload_n hx hb dM_from_2 rfl (lv_at hl 0 rfl) ?_
  refine dw_get hx hb hts inMc hown hG 0 3 rfl rfl (by decide) hw497 rfl rfl dM_from_3 ?_
  refine lv_iload_n hx hb dM_from_6 rfl (lv_at hl 1 rfl) ?_
  refine dw_ia (x := nI (x)) hx hb hG 2 0 rfl rfl (v) rfl (by omega) (by decide) e1 dM_from_7 ?_
  refine lv_imul hx hb dM_from_8 ?_
  refine lv_topi (nm_r (pk_mul (32) (x)) ?_)
  refine lv_istore_n (lv' := [(3, .int (nI (32 * (x)))), (0, .ref m0), (1, .int (nI (v))), (2, .int (nI (k)))]) hx hb dM_from_9 rfl hl (by decide) rfl (fun ls hl => ?_)
  refine lv_aload_n hx hb dM_from_10 rfl (lv_at hl 1 rfl) ?_
  refine dw_get hx hb hts inMc hown hG 0 4 rfl rfl (by decide) hw498 rfl rfl dM_from_11 ?_
  refine lv_iload_n hx hb dM_from_14 rfl (lv_at hl 2 rfl) ?_
  refine dw_ia (x := nI (dd)) hx hb hG 3 0 rfl rfl (v) rfl (by omega) (by decide) e2 dM_from_15 ?_
  refine lv_istore (lv' := [(4, .int (nI (dd))), (3, .int (nI (32 * (x)))), (0, .ref m0), (1, .int (nI (v))), (2, .int (nI (k)))]) hx hb dM_from_16 hl (by decide) rfl (fun ls hl => ?_)
  refine lv_aload_n hx hb dM_from_18 rfl (lv_at hl 2 rfl) ?_
  refine dw_get hx hb hts inMc hown hG 0 2 rfl rfl (by decide) hw496 rfl rfl dM_from_19 ?_
  refine lv_iload_n hx hb dM_from_22 rfl (lv_at hl 3 rfl) ?_
  refine dw_ia (x := 7) hx hb hG 1 0 rfl rfl (v) rfl (by omega) (by decide) em dM_from_23 ?_
  refine lv_tableIn (tgt := 78) hx hb dM_from_24 (by decide) (by decide) rfl (by decide) ?_
  refine lv_aload_n hx hb dM_from_78 rfl (lv_at hl 2 rfl) ?_
  refine dw_get hx hb hts inMc hown hG 0 8 rfl rfl (by decide) hw502 rfl rfl dM_from_79 ?_
  refine lv_iload_n hx hb dM_from_82 rfl (lv_at hl 1 rfl) ?_
  refine lv_iload_n hx hb dM_from_83 rfl (lv_at hl 4 rfl) ?_
  refine lv_iload hx hb dM_from_84 (lv_at hl 0 rfl) ?_
  refine lv_iadd hx hb dM_from_86 ?_
  refine lv_topi (nm_r (nI_add (k) (dd)) ?_)
  refine lv_bipush (v := 31) hx hb dM_from_87 (by decide) ?_
  refine lv_icmp_le (tgt := 97) hx hb dM_from_89 (by decide) (fun h89 => ?_) (fun h89 => ?_)
  · skip
    replace h89 := (nI_leI (a := k + dd) (b := 31) (by omega) (by omega)).mp h89
    refine lv_iload_n hx hb dM_from_97 rfl (lv_at hl 4 rfl) ?_
    refine lv_iload hx hb dM_from_98 (lv_at hl 0 rfl) ?_
    refine lv_iadd hx hb dM_from_100 ?_
    refine lv_topi (nm_r (nI_add (k) (dd)) ?_)
    refine lv_iadd hx hb dM_from_101 ?_
    refine lv_topi (nm_r (nI_add (32 * (x)) (k + dd)) ?_)
    refine dw_ia (x := db_tri (bt zx (k + dd)) (bt ox (k + dd))) hx hb hG 4 0 rfl rfl (32 * (x) + (k + dd)) rfl (by omega) (by decide) (by rw [show 32 * (x) + (k + dd) = 32 * x + (k + dd) by omega]; exact hfx (k + dd) (by omega)) dM_from_102 ?_
    subst hQ
    exact dw_iret hx hb hr hG (()) rfl (db_fr7b hdd hk (by omega) zx ox zy oy) dM_from_103 hlocks
  replace h89 : ¬ k + dd ≤ 31 := fun q => h89 ((nI_leI (a := k + dd) (b := 31) (by omega) (by omega)).mpr q)
  refine lv_bipush (v := 31) hx hb dM_from_92 (by decide) ?_
  refine lv_goto (tgt := 101) hx hb dM_from_94 (by decide) ?_
  refine lv_iadd hx hb dM_from_101 ?_
  refine lv_topi (nm_r (nI_add (32 * (x)) (31)) ?_)
  refine dw_ia (x := db_tri (bt zx (31)) (bt ox (31))) hx hb hG 4 0 rfl rfl (32 * (x) + 31) rfl (by omega) (by decide) (by rw [show 32 * (x) + 31 = 32 * x + (31) by omega]; exact hfx (31) (by omega)) dM_from_102 ?_
  subst hQ
  exact dw_iret hx hb hr hG (()) rfl (db_fr7a hdd hk (by omega) zx ox zy oy) dM_from_103 hlocks

set_option maxRecDepth 100000 in
set_option maxHeartbeats 4000000 in
theorem rf_from8 (l : Launch) (dC : Nat → ClassId) (dI : Nat → Nat → Nat) (cI cZ : ClassId) (m0 aMd aO1 aT2 aSh aMk aFa aDe aNe aBy aPi aNw aNs aBf : Nat) (ft vl rs pd rn rr : Int32) (v x k : Nat) (dd : Nat) (Md O1 T2 Fa : Nat → Int32) (zx ox zy oy : Int32) (sz : Nat) (hv : v < 24) (hxv : x < v) (hk : k < 32) (em : Md v = nI 8) (e1 : O1 v = nI x) (hfx : db_rep Fa x zx ox) (hdd : dd < 32) (e2 : T2 v = nI dd) : Met l yM_from wsM_from { frames := 0, cells := 0, slots := 0, locals := 0 } (va_Pc [.ref m0, .int (nI (v)), .int (nI (k))] (dw_pre (dC, dI) vwCl [(m0, .inr (5, [.int (ft), .int (vl), .ref aMd, .ref aO1, .ref aT2, .int (rs), .ref aSh, .ref aMk, .ref aFa, .ref aDe, .ref aNe, .ref aBy, .ref aPi, .int (pd), .ref aNw, .ref aNs, .ref aBf, .int (rn), .int (rr)])), (aMd, .inl (cI, 24, .inl (Md))), (aO1, .inl (cI, 24, .inl (O1))), (aT2, .inl (cI, 24, .inl (T2))), (aFa, .inl (cI, 768, .inl (Fa)))] [(cI, .int), (cZ, .boolean)] sz)) (va_Qi (fun (r : Int32) (u : Unit) => r = db_tri (bt (db_F 8 (nI dd) zx ox zy oy 0 0).1 k) (bt (db_F 8 (nI dd) zx ox zy oy 0 0).2 k)) (fun u t => dw_post (dC, dI) vwCl [(m0, .inr (5, [.int (ft), .int (vl), .ref aMd, .ref aO1, .ref aT2, .int (rs), .ref aSh, .ref aMk, .ref aFa, .ref aDe, .ref aNe, .ref aBy, .ref aPi, .int (pd), .ref aNw, .ref aNs, .ref aBf, .int (rn), .int (rr)])), (aMd, .inl (cI, 24, .inl (Md))), (aO1, .inl (cI, 24, .inl (O1))), (aT2, .inl (cI, 24, .inl (T2))), (aFa, .inl (cI, 768, .inl (Fa)))] [(cI, .int), (cZ, .boolean)] (va_A [(m0, .inr (5, [.int (ft), .int (vl), .ref aMd, .ref aO1, .ref aT2, .int (rs), .ref aSh, .ref aMk, .ref aFa, .ref aDe, .ref aNe, .ref aBy, .ref aPi, .int (pd), .ref aNw, .ref aNs, .ref aBf, .int (rn), .int (rr)])), (aMd, .inl (cI, 24, .inl (Md))), (aO1, .inl (cI, 24, .inl (O1))), (aT2, .inl (cI, 24, .inl (T2))), (aFa, .inl (cI, 768, .inl (Fa)))] sz) t) (va_A [(m0, .inr (5, [.int (ft), .int (vl), .ref aMd, .ref aO1, .ref aT2, .int (rs), .ref aSh, .ref aMk, .ref aFa, .ref aDe, .ref aNe, .ref aBy, .ref aPi, .int (pd), .ref aNw, .ref aNs, .ref aBf, .int (rn), .int (rr)])), (aMd, .inl (cI, 24, .inl (Md))), (aO1, .inl (cI, 24, .inl (O1))), (aT2, .inl (cI, 24, .inl (T2))), (aFa, .inl (cI, 768, .inl (Fa)))] sz)) 0 0 (va_A [(m0, .inr (5, [.int (ft), .int (vl), .ref aMd, .ref aO1, .ref aT2, .int (rs), .ref aSh, .ref aMk, .ref aFa, .ref aDe, .ref aNe, .ref aBy, .ref aPi, .int (pd), .ref aNw, .ref aNs, .ref aBf, .int (rn), .int (rr)])), (aMd, .inl (cI, 24, .inl (Md))), (aO1, .inl (cI, 24, .inl (O1))), (aT2, .inl (cI, 24, .inl (T2))), (aFa, .inl (cI, 768, .inl (Fa)))] sz) := by
  refine Met.ofW (cc := cM_from) (maxL := 5) (ret := (some .int)) (by decide) rfl ?_
  intro p e s m args below meth c s₁ B hml hv0
  have hx := B.exec
  have hb := B.bytes
  have hr := B.returns
  have hts := atoms_spec (ws := wsM_from) B.pre
  have hown : s.vm.findClass RM = some m.cls := findClass_of_methodNamed B.named
  have hlocks := B.notSynchronized
  obtain ⟨rfl, hsz, hG⟩ := dw_enter hv0
  generalize va_A [(m0, .inr (5, [.int (ft), .int (vl), .ref aMd, .ref aO1, .ref aT2, .int (rs), .ref aSh, .ref aMk, .ref aFa, .ref aDe, .ref aNe, .ref aBy, .ref aPi, .int (pd), .ref aNw, .ref aNs, .ref aBf, .int (rn), .int (rr)])), (aMd, .inl (cI, 24, .inl (Md))), (aO1, .inl (cI, 24, .inl (O1))), (aT2, .inl (cI, 24, .inl (T2))), (aFa, .inl (cI, 768, .inl (Fa)))] sz = A at hG ⊢
  have hl := lv_entry ([.ref m0, .int (nI (v)), .int (nI (k))]) (n := 5) (Nat.le_of_ble_eq_true rfl)
  rw [lg_entry_eq]
  generalize (lg_sl ([.ref m0, .int (nI (v)), .int (nI (k))]) ++ List.replicate (5 - (lg_sl ([.ref m0, .int (nI (v)), .int (nI (k))])).length) Slot.unset).toArray = ls at hl ⊢
  have hl : lv_has ls 5 [(0, .ref m0), (1, .int (nI (v))), (2, .int (nI (k)))] := hl
  have hw497 := hts _ (List.mem_cons_of_mem _ tw_497)
  have hw498 := hts _ (List.mem_cons_of_mem _ tw_498)
  have hw496 := hts _ (List.mem_cons_of_mem _ tw_496)
  have hw502 := hts _ (List.mem_cons_of_mem _ tw_502)
  refine dw_Q (fun Q hQ => ?_)
  suffices hgo : ∀ (H : Heap) (locs : List Loc), dw_G (dC, dI) vwCl [(cI, .int), (cZ, .boolean)] A s.heap s [(m0, .inr (5, [.int (ft), .int (vl), .ref aMd, .ref aO1, .ref aT2, .int (rs), .ref aSh, .ref aMk, .ref aFa, .ref aDe, .ref aNe, .ref aBy, .ref aPi, .int (pd), .ref aNw, .ref aNs, .ref aBf, .int (rn), .int (rr)])), (aMd, .inl (cI, 24, .inl (Md))), (aO1, .inl (cI, 24, .inl (O1))), (aT2, .inl (cI, 24, .inl (T2))), (aFa, .inl (cI, 768, .inl (Fa)))] H locs → W p l e (headSpec wsM_from { frames := 0, cells := 0, slots := 0, locals := 0 }).room s m [.ref m0, .int (nI (v)), .int (nI (k))].toArray below meth c H locs 0 0 Q (F0 m 0 ls []) from hgo _ _ hG
  clear hG
  intro H locs hG
  refine lv_bipush (v := 32) hx hb dM_from_0 (by decide) ?_
  refine lv_aload_n hx hb dM_from_2 rfl (lv_at hl 0 rfl) ?_
  refine dw_get hx hb hts inMc hown hG 0 3 rfl rfl (by decide) hw497 rfl rfl dM_from_3 ?_
  refine lv_iload_n hx hb dM_from_6 rfl (lv_at hl 1 rfl) ?_
  refine dw_ia (x := nI (x)) hx hb hG 2 0 rfl rfl (v) rfl (by omega) (by decide) e1 dM_from_7 ?_
  refine lv_imul hx hb dM_from_8 ?_
  refine lv_topi (nm_r (pk_mul (32) (x)) ?_)
  refine lv_istore_n (lv' := [(3, .int (nI (32 * (x)))), (0, .ref m0), (1, .int (nI (v))), (2, .int (nI (k)))]) hx hb dM_from_9 rfl hl (by decide) rfl (fun ls hl => ?_)
  refine lv_aload_n hx hb dM_from_10 rfl (lv_at hl 1 rfl) ?_
  refine dw_get hx hb hts inMc hown hG 0 4 rfl rfl (by decide) hw498 rfl rfl dM_from_11 ?_
  refine lv_iload_n hx hb dM_from_14 rfl (lv_at hl 2 rfl) ?_
  refine dw_ia (x := nI (dd)) hx hb hG 3 0 rfl rfl (v) rfl (by omega) (by decide) e2 dM_from_15 ?_
  refine lv_istore (lv' := [(4, .int (nI (dd))), (3, .int (nI (32 * (x)))), (0, .ref m0), (1, .int (nI (v))), (2, .int (nI (k)))]) hx hb dM_from_16 hl (by decide) rfl (fun ls hl => ?_)
  refine lv_aload_n hx hb dM_from_18 rfl (lv_at hl 2 rfl) ?_
  refine dw_get hx hb hts inMc hown hG 0 2 rfl rfl (by decide) hw496 rfl rfl dM_from_19 ?_
  refine lv_iload_n hx hb dM_from_22 rfl (lv_at hl 3 rfl) ?_
  refine dw_ia (x := 8) hx hb hG 1 0 rfl rfl (v) rfl (by omega) (by decide) em dM_from_23 ?_
  refine lv_tableIn (tgt := 104) hx hb dM_from_24 (by decide) (by decide) rfl (by decide) ?_
  refine lv_iload_n hx hb dM_from_104 rfl (lv_at hl 4 rfl) ?_
  refine lv_iload hx hb dM_from_105 (lv_at hl 0 rfl) ?_
  refine lv_iadd hx hb dM_from_107 ?_
  refine lv_topi (nm_r (nI_add (k) (dd)) ?_)
  refine lv_bipush (v := 31) hx hb dM_from_108 (by decide) ?_
  refine lv_icmp_le (tgt := 117) hx hb dM_from_110 (by decide) (fun h110 => ?_) (fun h110 => ?_)
  · skip
    replace h110 := (nI_leI (a := k + dd) (b := 31) (by omega) (by omega)).mp h110
    refine lv_aload_n hx hb dM_from_117 rfl (lv_at hl 2 rfl) ?_
    refine dw_get hx hb hts inMc hown hG 0 8 rfl rfl (by decide) hw502 rfl rfl dM_from_118 ?_
    refine lv_iload_n hx hb dM_from_121 rfl (lv_at hl 1 rfl) ?_
    refine lv_iload_n hx hb dM_from_122 rfl (lv_at hl 4 rfl) ?_
    refine lv_iadd hx hb dM_from_123 ?_
    refine lv_topi (nm_r (nI_add (32 * (x)) (k)) ?_)
    refine lv_iload hx hb dM_from_124 (lv_at hl 0 rfl) ?_
    refine lv_iadd hx hb dM_from_126 ?_
    refine lv_topi (nm_r (nI_add (32 * (x) + k) (dd)) ?_)
    refine dw_ia (x := db_tri (bt zx (k + dd)) (bt ox (k + dd))) hx hb hG 4 0 rfl rfl (32 * (x) + k + dd) rfl (by omega) (by decide) (by rw [show 32 * (x) + k + dd = 32 * x + (k + dd) by omega]; exact hfx (k + dd) (by omega)) dM_from_127 ?_
    subst hQ
    exact dw_iret hx hb hr hG (()) rfl (db_fr8b hdd hk (by omega) zx ox zy oy) dM_from_128 hlocks
  replace h110 : ¬ k + dd ≤ 31 := fun q => h110 ((nI_leI (a := k + dd) (b := 31) (by omega) (by omega)).mpr q)
  refine lv_iconst (v := 0) hx hb dM_from_113 (by decide) ?_
  refine lv_goto (tgt := 128) hx hb dM_from_114 (by decide) ?_
  subst hQ
  exact dw_iret hx hb hr hG (()) rfl (db_fr8a hdd hk (by omega) zx ox zy oy) dM_from_128 hlocks

set_option maxRecDepth 100000 in
set_option maxHeartbeats 4000000 in
theorem rf_from11 (l : Launch) (dC : Nat → ClassId) (dI : Nat → Nat → Nat) (cI cZ : ClassId) (m0 aMd aO1 aT2 aSh aMk aFa aDe aNe aBy aPi aNw aNs aBf : Nat) (ft vl rs pd rn rr : Int32) (v x k : Nat) (d : Int32) (Md O1 T2 Fa : Nat → Int32) (zx ox zy oy : Int32) (sz : Nat) (hv : v < 24) (hxv : x < v) (hk : k < 32) (em : Md v = nI 9) (e1 : O1 v = nI x) (hfx : db_rep Fa x zx ox) : Met l yM_from wsM_from { frames := 0, cells := 0, slots := 0, locals := 0 } (va_Pc [.ref m0, .int (nI (v)), .int (nI (k))] (dw_pre (dC, dI) vwCl [(m0, .inr (5, [.int (ft), .int (vl), .ref aMd, .ref aO1, .ref aT2, .int (rs), .ref aSh, .ref aMk, .ref aFa, .ref aDe, .ref aNe, .ref aBy, .ref aPi, .int (pd), .ref aNw, .ref aNs, .ref aBf, .int (rn), .int (rr)])), (aMd, .inl (cI, 24, .inl (Md))), (aO1, .inl (cI, 24, .inl (O1))), (aT2, .inl (cI, 24, .inl (T2))), (aFa, .inl (cI, 768, .inl (Fa)))] [(cI, .int), (cZ, .boolean)] sz)) (va_Qi (fun (r : Int32) (u : Unit) => r = db_tri (bt (db_F 11 (d) zx ox zy oy 0 0).1 k) (bt (db_F 11 (d) zx ox zy oy 0 0).2 k)) (fun u t => dw_post (dC, dI) vwCl [(m0, .inr (5, [.int (ft), .int (vl), .ref aMd, .ref aO1, .ref aT2, .int (rs), .ref aSh, .ref aMk, .ref aFa, .ref aDe, .ref aNe, .ref aBy, .ref aPi, .int (pd), .ref aNw, .ref aNs, .ref aBf, .int (rn), .int (rr)])), (aMd, .inl (cI, 24, .inl (Md))), (aO1, .inl (cI, 24, .inl (O1))), (aT2, .inl (cI, 24, .inl (T2))), (aFa, .inl (cI, 768, .inl (Fa)))] [(cI, .int), (cZ, .boolean)] (va_A [(m0, .inr (5, [.int (ft), .int (vl), .ref aMd, .ref aO1, .ref aT2, .int (rs), .ref aSh, .ref aMk, .ref aFa, .ref aDe, .ref aNe, .ref aBy, .ref aPi, .int (pd), .ref aNw, .ref aNs, .ref aBf, .int (rn), .int (rr)])), (aMd, .inl (cI, 24, .inl (Md))), (aO1, .inl (cI, 24, .inl (O1))), (aT2, .inl (cI, 24, .inl (T2))), (aFa, .inl (cI, 768, .inl (Fa)))] sz) t) (va_A [(m0, .inr (5, [.int (ft), .int (vl), .ref aMd, .ref aO1, .ref aT2, .int (rs), .ref aSh, .ref aMk, .ref aFa, .ref aDe, .ref aNe, .ref aBy, .ref aPi, .int (pd), .ref aNw, .ref aNs, .ref aBf, .int (rn), .int (rr)])), (aMd, .inl (cI, 24, .inl (Md))), (aO1, .inl (cI, 24, .inl (O1))), (aT2, .inl (cI, 24, .inl (T2))), (aFa, .inl (cI, 768, .inl (Fa)))] sz)) 0 0 (va_A [(m0, .inr (5, [.int (ft), .int (vl), .ref aMd, .ref aO1, .ref aT2, .int (rs), .ref aSh, .ref aMk, .ref aFa, .ref aDe, .ref aNe, .ref aBy, .ref aPi, .int (pd), .ref aNw, .ref aNs, .ref aBf, .int (rn), .int (rr)])), (aMd, .inl (cI, 24, .inl (Md))), (aO1, .inl (cI, 24, .inl (O1))), (aT2, .inl (cI, 24, .inl (T2))), (aFa, .inl (cI, 768, .inl (Fa)))] sz) := by
  refine Met.ofW (cc := cM_from) (maxL := 5) (ret := (some .int)) (by decide) rfl ?_
  intro p e s m args below meth c s₁ B hml hv0
  have hx := B.exec
  have hb := B.bytes
  have hr := B.returns
  have hts := atoms_spec (ws := wsM_from) B.pre
  have hown : s.vm.findClass RM = some m.cls := findClass_of_methodNamed B.named
  have hlocks := B.notSynchronized
  obtain ⟨rfl, hsz, hG⟩ := dw_enter hv0
  generalize va_A [(m0, .inr (5, [.int (ft), .int (vl), .ref aMd, .ref aO1, .ref aT2, .int (rs), .ref aSh, .ref aMk, .ref aFa, .ref aDe, .ref aNe, .ref aBy, .ref aPi, .int (pd), .ref aNw, .ref aNs, .ref aBf, .int (rn), .int (rr)])), (aMd, .inl (cI, 24, .inl (Md))), (aO1, .inl (cI, 24, .inl (O1))), (aT2, .inl (cI, 24, .inl (T2))), (aFa, .inl (cI, 768, .inl (Fa)))] sz = A at hG ⊢
  have hl := lv_entry ([.ref m0, .int (nI (v)), .int (nI (k))]) (n := 5) (Nat.le_of_ble_eq_true rfl)
  rw [lg_entry_eq]
  generalize (lg_sl ([.ref m0, .int (nI (v)), .int (nI (k))]) ++ List.replicate (5 - (lg_sl ([.ref m0, .int (nI (v)), .int (nI (k))])).length) Slot.unset).toArray = ls at hl ⊢
  have hl : lv_has ls 5 [(0, .ref m0), (1, .int (nI (v))), (2, .int (nI (k)))] := hl
  have hw497 := hts _ (List.mem_cons_of_mem _ tw_497)
  have hw498 := hts _ (List.mem_cons_of_mem _ tw_498)
  have hw496 := hts _ (List.mem_cons_of_mem _ tw_496)
  have hw502 := hts _ (List.mem_cons_of_mem _ tw_502)
  refine dw_Q (fun Q hQ => ?_)
  suffices hgo : ∀ (H : Heap) (locs : List Loc), dw_G (dC, dI) vwCl [(cI, .int), (cZ, .boolean)] A s.heap s [(m0, .inr (5, [.int (ft), .int (vl), .ref aMd, .ref aO1, .ref aT2, .int (rs), .ref aSh, .ref aMk, .ref aFa, .ref aDe, .ref aNe, .ref aBy, .ref aPi, .int (pd), .ref aNw, .ref aNs, .ref aBf, .int (rn), .int (rr)])), (aMd, .inl (cI, 24, .inl (Md))), (aO1, .inl (cI, 24, .inl (O1))), (aT2, .inl (cI, 24, .inl (T2))), (aFa, .inl (cI, 768, .inl (Fa)))] H locs → W p l e (headSpec wsM_from { frames := 0, cells := 0, slots := 0, locals := 0 }).room s m [.ref m0, .int (nI (v)), .int (nI (k))].toArray below meth c H locs 0 0 Q (F0 m 0 ls []) from hgo _ _ hG
  clear hG
  intro H locs hG
  refine lv_bipush (v := 32) hx hb dM_from_0 (by decide) ?_
  refine lv_aload_n hx hb dM_from_2 rfl (lv_at hl 0 rfl) ?_
  refine dw_get hx hb hts inMc hown hG 0 3 rfl rfl (by decide) hw497 rfl rfl dM_from_3 ?_
  refine lv_iload_n hx hb dM_from_6 rfl (lv_at hl 1 rfl) ?_
  refine dw_ia (x := nI (x)) hx hb hG 2 0 rfl rfl (v) rfl (by omega) (by decide) e1 dM_from_7 ?_
  refine lv_imul hx hb dM_from_8 ?_
  refine lv_topi (nm_r (pk_mul (32) (x)) ?_)
  refine lv_istore_n (lv' := [(3, .int (nI (32 * (x)))), (0, .ref m0), (1, .int (nI (v))), (2, .int (nI (k)))]) hx hb dM_from_9 rfl hl (by decide) rfl (fun ls hl => ?_)
  refine lv_aload_n hx hb dM_from_10 rfl (lv_at hl 1 rfl) ?_
  refine dw_get hx hb hts inMc hown hG 0 4 rfl rfl (by decide) hw498 rfl rfl dM_from_11 ?_
  refine lv_iload_n hx hb dM_from_14 rfl (lv_at hl 2 rfl) ?_
  refine dw_ia (x := (T2) (v)) hx hb hG 3 0 rfl rfl (v) rfl (by omega) (by decide) rfl dM_from_15 ?_
  refine lv_istore (lv' := [(4, .int ((T2) (v))), (3, .int (nI (32 * (x)))), (0, .ref m0), (1, .int (nI (v))), (2, .int (nI (k)))]) hx hb dM_from_16 hl (by decide) rfl (fun ls hl => ?_)
  refine lv_aload_n hx hb dM_from_18 rfl (lv_at hl 2 rfl) ?_
  refine dw_get hx hb hts inMc hown hG 0 2 rfl rfl (by decide) hw496 rfl rfl dM_from_19 ?_
  refine lv_iload_n hx hb dM_from_22 rfl (lv_at hl 3 rfl) ?_
  refine dw_ia (x := 9) hx hb hG 1 0 rfl rfl (v) rfl (by omega) (by decide) em dM_from_23 ?_
  refine lv_tableIn (tgt := 129) hx hb dM_from_24 (by decide) (by decide) rfl (by decide) ?_
  refine lv_aload_n hx hb dM_from_129 rfl (lv_at hl 2 rfl) ?_
  refine dw_get hx hb hts inMc hown hG 0 8 rfl rfl (by decide) hw502 rfl rfl dM_from_130 ?_
  refine lv_iload_n hx hb dM_from_133 rfl (lv_at hl 1 rfl) ?_
  refine lv_iload_n hx hb dM_from_134 rfl (lv_at hl 4 rfl) ?_
  refine lv_bipush (v := 7) hx hb dM_from_135 (by decide) ?_
  refine lv_icmp_le (tgt := 145) hx hb dM_from_137 (by decide) (fun h137 => ?_) (fun h137 => ?_)
  · skip
    replace h137 := (nI_leI (a := k) (b := 7) (by omega) (by omega)).mp h137
    refine lv_iload_n hx hb dM_from_145 rfl (lv_at hl 4 rfl) ?_
    refine lv_iadd hx hb dM_from_146 ?_
    refine lv_topi (nm_r (nI_add (32 * (x)) (k)) ?_)
    refine dw_ia (x := db_tri (bt zx (k)) (bt ox (k))) hx hb hG 4 0 rfl rfl (32 * (x) + k) rfl (by omega) (by decide) (by rw [show 32 * (x) + k = 32 * x + (k) by omega]; exact hfx (k) (by omega)) dM_from_147 ?_
    subst hQ
    exact dw_iret hx hb hr hG (()) rfl (by have e := db_fr11 hk d zx ox zy oy; rw [if_neg (by omega)] at e; exact e) dM_from_148 hlocks
  replace h137 : ¬ k ≤ 7 := fun q => h137 ((nI_leI (a := k) (b := 7) (by omega) (by omega)).mpr q)
  refine lv_bipush (v := 7) hx hb dM_from_140 (by decide) ?_
  refine lv_goto (tgt := 146) hx hb dM_from_142 (by decide) ?_
  refine lv_iadd hx hb dM_from_146 ?_
  refine lv_topi (nm_r (nI_add (32 * (x)) (7)) ?_)
  refine dw_ia (x := db_tri (bt zx (7)) (bt ox (7))) hx hb hG 4 0 rfl rfl (32 * (x) + 7) rfl (by omega) (by decide) (by rw [show 32 * (x) + 7 = 32 * x + (7) by omega]; exact hfx (7) (by omega)) dM_from_147 ?_
  subst hQ
  exact dw_iret hx hb hr hG (()) rfl (by have e := db_fr11 hk d zx ox zy oy; rw [if_pos (by omega)] at e; exact e) dM_from_148 hlocks

set_option maxRecDepth 100000 in
set_option maxHeartbeats 4000000 in
theorem rf_from12 (l : Launch) (dC : Nat → ClassId) (dI : Nat → Nat → Nat) (cI cZ : ClassId) (m0 aMd aO1 aT2 aSh aMk aFa aDe aNe aBy aPi aNw aNs aBf : Nat) (ft vl rs pd rn rr : Int32) (v x k : Nat) (d : Int32) (Md O1 T2 Fa : Nat → Int32) (zx ox zy oy : Int32) (sz : Nat) (hv : v < 24) (hxv : x < v) (hk : k < 32) (em : Md v = nI 10) (e1 : O1 v = nI x) (hfx : db_rep Fa x zx ox) : Met l yM_from wsM_from { frames := 0, cells := 0, slots := 0, locals := 0 } (va_Pc [.ref m0, .int (nI (v)), .int (nI (k))] (dw_pre (dC, dI) vwCl [(m0, .inr (5, [.int (ft), .int (vl), .ref aMd, .ref aO1, .ref aT2, .int (rs), .ref aSh, .ref aMk, .ref aFa, .ref aDe, .ref aNe, .ref aBy, .ref aPi, .int (pd), .ref aNw, .ref aNs, .ref aBf, .int (rn), .int (rr)])), (aMd, .inl (cI, 24, .inl (Md))), (aO1, .inl (cI, 24, .inl (O1))), (aT2, .inl (cI, 24, .inl (T2))), (aFa, .inl (cI, 768, .inl (Fa)))] [(cI, .int), (cZ, .boolean)] sz)) (va_Qi (fun (r : Int32) (u : Unit) => r = db_tri (bt (db_F 12 (d) zx ox zy oy 0 0).1 k) (bt (db_F 12 (d) zx ox zy oy 0 0).2 k)) (fun u t => dw_post (dC, dI) vwCl [(m0, .inr (5, [.int (ft), .int (vl), .ref aMd, .ref aO1, .ref aT2, .int (rs), .ref aSh, .ref aMk, .ref aFa, .ref aDe, .ref aNe, .ref aBy, .ref aPi, .int (pd), .ref aNw, .ref aNs, .ref aBf, .int (rn), .int (rr)])), (aMd, .inl (cI, 24, .inl (Md))), (aO1, .inl (cI, 24, .inl (O1))), (aT2, .inl (cI, 24, .inl (T2))), (aFa, .inl (cI, 768, .inl (Fa)))] [(cI, .int), (cZ, .boolean)] (va_A [(m0, .inr (5, [.int (ft), .int (vl), .ref aMd, .ref aO1, .ref aT2, .int (rs), .ref aSh, .ref aMk, .ref aFa, .ref aDe, .ref aNe, .ref aBy, .ref aPi, .int (pd), .ref aNw, .ref aNs, .ref aBf, .int (rn), .int (rr)])), (aMd, .inl (cI, 24, .inl (Md))), (aO1, .inl (cI, 24, .inl (O1))), (aT2, .inl (cI, 24, .inl (T2))), (aFa, .inl (cI, 768, .inl (Fa)))] sz) t) (va_A [(m0, .inr (5, [.int (ft), .int (vl), .ref aMd, .ref aO1, .ref aT2, .int (rs), .ref aSh, .ref aMk, .ref aFa, .ref aDe, .ref aNe, .ref aBy, .ref aPi, .int (pd), .ref aNw, .ref aNs, .ref aBf, .int (rn), .int (rr)])), (aMd, .inl (cI, 24, .inl (Md))), (aO1, .inl (cI, 24, .inl (O1))), (aT2, .inl (cI, 24, .inl (T2))), (aFa, .inl (cI, 768, .inl (Fa)))] sz)) 0 0 (va_A [(m0, .inr (5, [.int (ft), .int (vl), .ref aMd, .ref aO1, .ref aT2, .int (rs), .ref aSh, .ref aMk, .ref aFa, .ref aDe, .ref aNe, .ref aBy, .ref aPi, .int (pd), .ref aNw, .ref aNs, .ref aBf, .int (rn), .int (rr)])), (aMd, .inl (cI, 24, .inl (Md))), (aO1, .inl (cI, 24, .inl (O1))), (aT2, .inl (cI, 24, .inl (T2))), (aFa, .inl (cI, 768, .inl (Fa)))] sz) := by
  refine Met.ofW (cc := cM_from) (maxL := 5) (ret := (some .int)) (by decide) rfl ?_
  intro p e s m args below meth c s₁ B hml hv0
  have hx := B.exec
  have hb := B.bytes
  have hr := B.returns
  have hts := atoms_spec (ws := wsM_from) B.pre
  have hown : s.vm.findClass RM = some m.cls := findClass_of_methodNamed B.named
  have hlocks := B.notSynchronized
  obtain ⟨rfl, hsz, hG⟩ := dw_enter hv0
  generalize va_A [(m0, .inr (5, [.int (ft), .int (vl), .ref aMd, .ref aO1, .ref aT2, .int (rs), .ref aSh, .ref aMk, .ref aFa, .ref aDe, .ref aNe, .ref aBy, .ref aPi, .int (pd), .ref aNw, .ref aNs, .ref aBf, .int (rn), .int (rr)])), (aMd, .inl (cI, 24, .inl (Md))), (aO1, .inl (cI, 24, .inl (O1))), (aT2, .inl (cI, 24, .inl (T2))), (aFa, .inl (cI, 768, .inl (Fa)))] sz = A at hG ⊢
  have hl := lv_entry ([.ref m0, .int (nI (v)), .int (nI (k))]) (n := 5) (Nat.le_of_ble_eq_true rfl)
  rw [lg_entry_eq]
  generalize (lg_sl ([.ref m0, .int (nI (v)), .int (nI (k))]) ++ List.replicate (5 - (lg_sl ([.ref m0, .int (nI (v)), .int (nI (k))])).length) Slot.unset).toArray = ls at hl ⊢
  have hl : lv_has ls 5 [(0, .ref m0), (1, .int (nI (v))), (2, .int (nI (k)))] := hl
  have hw497 := hts _ (List.mem_cons_of_mem _ tw_497)
  have hw498 := hts _ (List.mem_cons_of_mem _ tw_498)
  have hw496 := hts _ (List.mem_cons_of_mem _ tw_496)
  have hw502 := hts _ (List.mem_cons_of_mem _ tw_502)
  refine dw_Q (fun Q hQ => ?_)
  suffices hgo : ∀ (H : Heap) (locs : List Loc), dw_G (dC, dI) vwCl [(cI, .int), (cZ, .boolean)] A s.heap s [(m0, .inr (5, [.int (ft), .int (vl), .ref aMd, .ref aO1, .ref aT2, .int (rs), .ref aSh, .ref aMk, .ref aFa, .ref aDe, .ref aNe, .ref aBy, .ref aPi, .int (pd), .ref aNw, .ref aNs, .ref aBf, .int (rn), .int (rr)])), (aMd, .inl (cI, 24, .inl (Md))), (aO1, .inl (cI, 24, .inl (O1))), (aT2, .inl (cI, 24, .inl (T2))), (aFa, .inl (cI, 768, .inl (Fa)))] H locs → W p l e (headSpec wsM_from { frames := 0, cells := 0, slots := 0, locals := 0 }).room s m [.ref m0, .int (nI (v)), .int (nI (k))].toArray below meth c H locs 0 0 Q (F0 m 0 ls []) from hgo _ _ hG
  clear hG
  intro H locs hG
  refine lv_bipush (v := 32) hx hb dM_from_0 (by decide) ?_
  refine lv_aload_n hx hb dM_from_2 rfl (lv_at hl 0 rfl) ?_
  refine dw_get hx hb hts inMc hown hG 0 3 rfl rfl (by decide) hw497 rfl rfl dM_from_3 ?_
  refine lv_iload_n hx hb dM_from_6 rfl (lv_at hl 1 rfl) ?_
  refine dw_ia (x := nI (x)) hx hb hG 2 0 rfl rfl (v) rfl (by omega) (by decide) e1 dM_from_7 ?_
  refine lv_imul hx hb dM_from_8 ?_
  refine lv_topi (nm_r (pk_mul (32) (x)) ?_)
  refine lv_istore_n (lv' := [(3, .int (nI (32 * (x)))), (0, .ref m0), (1, .int (nI (v))), (2, .int (nI (k)))]) hx hb dM_from_9 rfl hl (by decide) rfl (fun ls hl => ?_)
  refine lv_aload_n hx hb dM_from_10 rfl (lv_at hl 1 rfl) ?_
  refine dw_get hx hb hts inMc hown hG 0 4 rfl rfl (by decide) hw498 rfl rfl dM_from_11 ?_
  refine lv_iload_n hx hb dM_from_14 rfl (lv_at hl 2 rfl) ?_
  refine dw_ia (x := (T2) (v)) hx hb hG 3 0 rfl rfl (v) rfl (by omega) (by decide) rfl dM_from_15 ?_
  refine lv_istore (lv' := [(4, .int ((T2) (v))), (3, .int (nI (32 * (x)))), (0, .ref m0), (1, .int (nI (v))), (2, .int (nI (k)))]) hx hb dM_from_16 hl (by decide) rfl (fun ls hl => ?_)
  refine lv_aload_n hx hb dM_from_18 rfl (lv_at hl 2 rfl) ?_
  refine dw_get hx hb hts inMc hown hG 0 2 rfl rfl (by decide) hw496 rfl rfl dM_from_19 ?_
  refine lv_iload_n hx hb dM_from_22 rfl (lv_at hl 3 rfl) ?_
  refine dw_ia (x := 10) hx hb hG 1 0 rfl rfl (v) rfl (by omega) (by decide) em dM_from_23 ?_
  refine lv_tableOut (tgt := 149) hx hb dM_from_24 (by decide) (by decide) ?_
  refine lv_aload_n hx hb dM_from_149 rfl (lv_at hl 2 rfl) ?_
  refine dw_get hx hb hts inMc hown hG 0 8 rfl rfl (by decide) hw502 rfl rfl dM_from_150 ?_
  refine lv_iload_n hx hb dM_from_153 rfl (lv_at hl 1 rfl) ?_
  refine lv_iload_n hx hb dM_from_154 rfl (lv_at hl 4 rfl) ?_
  refine lv_bipush (v := 15) hx hb dM_from_155 (by decide) ?_
  refine lv_icmp_le (tgt := 165) hx hb dM_from_157 (by decide) (fun h157 => ?_) (fun h157 => ?_)
  · skip
    replace h157 := (nI_leI (a := k) (b := 15) (by omega) (by omega)).mp h157
    refine lv_iload_n hx hb dM_from_165 rfl (lv_at hl 4 rfl) ?_
    refine lv_iadd hx hb dM_from_166 ?_
    refine lv_topi (nm_r (nI_add (32 * (x)) (k)) ?_)
    refine dw_ia (x := db_tri (bt zx (k)) (bt ox (k))) hx hb hG 4 0 rfl rfl (32 * (x) + k) rfl (by omega) (by decide) (by rw [show 32 * (x) + k = 32 * x + (k) by omega]; exact hfx (k) (by omega)) dM_from_167 ?_
    subst hQ
    exact dw_iret hx hb hr hG (()) rfl (by have e := db_fr12 hk d zx ox zy oy; rw [if_neg (by omega)] at e; exact e) dM_from_168 hlocks
  replace h157 : ¬ k ≤ 15 := fun q => h157 ((nI_leI (a := k) (b := 15) (by omega) (by omega)).mpr q)
  refine lv_bipush (v := 15) hx hb dM_from_160 (by decide) ?_
  refine lv_goto (tgt := 166) hx hb dM_from_162 (by decide) ?_
  refine lv_iadd hx hb dM_from_166 ?_
  refine lv_topi (nm_r (nI_add (32 * (x)) (15)) ?_)
  refine dw_ia (x := db_tri (bt zx (15)) (bt ox (15))) hx hb hG 4 0 rfl rfl (32 * (x) + 15) rfl (by omega) (by decide) (by rw [show 32 * (x) + 15 = 32 * x + (15) by omega]; exact hfx (15) (by omega)) dM_from_167 ?_
  subst hQ
  exact dw_iret hx hb hr hG (()) rfl (by have e := db_fr12 hk d zx ox zy oy; rw [if_pos (by omega)] at e; exact e) dM_from_168 hlocks

