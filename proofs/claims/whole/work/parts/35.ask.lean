set_option maxRecDepth 100000 in
set_option maxHeartbeats 4000000 in
theorem rf_ask0 (l : Launch) (dC : Nat → ClassId) (dI : Nat → Nat → Nat) (cI cZ : ClassId) (m0 aMd aO1 aT2 aSh aMk aFa aDe aNe aBy aPi aNw aNs aBf pn aS : Nat) (ft vl rs rn rr : Int32) (v k x y dd : Nat) (Se Pi Md O1 T2 Fa : Nat → Int32) (zx ox zy oy : Int32) (sz : Nat) (hv : v < 24) (hk : k < 32) (hok : db_ok (Se, Pi, pn)) (em : Md v = nI 0) (hx9 : x < 24) (e1 : O1 v = nI x) (hy9 : y < 24) (e2 : T2 v = nI y) : Met l yM_ask wsM_ask { frames := 2, cells := 0, slots := 0, locals := 60 } (va_Pc [.ref m0, .ref aS, .int (nI (v)), .int (nI (k))] (dw_pre (dC, dI) vwCl [(m0, .inr (5, [.int (ft), .int (vl), .ref aMd, .ref aO1, .ref aT2, .int (rs), .ref aSh, .ref aMk, .ref aFa, .ref aDe, .ref aNe, .ref aBy, .ref aPi, .int (nI (pn)), .ref aNw, .ref aNs, .ref aBf, .int (rn), .int (rr)])), (aS, .inl (cZ, 768, .inl (Se))), (aPi, .inl (cI, 1600, .inl (Pi))), (aMd, .inl (cI, 24, .inl (Md))), (aO1, .inl (cI, 24, .inl (O1))), (aT2, .inl (cI, 24, .inl (T2))), (aFa, .inl (cI, 768, .inl (Fa)))] [(cI, .int), (cZ, .boolean)] sz)) (va_Qv (fun (u : db_Q) => db_asked (fun w b => db_A 0 dd x y zx ox zy oy k w b) (Se, Pi, pn) u) (fun u t => dw_post (dC, dI) vwCl [(m0, .inr (5, [.int (ft), .int (vl), .ref aMd, .ref aO1, .ref aT2, .int (rs), .ref aSh, .ref aMk, .ref aFa, .ref aDe, .ref aNe, .ref aBy, .ref aPi, .int (nI u.2.2), .ref aNw, .ref aNs, .ref aBf, .int (rn), .int (rr)])), (aS, .inl (cZ, 768, .inl (u.1))), (aPi, .inl (cI, 1600, .inl (u.2.1))), (aMd, .inl (cI, 24, .inl (Md))), (aO1, .inl (cI, 24, .inl (O1))), (aT2, .inl (cI, 24, .inl (T2))), (aFa, .inl (cI, 768, .inl (Fa)))] [(cI, .int), (cZ, .boolean)] (va_A [(m0, .inr (5, [.int (ft), .int (vl), .ref aMd, .ref aO1, .ref aT2, .int (rs), .ref aSh, .ref aMk, .ref aFa, .ref aDe, .ref aNe, .ref aBy, .ref aPi, .int (nI (pn)), .ref aNw, .ref aNs, .ref aBf, .int (rn), .int (rr)])), (aS, .inl (cZ, 768, .inl (Se))), (aPi, .inl (cI, 1600, .inl (Pi))), (aMd, .inl (cI, 24, .inl (Md))), (aO1, .inl (cI, 24, .inl (O1))), (aT2, .inl (cI, 24, .inl (T2))), (aFa, .inl (cI, 768, .inl (Fa)))] sz) t) (va_A [(m0, .inr (5, [.int (ft), .int (vl), .ref aMd, .ref aO1, .ref aT2, .int (rs), .ref aSh, .ref aMk, .ref aFa, .ref aDe, .ref aNe, .ref aBy, .ref aPi, .int (nI (pn)), .ref aNw, .ref aNs, .ref aBf, .int (rn), .int (rr)])), (aS, .inl (cZ, 768, .inl (Se))), (aPi, .inl (cI, 1600, .inl (Pi))), (aMd, .inl (cI, 24, .inl (Md))), (aO1, .inl (cI, 24, .inl (O1))), (aT2, .inl (cI, 24, .inl (T2))), (aFa, .inl (cI, 768, .inl (Fa)))] sz)) 0 0 (va_A [(m0, .inr (5, [.int (ft), .int (vl), .ref aMd, .ref aO1, .ref aT2, .int (rs), .ref aSh, .ref aMk, .ref aFa, .ref aDe, .ref aNe, .ref aBy, .ref aPi, .int (nI (pn)), .ref aNw, .ref aNs, .ref aBf, .int (rn), .int (rr)])), (aS, .inl (cZ, 768, .inl (Se))), (aPi, .inl (cI, 1600, .inl (Pi))), (aMd, .inl (cI, 24, .inl (Md))), (aO1, .inl (cI, 24, .inl (O1))), (aT2, .inl (cI, 24, .inl (T2))), (aFa, .inl (cI, 768, .inl (Fa)))] sz) := by
  refine Met.ofW (cc := cM_ask) (maxL := 6) (ret := none) (by decide) rfl ?_
  intro p e s m args below meth c s₁ B hml hv0
  have hx := B.exec
  have hb := B.bytes
  have hr := B.returns
  have hts := atoms_spec (ws := wsM_ask) B.pre
  have hown : s.vm.findClass RM = some m.cls := findClass_of_methodNamed B.named
  have hlocks := B.notSynchronized
  obtain ⟨rfl, hsz, hG⟩ := dw_enter hv0
  generalize va_A [(m0, .inr (5, [.int (ft), .int (vl), .ref aMd, .ref aO1, .ref aT2, .int (rs), .ref aSh, .ref aMk, .ref aFa, .ref aDe, .ref aNe, .ref aBy, .ref aPi, .int (nI (pn)), .ref aNw, .ref aNs, .ref aBf, .int (rn), .int (rr)])), (aS, .inl (cZ, 768, .inl (Se))), (aPi, .inl (cI, 1600, .inl (Pi))), (aMd, .inl (cI, 24, .inl (Md))), (aO1, .inl (cI, 24, .inl (O1))), (aT2, .inl (cI, 24, .inl (T2))), (aFa, .inl (cI, 768, .inl (Fa)))] sz = A at hG ⊢
  have hl := lv_entry ([.ref m0, .ref aS, .int (nI (v)), .int (nI (k))]) (n := 6) (Nat.le_of_ble_eq_true rfl)
  rw [lg_entry_eq]
  generalize (lg_sl ([.ref m0, .ref aS, .int (nI (v)), .int (nI (k))]) ++ List.replicate (6 - (lg_sl ([.ref m0, .ref aS, .int (nI (v)), .int (nI (k))])).length) Slot.unset).toArray = ls at hl ⊢
  have hl : lv_has ls 6 [(0, .ref m0), (1, .ref aS), (2, .int (nI (v))), (3, .int (nI (k)))] := hl
  have hw497 := hts _ (List.mem_cons_of_mem _ tw_497)
  have hw498 := hts _ (List.mem_cons_of_mem _ tw_498)
  have hw496 := hts _ (List.mem_cons_of_mem _ tw_496)
  refine dw_Q (fun Q hQ => ?_)
  suffices hgo : ∀ (H : Heap) (locs : List Loc), dw_G (dC, dI) vwCl [(cI, .int), (cZ, .boolean)] A s.heap s [(m0, .inr (5, [.int (ft), .int (vl), .ref aMd, .ref aO1, .ref aT2, .int (rs), .ref aSh, .ref aMk, .ref aFa, .ref aDe, .ref aNe, .ref aBy, .ref aPi, .int (nI (pn)), .ref aNw, .ref aNs, .ref aBf, .int (rn), .int (rr)])), (aS, .inl (cZ, 768, .inl (Se))), (aPi, .inl (cI, 1600, .inl (Pi))), (aMd, .inl (cI, 24, .inl (Md))), (aO1, .inl (cI, 24, .inl (O1))), (aT2, .inl (cI, 24, .inl (T2))), (aFa, .inl (cI, 768, .inl (Fa)))] H locs → W p l e (headSpec wsM_ask { frames := 2, cells := 0, slots := 0, locals := 60 }).room s m [.ref m0, .ref aS, .int (nI (v)), .int (nI (k))].toArray below meth c H locs 0 0 Q (F0 m 0 ls []) from hgo _ _ hG
  clear hG
  intro H locs hG
  refine lv_aload_n hx hb dM_ask_0 rfl (lv_at hl 0 rfl) ?_
  refine dw_get hx hb hts inMc hown hG 0 3 rfl rfl (by decide) hw497 rfl rfl dM_ask_1 ?_
  refine lv_iload_n hx hb dM_ask_4 rfl (lv_at hl 2 rfl) ?_
  refine dw_ia (x := nI (x)) hx hb hG 4 0 rfl rfl (v) rfl (by omega) (by decide) e1 dM_ask_5 ?_
  refine lv_istore (lv' := [(4, .int (nI (x))), (0, .ref m0), (1, .ref aS), (2, .int (nI (v))), (3, .int (nI (k)))]) hx hb dM_ask_6 hl (by decide) rfl (fun ls hl => ?_)
  refine lv_aload_n hx hb dM_ask_8 rfl (lv_at hl 1 rfl) ?_
  refine dw_get hx hb hts inMc hown hG 0 4 rfl rfl (by decide) hw498 rfl rfl dM_ask_9 ?_
  refine lv_iload_n hx hb dM_ask_12 rfl (lv_at hl 3 rfl) ?_
  refine dw_ia (x := nI (y)) hx hb hG 5 0 rfl rfl (v) rfl (by omega) (by decide) e2 dM_ask_13 ?_
  refine lv_istore (lv' := [(5, .int (nI (y))), (4, .int (nI (x))), (0, .ref m0), (1, .ref aS), (2, .int (nI (v))), (3, .int (nI (k)))]) hx hb dM_ask_14 hl (by decide) rfl (fun ls hl => ?_)
  refine lv_aload_n hx hb dM_ask_16 rfl (lv_at hl 2 rfl) ?_
  refine dw_get hx hb hts inMc hown hG 0 2 rfl rfl (by decide) hw496 rfl rfl dM_ask_17 ?_
  refine lv_iload_n hx hb dM_ask_20 rfl (lv_at hl 4 rfl) ?_
  refine dw_ia (x := 0) hx hb hG 3 0 rfl rfl (v) rfl (by omega) (by decide) em dM_ask_21 ?_
  refine lv_tableIn (tgt := 84) hx hb dM_ask_22 (by decide) (by decide) rfl (by decide) ?_
  refine lv_aload_n hx hb dM_ask_84 rfl (lv_at hl 2 rfl) ?_
  refine lv_aload_n hx hb dM_ask_85 rfl (lv_at hl 3 rfl) ?_
  refine lv_iload hx hb dM_ask_86 (lv_at hl 1 rfl) ?_
  refine lv_iload_n hx hb dM_ask_88 rfl (lv_at hl 5 rfl) ?_
  refine dw_callv (wc := [(m0, .inr (5, [.int (ft), .int (vl), .ref aMd, .ref aO1, .ref aT2, .int (rs), .ref aSh, .ref aMk, .ref aFa, .ref aDe, .ref aNe, .ref aBy, .ref aPi, .int (nI (pn)), .ref aNw, .ref aNs, .ref aBf, .int (rn), .int (rr)])), (aS, .inl (cZ, 768, .inl (Se))), (aPi, .inl (cI, 1600, .inl (Pi)))]) (wr := [(aMd, .inl (cI, 24, .inl (Md))), (aO1, .inl (cI, 24, .inl (O1))), (aT2, .inl (cI, 24, .inl (T2))), (aFa, .inl (cI, 768, .inl (Fa)))]) hG [0, 1, 2] [3, 4, 5, 6] rfl rfl (by decide) (by decide) (va_runV (As := [.ref aS, .int (nI (x)), .int (nI (k))]) (rest := []) ⟨hx, hb, hml, hown, hts⟩ (rf_wantUpTo l dC dI cI cZ m0 aMd aO1 aT2 aSh aMk aFa aDe aNe aBy aPi aNw aNs aBf (pn) aS ft vl rs rn rr (x) (k) (Se) (Pi) H.size (by omega) (by omega) hok) (dc_V 3 hts tw_652 tw_654 tp_M_wantUpTo tw_7 tw_655 rfl rfl (by decide +kernel) ⟨Nat.le_of_ble_eq_true rfl, Nat.le_of_ble_eq_true rfl⟩) (dw_preV (ci := 5) hG [0, 1, 2] [0, 1] rfl rfl (by decide) rfl rfl (q0 := 0) rfl) rfl rfl hl.1 rfl (lv_room (Nat.le_of_ble_eq_true rfl)) dM_ask_89 ⟨Nat.le_refl _, Nat.le_refl _⟩) (fun u12 H locs hu12 hG => ?_)
  have hG : dw_G (dC, dI) vwCl [(cI, .int), (cZ, .boolean)] A s.heap s [(aMd, .inl (cI, 24, .inl (Md))), (aO1, .inl (cI, 24, .inl (O1))), (aT2, .inl (cI, 24, .inl (T2))), (aFa, .inl (cI, 768, .inl (Fa))), (m0, .inr (5, [.int (ft), .int (vl), .ref aMd, .ref aO1, .ref aT2, .int (rs), .ref aSh, .ref aMk, .ref aFa, .ref aDe, .ref aNe, .ref aBy, .ref aPi, .int (nI (u12.2.2)), .ref aNw, .ref aNs, .ref aBf, .int (rn), .int (rr)])), (aS, .inl (cZ, 768, .inl (u12.1))), (aPi, .inl (cI, 1600, .inl (u12.2.1)))] H locs := hG
  refine lv_aload_n hx hb dM_ask_92 rfl (lv_at hl 2 rfl) ?_
  refine lv_aload_n hx hb dM_ask_93 rfl (lv_at hl 3 rfl) ?_
  refine lv_iload hx hb dM_ask_94 (lv_at hl 0 rfl) ?_
  refine lv_iload_n hx hb dM_ask_96 rfl (lv_at hl 5 rfl) ?_
  refine dw_callv (wc := [(m0, .inr (5, [.int (ft), .int (vl), .ref aMd, .ref aO1, .ref aT2, .int (rs), .ref aSh, .ref aMk, .ref aFa, .ref aDe, .ref aNe, .ref aBy, .ref aPi, .int (nI (u12.2.2)), .ref aNw, .ref aNs, .ref aBf, .int (rn), .int (rr)])), (aS, .inl (cZ, 768, .inl (u12.1))), (aPi, .inl (cI, 1600, .inl (u12.2.1)))]) (wr := [(aMd, .inl (cI, 24, .inl (Md))), (aO1, .inl (cI, 24, .inl (O1))), (aT2, .inl (cI, 24, .inl (T2))), (aFa, .inl (cI, 768, .inl (Fa)))]) hG [4, 5, 6] [0, 1, 2, 3] rfl rfl (by decide) (by decide) (va_runV (As := [.ref aS, .int (nI (y)), .int (nI (k))]) (rest := []) ⟨hx, hb, hml, hown, hts⟩ (rf_wantUpTo l dC dI cI cZ m0 aMd aO1 aT2 aSh aMk aFa aDe aNe aBy aPi aNw aNs aBf (u12.2.2) aS ft vl rs rn rr (y) (k) (u12.1) (u12.2.1) H.size (by omega) (by omega) (db_gr_ok hu12.1 hok)) (dc_V 3 hts tw_652 tw_654 tp_M_wantUpTo tw_7 tw_655 rfl rfl (by decide +kernel) ⟨Nat.le_of_ble_eq_true rfl, Nat.le_of_ble_eq_true rfl⟩) (dw_preV (ci := 5) hG [4, 5, 6] [0, 1] rfl rfl (by decide) rfl rfl (q0 := 4) rfl) rfl rfl hl.1 rfl (lv_room (Nat.le_of_ble_eq_true rfl)) dM_ask_97 ⟨Nat.le_refl _, Nat.le_refl _⟩) (fun u13 H locs hu13 hG => ?_)
  have hG : dw_G (dC, dI) vwCl [(cI, .int), (cZ, .boolean)] A s.heap s [(aMd, .inl (cI, 24, .inl (Md))), (aO1, .inl (cI, 24, .inl (O1))), (aT2, .inl (cI, 24, .inl (T2))), (aFa, .inl (cI, 768, .inl (Fa))), (m0, .inr (5, [.int (ft), .int (vl), .ref aMd, .ref aO1, .ref aT2, .int (rs), .ref aSh, .ref aMk, .ref aFa, .ref aDe, .ref aNe, .ref aBy, .ref aPi, .int (nI (u13.2.2)), .ref aNw, .ref aNs, .ref aBf, .int (rn), .int (rr)])), (aS, .inl (cZ, 768, .inl (u13.1))), (aPi, .inl (cI, 1600, .inl (u13.2.1)))] H locs := hG
  refine lv_goto (tgt := 265) hx hb dM_ask_100 (by decide) ?_
  subst hQ
  exact dw_vret hx hb hr (dw_perm hG [4, 5, 6, 0, 1, 2, 3] (by decide) rfl rfl) (u13) rfl (db_asked_or hu12 hu13 (fun w b q => by omega)) dM_ask_265 hlocks

set_option maxRecDepth 100000 in
set_option maxHeartbeats 4000000 in
theorem rf_ask1 (l : Launch) (dC : Nat → ClassId) (dI : Nat → Nat → Nat) (cI cZ : ClassId) (m0 aMd aO1 aT2 aSh aMk aFa aDe aNe aBy aPi aNw aNs aBf pn aS : Nat) (ft vl rs rn rr : Int32) (v k x y dd : Nat) (Se Pi Md O1 T2 Fa : Nat → Int32) (zx ox zy oy : Int32) (sz : Nat) (hv : v < 24) (hk : k < 32) (hok : db_ok (Se, Pi, pn)) (em : Md v = nI 1) (hx9 : x < 24) (e1 : O1 v = nI x) (hy9 : y < 24) (e2 : T2 v = nI y) : Met l yM_ask wsM_ask { frames := 2, cells := 0, slots := 0, locals := 60 } (va_Pc [.ref m0, .ref aS, .int (nI (v)), .int (nI (k))] (dw_pre (dC, dI) vwCl [(m0, .inr (5, [.int (ft), .int (vl), .ref aMd, .ref aO1, .ref aT2, .int (rs), .ref aSh, .ref aMk, .ref aFa, .ref aDe, .ref aNe, .ref aBy, .ref aPi, .int (nI (pn)), .ref aNw, .ref aNs, .ref aBf, .int (rn), .int (rr)])), (aS, .inl (cZ, 768, .inl (Se))), (aPi, .inl (cI, 1600, .inl (Pi))), (aMd, .inl (cI, 24, .inl (Md))), (aO1, .inl (cI, 24, .inl (O1))), (aT2, .inl (cI, 24, .inl (T2))), (aFa, .inl (cI, 768, .inl (Fa)))] [(cI, .int), (cZ, .boolean)] sz)) (va_Qv (fun (u : db_Q) => db_asked (fun w b => db_A 1 dd x y zx ox zy oy k w b) (Se, Pi, pn) u) (fun u t => dw_post (dC, dI) vwCl [(m0, .inr (5, [.int (ft), .int (vl), .ref aMd, .ref aO1, .ref aT2, .int (rs), .ref aSh, .ref aMk, .ref aFa, .ref aDe, .ref aNe, .ref aBy, .ref aPi, .int (nI u.2.2), .ref aNw, .ref aNs, .ref aBf, .int (rn), .int (rr)])), (aS, .inl (cZ, 768, .inl (u.1))), (aPi, .inl (cI, 1600, .inl (u.2.1))), (aMd, .inl (cI, 24, .inl (Md))), (aO1, .inl (cI, 24, .inl (O1))), (aT2, .inl (cI, 24, .inl (T2))), (aFa, .inl (cI, 768, .inl (Fa)))] [(cI, .int), (cZ, .boolean)] (va_A [(m0, .inr (5, [.int (ft), .int (vl), .ref aMd, .ref aO1, .ref aT2, .int (rs), .ref aSh, .ref aMk, .ref aFa, .ref aDe, .ref aNe, .ref aBy, .ref aPi, .int (nI (pn)), .ref aNw, .ref aNs, .ref aBf, .int (rn), .int (rr)])), (aS, .inl (cZ, 768, .inl (Se))), (aPi, .inl (cI, 1600, .inl (Pi))), (aMd, .inl (cI, 24, .inl (Md))), (aO1, .inl (cI, 24, .inl (O1))), (aT2, .inl (cI, 24, .inl (T2))), (aFa, .inl (cI, 768, .inl (Fa)))] sz) t) (va_A [(m0, .inr (5, [.int (ft), .int (vl), .ref aMd, .ref aO1, .ref aT2, .int (rs), .ref aSh, .ref aMk, .ref aFa, .ref aDe, .ref aNe, .ref aBy, .ref aPi, .int (nI (pn)), .ref aNw, .ref aNs, .ref aBf, .int (rn), .int (rr)])), (aS, .inl (cZ, 768, .inl (Se))), (aPi, .inl (cI, 1600, .inl (Pi))), (aMd, .inl (cI, 24, .inl (Md))), (aO1, .inl (cI, 24, .inl (O1))), (aT2, .inl (cI, 24, .inl (T2))), (aFa, .inl (cI, 768, .inl (Fa)))] sz)) 0 0 (va_A [(m0, .inr (5, [.int (ft), .int (vl), .ref aMd, .ref aO1, .ref aT2, .int (rs), .ref aSh, .ref aMk, .ref aFa, .ref aDe, .ref aNe, .ref aBy, .ref aPi, .int (nI (pn)), .ref aNw, .ref aNs, .ref aBf, .int (rn), .int (rr)])), (aS, .inl (cZ, 768, .inl (Se))), (aPi, .inl (cI, 1600, .inl (Pi))), (aMd, .inl (cI, 24, .inl (Md))), (aO1, .inl (cI, 24, .inl (O1))), (aT2, .inl (cI, 24, .inl (T2))), (aFa, .inl (cI, 768, .inl (Fa)))] sz) := by
  refine Met.ofW (cc := cM_ask) (maxL := 6) (ret := none) (by decide) rfl ?_
  intro p e s m args below meth c s₁ B hml hv0
  have hx := B.exec
  have hb := B.bytes
  have hr := B.returns
  have hts := atoms_spec (ws := wsM_ask) B.pre
  have hown : s.vm.findClass RM = some m.cls := findClass_of_methodNamed B.named
  have hlocks := B.notSynchronized
  obtain ⟨rfl, hsz, hG⟩ := dw_enter hv0
  generalize va_A [(m0, .inr (5, [.int (ft), .int (vl), .ref aMd, .ref aO1, .ref aT2, .int (rs), .ref aSh, .ref aMk, .ref aFa, .ref aDe, .ref aNe, .ref aBy, .ref aPi, .int (nI (pn)), .ref aNw, .ref aNs, .ref aBf, .int (rn), .int (rr)])), (aS, .inl (cZ, 768, .inl (Se))), (aPi, .inl (cI, 1600, .inl (Pi))), (aMd, .inl (cI, 24, .inl (Md))), (aO1, .inl (cI, 24, .inl (O1))), (aT2, .inl (cI, 24, .inl (T2))), (aFa, .inl (cI, 768, .inl (Fa)))] sz = A at hG ⊢
  have hl := lv_entry ([.ref m0, .ref aS, .int (nI (v)), .int (nI (k))]) (n := 6) (Nat.le_of_ble_eq_true rfl)
  rw [lg_entry_eq]
  generalize (lg_sl ([.ref m0, .ref aS, .int (nI (v)), .int (nI (k))]) ++ List.replicate (6 - (lg_sl ([.ref m0, .ref aS, .int (nI (v)), .int (nI (k))])).length) Slot.unset).toArray = ls at hl ⊢
  have hl : lv_has ls 6 [(0, .ref m0), (1, .ref aS), (2, .int (nI (v))), (3, .int (nI (k)))] := hl
  have hw497 := hts _ (List.mem_cons_of_mem _ tw_497)
  have hw498 := hts _ (List.mem_cons_of_mem _ tw_498)
  have hw496 := hts _ (List.mem_cons_of_mem _ tw_496)
  refine dw_Q (fun Q hQ => ?_)
  suffices hgo : ∀ (H : Heap) (locs : List Loc), dw_G (dC, dI) vwCl [(cI, .int), (cZ, .boolean)] A s.heap s [(m0, .inr (5, [.int (ft), .int (vl), .ref aMd, .ref aO1, .ref aT2, .int (rs), .ref aSh, .ref aMk, .ref aFa, .ref aDe, .ref aNe, .ref aBy, .ref aPi, .int (nI (pn)), .ref aNw, .ref aNs, .ref aBf, .int (rn), .int (rr)])), (aS, .inl (cZ, 768, .inl (Se))), (aPi, .inl (cI, 1600, .inl (Pi))), (aMd, .inl (cI, 24, .inl (Md))), (aO1, .inl (cI, 24, .inl (O1))), (aT2, .inl (cI, 24, .inl (T2))), (aFa, .inl (cI, 768, .inl (Fa)))] H locs → W p l e (headSpec wsM_ask { frames := 2, cells := 0, slots := 0, locals := 60 }).room s m [.ref m0, .ref aS, .int (nI (v)), .int (nI (k))].toArray below meth c H locs 0 0 Q (F0 m 0 ls []) from hgo _ _ hG
  clear hG
  intro H locs hG
  refine lv_aload_n hx hb dM_ask_0 rfl (lv_at hl 0 rfl) ?_
  refine dw_get hx hb hts inMc hown hG 0 3 rfl rfl (by decide) hw497 rfl rfl dM_ask_1 ?_
  refine lv_iload_n hx hb dM_ask_4 rfl (lv_at hl 2 rfl) ?_
  refine dw_ia (x := nI (x)) hx hb hG 4 0 rfl rfl (v) rfl (by omega) (by decide) e1 dM_ask_5 ?_
  refine lv_istore (lv' := [(4, .int (nI (x))), (0, .ref m0), (1, .ref aS), (2, .int (nI (v))), (3, .int (nI (k)))]) hx hb dM_ask_6 hl (by decide) rfl (fun ls hl => ?_)
  refine lv_aload_n hx hb dM_ask_8 rfl (lv_at hl 1 rfl) ?_
  refine dw_get hx hb hts inMc hown hG 0 4 rfl rfl (by decide) hw498 rfl rfl dM_ask_9 ?_
  refine lv_iload_n hx hb dM_ask_12 rfl (lv_at hl 3 rfl) ?_
  refine dw_ia (x := nI (y)) hx hb hG 5 0 rfl rfl (v) rfl (by omega) (by decide) e2 dM_ask_13 ?_
  refine lv_istore (lv' := [(5, .int (nI (y))), (4, .int (nI (x))), (0, .ref m0), (1, .ref aS), (2, .int (nI (v))), (3, .int (nI (k)))]) hx hb dM_ask_14 hl (by decide) rfl (fun ls hl => ?_)
  refine lv_aload_n hx hb dM_ask_16 rfl (lv_at hl 2 rfl) ?_
  refine dw_get hx hb hts inMc hown hG 0 2 rfl rfl (by decide) hw496 rfl rfl dM_ask_17 ?_
  refine lv_iload_n hx hb dM_ask_20 rfl (lv_at hl 4 rfl) ?_
  refine dw_ia (x := 1) hx hb hG 3 0 rfl rfl (v) rfl (by omega) (by decide) em dM_ask_21 ?_
  refine lv_tableIn (tgt := 84) hx hb dM_ask_22 (by decide) (by decide) rfl (by decide) ?_
  refine lv_aload_n hx hb dM_ask_84 rfl (lv_at hl 2 rfl) ?_
  refine lv_aload_n hx hb dM_ask_85 rfl (lv_at hl 3 rfl) ?_
  refine lv_iload hx hb dM_ask_86 (lv_at hl 1 rfl) ?_
  refine lv_iload_n hx hb dM_ask_88 rfl (lv_at hl 5 rfl) ?_
  refine dw_callv (wc := [(m0, .inr (5, [.int (ft), .int (vl), .ref aMd, .ref aO1, .ref aT2, .int (rs), .ref aSh, .ref aMk, .ref aFa, .ref aDe, .ref aNe, .ref aBy, .ref aPi, .int (nI (pn)), .ref aNw, .ref aNs, .ref aBf, .int (rn), .int (rr)])), (aS, .inl (cZ, 768, .inl (Se))), (aPi, .inl (cI, 1600, .inl (Pi)))]) (wr := [(aMd, .inl (cI, 24, .inl (Md))), (aO1, .inl (cI, 24, .inl (O1))), (aT2, .inl (cI, 24, .inl (T2))), (aFa, .inl (cI, 768, .inl (Fa)))]) hG [0, 1, 2] [3, 4, 5, 6] rfl rfl (by decide) (by decide) (va_runV (As := [.ref aS, .int (nI (x)), .int (nI (k))]) (rest := []) ⟨hx, hb, hml, hown, hts⟩ (rf_wantUpTo l dC dI cI cZ m0 aMd aO1 aT2 aSh aMk aFa aDe aNe aBy aPi aNw aNs aBf (pn) aS ft vl rs rn rr (x) (k) (Se) (Pi) H.size (by omega) (by omega) hok) (dc_V 3 hts tw_652 tw_654 tp_M_wantUpTo tw_7 tw_655 rfl rfl (by decide +kernel) ⟨Nat.le_of_ble_eq_true rfl, Nat.le_of_ble_eq_true rfl⟩) (dw_preV (ci := 5) hG [0, 1, 2] [0, 1] rfl rfl (by decide) rfl rfl (q0 := 0) rfl) rfl rfl hl.1 rfl (lv_room (Nat.le_of_ble_eq_true rfl)) dM_ask_89 ⟨Nat.le_refl _, Nat.le_refl _⟩) (fun u14 H locs hu14 hG => ?_)
  have hG : dw_G (dC, dI) vwCl [(cI, .int), (cZ, .boolean)] A s.heap s [(aMd, .inl (cI, 24, .inl (Md))), (aO1, .inl (cI, 24, .inl (O1))), (aT2, .inl (cI, 24, .inl (T2))), (aFa, .inl (cI, 768, .inl (Fa))), (m0, .inr (5, [.int (ft), .int (vl), .ref aMd, .ref aO1, .ref aT2, .int (rs), .ref aSh, .ref aMk, .ref aFa, .ref aDe, .ref aNe, .ref aBy, .ref aPi, .int (nI (u14.2.2)), .ref aNw, .ref aNs, .ref aBf, .int (rn), .int (rr)])), (aS, .inl (cZ, 768, .inl (u14.1))), (aPi, .inl (cI, 1600, .inl (u14.2.1)))] H locs := hG
  refine lv_aload_n hx hb dM_ask_92 rfl (lv_at hl 2 rfl) ?_
  refine lv_aload_n hx hb dM_ask_93 rfl (lv_at hl 3 rfl) ?_
  refine lv_iload hx hb dM_ask_94 (lv_at hl 0 rfl) ?_
  refine lv_iload_n hx hb dM_ask_96 rfl (lv_at hl 5 rfl) ?_
  refine dw_callv (wc := [(m0, .inr (5, [.int (ft), .int (vl), .ref aMd, .ref aO1, .ref aT2, .int (rs), .ref aSh, .ref aMk, .ref aFa, .ref aDe, .ref aNe, .ref aBy, .ref aPi, .int (nI (u14.2.2)), .ref aNw, .ref aNs, .ref aBf, .int (rn), .int (rr)])), (aS, .inl (cZ, 768, .inl (u14.1))), (aPi, .inl (cI, 1600, .inl (u14.2.1)))]) (wr := [(aMd, .inl (cI, 24, .inl (Md))), (aO1, .inl (cI, 24, .inl (O1))), (aT2, .inl (cI, 24, .inl (T2))), (aFa, .inl (cI, 768, .inl (Fa)))]) hG [4, 5, 6] [0, 1, 2, 3] rfl rfl (by decide) (by decide) (va_runV (As := [.ref aS, .int (nI (y)), .int (nI (k))]) (rest := []) ⟨hx, hb, hml, hown, hts⟩ (rf_wantUpTo l dC dI cI cZ m0 aMd aO1 aT2 aSh aMk aFa aDe aNe aBy aPi aNw aNs aBf (u14.2.2) aS ft vl rs rn rr (y) (k) (u14.1) (u14.2.1) H.size (by omega) (by omega) (db_gr_ok hu14.1 hok)) (dc_V 3 hts tw_652 tw_654 tp_M_wantUpTo tw_7 tw_655 rfl rfl (by decide +kernel) ⟨Nat.le_of_ble_eq_true rfl, Nat.le_of_ble_eq_true rfl⟩) (dw_preV (ci := 5) hG [4, 5, 6] [0, 1] rfl rfl (by decide) rfl rfl (q0 := 4) rfl) rfl rfl hl.1 rfl (lv_room (Nat.le_of_ble_eq_true rfl)) dM_ask_97 ⟨Nat.le_refl _, Nat.le_refl _⟩) (fun u15 H locs hu15 hG => ?_)
  have hG : dw_G (dC, dI) vwCl [(cI, .int), (cZ, .boolean)] A s.heap s [(aMd, .inl (cI, 24, .inl (Md))), (aO1, .inl (cI, 24, .inl (O1))), (aT2, .inl (cI, 24, .inl (T2))), (aFa, .inl (cI, 768, .inl (Fa))), (m0, .inr (5, [.int (ft), .int (vl), .ref aMd, .ref aO1, .ref aT2, .int (rs), .ref aSh, .ref aMk, .ref aFa, .ref aDe, .ref aNe, .ref aBy, .ref aPi, .int (nI (u15.2.2)), .ref aNw, .ref aNs, .ref aBf, .int (rn), .int (rr)])), (aS, .inl (cZ, 768, .inl (u15.1))), (aPi, .inl (cI, 1600, .inl (u15.2.1)))] H locs := hG
  refine lv_goto (tgt := 265) hx hb dM_ask_100 (by decide) ?_
  subst hQ
  exact dw_vret hx hb hr (dw_perm hG [4, 5, 6, 0, 1, 2, 3] (by decide) rfl rfl) (u15) rfl (db_asked_or hu14 hu15 (fun w b q => by omega)) dM_ask_265 hlocks

set_option maxRecDepth 100000 in
set_option maxHeartbeats 4000000 in
theorem rf_ask2 (l : Launch) (dC : Nat → ClassId) (dI : Nat → Nat → Nat) (cI cZ : ClassId) (m0 aMd aO1 aT2 aSh aMk aFa aDe aNe aBy aPi aNw aNs aBf pn aS : Nat) (ft vl rs rn rr : Int32) (v k x y dd : Nat) (Se Pi Md O1 T2 Fa : Nat → Int32) (zx ox zy oy : Int32) (sz : Nat) (hv : v < 24) (hk : k < 32) (hok : db_ok (Se, Pi, pn)) (em : Md v = nI 2) (hx9 : x < 24) (e1 : O1 v = nI x) (hy9 : y < 24) (e2 : T2 v = nI y) : Met l yM_ask wsM_ask { frames := 2, cells := 0, slots := 0, locals := 60 } (va_Pc [.ref m0, .ref aS, .int (nI (v)), .int (nI (k))] (dw_pre (dC, dI) vwCl [(m0, .inr (5, [.int (ft), .int (vl), .ref aMd, .ref aO1, .ref aT2, .int (rs), .ref aSh, .ref aMk, .ref aFa, .ref aDe, .ref aNe, .ref aBy, .ref aPi, .int (nI (pn)), .ref aNw, .ref aNs, .ref aBf, .int (rn), .int (rr)])), (aS, .inl (cZ, 768, .inl (Se))), (aPi, .inl (cI, 1600, .inl (Pi))), (aMd, .inl (cI, 24, .inl (Md))), (aO1, .inl (cI, 24, .inl (O1))), (aT2, .inl (cI, 24, .inl (T2))), (aFa, .inl (cI, 768, .inl (Fa)))] [(cI, .int), (cZ, .boolean)] sz)) (va_Qv (fun (u : db_Q) => db_asked (fun w b => db_A 2 dd x y zx ox zy oy k w b) (Se, Pi, pn) u) (fun u t => dw_post (dC, dI) vwCl [(m0, .inr (5, [.int (ft), .int (vl), .ref aMd, .ref aO1, .ref aT2, .int (rs), .ref aSh, .ref aMk, .ref aFa, .ref aDe, .ref aNe, .ref aBy, .ref aPi, .int (nI u.2.2), .ref aNw, .ref aNs, .ref aBf, .int (rn), .int (rr)])), (aS, .inl (cZ, 768, .inl (u.1))), (aPi, .inl (cI, 1600, .inl (u.2.1))), (aMd, .inl (cI, 24, .inl (Md))), (aO1, .inl (cI, 24, .inl (O1))), (aT2, .inl (cI, 24, .inl (T2))), (aFa, .inl (cI, 768, .inl (Fa)))] [(cI, .int), (cZ, .boolean)] (va_A [(m0, .inr (5, [.int (ft), .int (vl), .ref aMd, .ref aO1, .ref aT2, .int (rs), .ref aSh, .ref aMk, .ref aFa, .ref aDe, .ref aNe, .ref aBy, .ref aPi, .int (nI (pn)), .ref aNw, .ref aNs, .ref aBf, .int (rn), .int (rr)])), (aS, .inl (cZ, 768, .inl (Se))), (aPi, .inl (cI, 1600, .inl (Pi))), (aMd, .inl (cI, 24, .inl (Md))), (aO1, .inl (cI, 24, .inl (O1))), (aT2, .inl (cI, 24, .inl (T2))), (aFa, .inl (cI, 768, .inl (Fa)))] sz) t) (va_A [(m0, .inr (5, [.int (ft), .int (vl), .ref aMd, .ref aO1, .ref aT2, .int (rs), .ref aSh, .ref aMk, .ref aFa, .ref aDe, .ref aNe, .ref aBy, .ref aPi, .int (nI (pn)), .ref aNw, .ref aNs, .ref aBf, .int (rn), .int (rr)])), (aS, .inl (cZ, 768, .inl (Se))), (aPi, .inl (cI, 1600, .inl (Pi))), (aMd, .inl (cI, 24, .inl (Md))), (aO1, .inl (cI, 24, .inl (O1))), (aT2, .inl (cI, 24, .inl (T2))), (aFa, .inl (cI, 768, .inl (Fa)))] sz)) 0 0 (va_A [(m0, .inr (5, [.int (ft), .int (vl), .ref aMd, .ref aO1, .ref aT2, .int (rs), .ref aSh, .ref aMk, .ref aFa, .ref aDe, .ref aNe, .ref aBy, .ref aPi, .int (nI (pn)), .ref aNw, .ref aNs, .ref aBf, .int (rn), .int (rr)])), (aS, .inl (cZ, 768, .inl (Se))), (aPi, .inl (cI, 1600, .inl (Pi))), (aMd, .inl (cI, 24, .inl (Md))), (aO1, .inl (cI, 24, .inl (O1))), (aT2, .inl (cI, 24, .inl (T2))), (aFa, .inl (cI, 768, .inl (Fa)))] sz) := by
  refine Met.ofW (cc := cM_ask) (maxL := 6) (ret := none) (by decide) rfl ?_
  intro p e s m args below meth c s₁ B hml hv0
  have hx := B.exec
  have hb := B.bytes
  have hr := B.returns
  have hts := atoms_spec (ws := wsM_ask) B.pre
  have hown : s.vm.findClass RM = some m.cls := findClass_of_methodNamed B.named
  have hlocks := B.notSynchronized
  obtain ⟨rfl, hsz, hG⟩ := dw_enter hv0
  generalize va_A [(m0, .inr (5, [.int (ft), .int (vl), .ref aMd, .ref aO1, .ref aT2, .int (rs), .ref aSh, .ref aMk, .ref aFa, .ref aDe, .ref aNe, .ref aBy, .ref aPi, .int (nI (pn)), .ref aNw, .ref aNs, .ref aBf, .int (rn), .int (rr)])), (aS, .inl (cZ, 768, .inl (Se))), (aPi, .inl (cI, 1600, .inl (Pi))), (aMd, .inl (cI, 24, .inl (Md))), (aO1, .inl (cI, 24, .inl (O1))), (aT2, .inl (cI, 24, .inl (T2))), (aFa, .inl (cI, 768, .inl (Fa)))] sz = A at hG ⊢
  have hl := lv_entry ([.ref m0, .ref aS, .int (nI (v)), .int (nI (k))]) (n := 6) (Nat.le_of_ble_eq_true rfl)
  rw [lg_entry_eq]
  generalize (lg_sl ([.ref m0, .ref aS, .int (nI (v)), .int (nI (k))]) ++ List.replicate (6 - (lg_sl ([.ref m0, .ref aS, .int (nI (v)), .int (nI (k))])).length) Slot.unset).toArray = ls at hl ⊢
  have hl : lv_has ls 6 [(0, .ref m0), (1, .ref aS), (2, .int (nI (v))), (3, .int (nI (k)))] := hl
  have hw497 := hts _ (List.mem_cons_of_mem _ tw_497)
  have hw498 := hts _ (List.mem_cons_of_mem _ tw_498)
  have hw496 := hts _ (List.mem_cons_of_mem _ tw_496)
  refine dw_Q (fun Q hQ => ?_)
  suffices hgo : ∀ (H : Heap) (locs : List Loc), dw_G (dC, dI) vwCl [(cI, .int), (cZ, .boolean)] A s.heap s [(m0, .inr (5, [.int (ft), .int (vl), .ref aMd, .ref aO1, .ref aT2, .int (rs), .ref aSh, .ref aMk, .ref aFa, .ref aDe, .ref aNe, .ref aBy, .ref aPi, .int (nI (pn)), .ref aNw, .ref aNs, .ref aBf, .int (rn), .int (rr)])), (aS, .inl (cZ, 768, .inl (Se))), (aPi, .inl (cI, 1600, .inl (Pi))), (aMd, .inl (cI, 24, .inl (Md))), (aO1, .inl (cI, 24, .inl (O1))), (aT2, .inl (cI, 24, .inl (T2))), (aFa, .inl (cI, 768, .inl (Fa)))] H locs → W p l e (headSpec wsM_ask { frames := 2, cells := 0, slots := 0, locals := 60 }).room s m [.ref m0, .ref aS, .int (nI (v)), .int (nI (k))].toArray below meth c H locs 0 0 Q (F0 m 0 ls []) from hgo _ _ hG
  clear hG
  intro H locs hG
  refine lv_aload_n hx hb dM_ask_0 rfl (lv_at hl 0 rfl) ?_
  refine dw_get hx hb hts inMc hown hG 0 3 rfl rfl (by decide) hw497 rfl rfl dM_ask_1 ?_
  refine lv_iload_n hx hb dM_ask_4 rfl (lv_at hl 2 rfl) ?_
  refine dw_ia (x := nI (x)) hx hb hG 4 0 rfl rfl (v) rfl (by omega) (by decide) e1 dM_ask_5 ?_
  refine lv_istore (lv' := [(4, .int (nI (x))), (0, .ref m0), (1, .ref aS), (2, .int (nI (v))), (3, .int (nI (k)))]) hx hb dM_ask_6 hl (by decide) rfl (fun ls hl => ?_)
  refine lv_aload_n hx hb dM_ask_8 rfl (lv_at hl 1 rfl) ?_
  refine dw_get hx hb hts inMc hown hG 0 4 rfl rfl (by decide) hw498 rfl rfl dM_ask_9 ?_
  refine lv_iload_n hx hb dM_ask_12 rfl (lv_at hl 3 rfl) ?_
  refine dw_ia (x := nI (y)) hx hb hG 5 0 rfl rfl (v) rfl (by omega) (by decide) e2 dM_ask_13 ?_
  refine lv_istore (lv' := [(5, .int (nI (y))), (4, .int (nI (x))), (0, .ref m0), (1, .ref aS), (2, .int (nI (v))), (3, .int (nI (k)))]) hx hb dM_ask_14 hl (by decide) rfl (fun ls hl => ?_)
  refine lv_aload_n hx hb dM_ask_16 rfl (lv_at hl 2 rfl) ?_
  refine dw_get hx hb hts inMc hown hG 0 2 rfl rfl (by decide) hw496 rfl rfl dM_ask_17 ?_
  refine lv_iload_n hx hb dM_ask_20 rfl (lv_at hl 4 rfl) ?_
  refine dw_ia (x := 2) hx hb hG 3 0 rfl rfl (v) rfl (by omega) (by decide) em dM_ask_21 ?_
  refine lv_tableIn (tgt := 84) hx hb dM_ask_22 (by decide) (by decide) rfl (by decide) ?_
  refine lv_aload_n hx hb dM_ask_84 rfl (lv_at hl 2 rfl) ?_
  refine lv_aload_n hx hb dM_ask_85 rfl (lv_at hl 3 rfl) ?_
  refine lv_iload hx hb dM_ask_86 (lv_at hl 1 rfl) ?_
  refine lv_iload_n hx hb dM_ask_88 rfl (lv_at hl 5 rfl) ?_
  refine dw_callv (wc := [(m0, .inr (5, [.int (ft), .int (vl), .ref aMd, .ref aO1, .ref aT2, .int (rs), .ref aSh, .ref aMk, .ref aFa, .ref aDe, .ref aNe, .ref aBy, .ref aPi, .int (nI (pn)), .ref aNw, .ref aNs, .ref aBf, .int (rn), .int (rr)])), (aS, .inl (cZ, 768, .inl (Se))), (aPi, .inl (cI, 1600, .inl (Pi)))]) (wr := [(aMd, .inl (cI, 24, .inl (Md))), (aO1, .inl (cI, 24, .inl (O1))), (aT2, .inl (cI, 24, .inl (T2))), (aFa, .inl (cI, 768, .inl (Fa)))]) hG [0, 1, 2] [3, 4, 5, 6] rfl rfl (by decide) (by decide) (va_runV (As := [.ref aS, .int (nI (x)), .int (nI (k))]) (rest := []) ⟨hx, hb, hml, hown, hts⟩ (rf_wantUpTo l dC dI cI cZ m0 aMd aO1 aT2 aSh aMk aFa aDe aNe aBy aPi aNw aNs aBf (pn) aS ft vl rs rn rr (x) (k) (Se) (Pi) H.size (by omega) (by omega) hok) (dc_V 3 hts tw_652 tw_654 tp_M_wantUpTo tw_7 tw_655 rfl rfl (by decide +kernel) ⟨Nat.le_of_ble_eq_true rfl, Nat.le_of_ble_eq_true rfl⟩) (dw_preV (ci := 5) hG [0, 1, 2] [0, 1] rfl rfl (by decide) rfl rfl (q0 := 0) rfl) rfl rfl hl.1 rfl (lv_room (Nat.le_of_ble_eq_true rfl)) dM_ask_89 ⟨Nat.le_refl _, Nat.le_refl _⟩) (fun u16 H locs hu16 hG => ?_)
  have hG : dw_G (dC, dI) vwCl [(cI, .int), (cZ, .boolean)] A s.heap s [(aMd, .inl (cI, 24, .inl (Md))), (aO1, .inl (cI, 24, .inl (O1))), (aT2, .inl (cI, 24, .inl (T2))), (aFa, .inl (cI, 768, .inl (Fa))), (m0, .inr (5, [.int (ft), .int (vl), .ref aMd, .ref aO1, .ref aT2, .int (rs), .ref aSh, .ref aMk, .ref aFa, .ref aDe, .ref aNe, .ref aBy, .ref aPi, .int (nI (u16.2.2)), .ref aNw, .ref aNs, .ref aBf, .int (rn), .int (rr)])), (aS, .inl (cZ, 768, .inl (u16.1))), (aPi, .inl (cI, 1600, .inl (u16.2.1)))] H locs := hG
  refine lv_aload_n hx hb dM_ask_92 rfl (lv_at hl 2 rfl) ?_
  refine lv_aload_n hx hb dM_ask_93 rfl (lv_at hl 3 rfl) ?_
  refine lv_iload hx hb dM_ask_94 (lv_at hl 0 rfl) ?_
  refine lv_iload_n hx hb dM_ask_96 rfl (lv_at hl 5 rfl) ?_
  refine dw_callv (wc := [(m0, .inr (5, [.int (ft), .int (vl), .ref aMd, .ref aO1, .ref aT2, .int (rs), .ref aSh, .ref aMk, .ref aFa, .ref aDe, .ref aNe, .ref aBy, .ref aPi, .int (nI (u16.2.2)), .ref aNw, .ref aNs, .ref aBf, .int (rn), .int (rr)])), (aS, .inl (cZ, 768, .inl (u16.1))), (aPi, .inl (cI, 1600, .inl (u16.2.1)))]) (wr := [(aMd, .inl (cI, 24, .inl (Md))), (aO1, .inl (cI, 24, .inl (O1))), (aT2, .inl (cI, 24, .inl (T2))), (aFa, .inl (cI, 768, .inl (Fa)))]) hG [4, 5, 6] [0, 1, 2, 3] rfl rfl (by decide) (by decide) (va_runV (As := [.ref aS, .int (nI (y)), .int (nI (k))]) (rest := []) ⟨hx, hb, hml, hown, hts⟩ (rf_wantUpTo l dC dI cI cZ m0 aMd aO1 aT2 aSh aMk aFa aDe aNe aBy aPi aNw aNs aBf (u16.2.2) aS ft vl rs rn rr (y) (k) (u16.1) (u16.2.1) H.size (by omega) (by omega) (db_gr_ok hu16.1 hok)) (dc_V 3 hts tw_652 tw_654 tp_M_wantUpTo tw_7 tw_655 rfl rfl (by decide +kernel) ⟨Nat.le_of_ble_eq_true rfl, Nat.le_of_ble_eq_true rfl⟩) (dw_preV (ci := 5) hG [4, 5, 6] [0, 1] rfl rfl (by decide) rfl rfl (q0 := 4) rfl) rfl rfl hl.1 rfl (lv_room (Nat.le_of_ble_eq_true rfl)) dM_ask_97 ⟨Nat.le_refl _, Nat.le_refl _⟩) (fun u17 H locs hu17 hG => ?_)
  have hG : dw_G (dC, dI) vwCl [(cI, .int), (cZ, .boolean)] A s.heap s [(aMd, .inl (cI, 24, .inl (Md))), (aO1, .inl (cI, 24, .inl (O1))), (aT2, .inl (cI, 24, .inl (T2))), (aFa, .inl (cI, 768, .inl (Fa))), (m0, .inr (5, [.int (ft), .int (vl), .ref aMd, .ref aO1, .ref aT2, .int (rs), .ref aSh, .ref aMk, .ref aFa, .ref aDe, .ref aNe, .ref aBy, .ref aPi, .int (nI (u17.2.2)), .ref aNw, .ref aNs, .ref aBf, .int (rn), .int (rr)])), (aS, .inl (cZ, 768, .inl (u17.1))), (aPi, .inl (cI, 1600, .inl (u17.2.1)))] H locs := hG
  refine lv_goto (tgt := 265) hx hb dM_ask_100 (by decide) ?_
  subst hQ
  exact dw_vret hx hb hr (dw_perm hG [4, 5, 6, 0, 1, 2, 3] (by decide) rfl rfl) (u17) rfl (db_asked_or hu16 hu17 (fun w b q => by omega)) dM_ask_265 hlocks

set_option maxRecDepth 100000 in
set_option maxHeartbeats 4000000 in
theorem rf_ask3 (l : Launch) (dC : Nat → ClassId) (dI : Nat → Nat → Nat) (cI cZ : ClassId) (m0 aMd aO1 aT2 aSh aMk aFa aDe aNe aBy aPi aNw aNs aBf pn aS : Nat) (ft vl rs rn rr : Int32) (v k x y dd : Nat) (Se Pi Md O1 T2 Fa : Nat → Int32) (zx ox zy oy : Int32) (sz : Nat) (hv : v < 24) (hk : k < 32) (hok : db_ok (Se, Pi, pn)) (em : Md v = nI 3) (hx9 : x < 24) (e1 : O1 v = nI x) (hy9 : y < 24) (e2 : T2 v = nI y) (hfx : db_rep Fa x zx ox) (hfy : db_rep Fa y zy oy) (hax : db_ap zx ox) (hay : db_ap zy oy) : Met l yM_ask wsM_ask { frames := 2, cells := 0, slots := 0, locals := 60 } (va_Pc [.ref m0, .ref aS, .int (nI (v)), .int (nI (k))] (dw_pre (dC, dI) vwCl [(m0, .inr (5, [.int (ft), .int (vl), .ref aMd, .ref aO1, .ref aT2, .int (rs), .ref aSh, .ref aMk, .ref aFa, .ref aDe, .ref aNe, .ref aBy, .ref aPi, .int (nI (pn)), .ref aNw, .ref aNs, .ref aBf, .int (rn), .int (rr)])), (aS, .inl (cZ, 768, .inl (Se))), (aPi, .inl (cI, 1600, .inl (Pi))), (aMd, .inl (cI, 24, .inl (Md))), (aO1, .inl (cI, 24, .inl (O1))), (aT2, .inl (cI, 24, .inl (T2))), (aFa, .inl (cI, 768, .inl (Fa)))] [(cI, .int), (cZ, .boolean)] sz)) (va_Qv (fun (u : db_Q) => db_asked (fun w b => db_A 3 dd x y zx ox zy oy k w b) (Se, Pi, pn) u) (fun u t => dw_post (dC, dI) vwCl [(m0, .inr (5, [.int (ft), .int (vl), .ref aMd, .ref aO1, .ref aT2, .int (rs), .ref aSh, .ref aMk, .ref aFa, .ref aDe, .ref aNe, .ref aBy, .ref aPi, .int (nI u.2.2), .ref aNw, .ref aNs, .ref aBf, .int (rn), .int (rr)])), (aS, .inl (cZ, 768, .inl (u.1))), (aPi, .inl (cI, 1600, .inl (u.2.1))), (aMd, .inl (cI, 24, .inl (Md))), (aO1, .inl (cI, 24, .inl (O1))), (aT2, .inl (cI, 24, .inl (T2))), (aFa, .inl (cI, 768, .inl (Fa)))] [(cI, .int), (cZ, .boolean)] (va_A [(m0, .inr (5, [.int (ft), .int (vl), .ref aMd, .ref aO1, .ref aT2, .int (rs), .ref aSh, .ref aMk, .ref aFa, .ref aDe, .ref aNe, .ref aBy, .ref aPi, .int (nI (pn)), .ref aNw, .ref aNs, .ref aBf, .int (rn), .int (rr)])), (aS, .inl (cZ, 768, .inl (Se))), (aPi, .inl (cI, 1600, .inl (Pi))), (aMd, .inl (cI, 24, .inl (Md))), (aO1, .inl (cI, 24, .inl (O1))), (aT2, .inl (cI, 24, .inl (T2))), (aFa, .inl (cI, 768, .inl (Fa)))] sz) t) (va_A [(m0, .inr (5, [.int (ft), .int (vl), .ref aMd, .ref aO1, .ref aT2, .int (rs), .ref aSh, .ref aMk, .ref aFa, .ref aDe, .ref aNe, .ref aBy, .ref aPi, .int (nI (pn)), .ref aNw, .ref aNs, .ref aBf, .int (rn), .int (rr)])), (aS, .inl (cZ, 768, .inl (Se))), (aPi, .inl (cI, 1600, .inl (Pi))), (aMd, .inl (cI, 24, .inl (Md))), (aO1, .inl (cI, 24, .inl (O1))), (aT2, .inl (cI, 24, .inl (T2))), (aFa, .inl (cI, 768, .inl (Fa)))] sz)) 0 0 (va_A [(m0, .inr (5, [.int (ft), .int (vl), .ref aMd, .ref aO1, .ref aT2, .int (rs), .ref aSh, .ref aMk, .ref aFa, .ref aDe, .ref aNe, .ref aBy, .ref aPi, .int (nI (pn)), .ref aNw, .ref aNs, .ref aBf, .int (rn), .int (rr)])), (aS, .inl (cZ, 768, .inl (Se))), (aPi, .inl (cI, 1600, .inl (Pi))), (aMd, .inl (cI, 24, .inl (Md))), (aO1, .inl (cI, 24, .inl (O1))), (aT2, .inl (cI, 24, .inl (T2))), (aFa, .inl (cI, 768, .inl (Fa)))] sz) := by
  refine Met.ofW (cc := cM_ask) (maxL := 6) (ret := none) (by decide) rfl ?_
  intro p e s m args below meth c s₁ B hml hv0
  have hx := B.exec
  have hb := B.bytes
  have hr := B.returns
  have hts := atoms_spec (ws := wsM_ask) B.pre
  have hown : s.vm.findClass RM = some m.cls := findClass_of_methodNamed B.named
  have hlocks := B.notSynchronized
  obtain ⟨rfl, hsz, hG⟩ := dw_enter hv0
  generalize va_A [(m0, .inr (5, [.int (ft), .int (vl), .ref aMd, .ref aO1, .ref aT2, .int (rs), .ref aSh, .ref aMk, .ref aFa, .ref aDe, .ref aNe, .ref aBy, .ref aPi, .int (nI (pn)), .ref aNw, .ref aNs, .ref aBf, .int (rn), .int (rr)])), (aS, .inl (cZ, 768, .inl (Se))), (aPi, .inl (cI, 1600, .inl (Pi))), (aMd, .inl (cI, 24, .inl (Md))), (aO1, .inl (cI, 24, .inl (O1))), (aT2, .inl (cI, 24, .inl (T2))), (aFa, .inl (cI, 768, .inl (Fa)))] sz = A at hG ⊢
  have hl := lv_entry ([.ref m0, .ref aS, .int (nI (v)), .int (nI (k))]) (n := 6) (Nat.le_of_ble_eq_true rfl)
  rw [lg_entry_eq]
  generalize (lg_sl ([.ref m0, .ref aS, .int (nI (v)), .int (nI (k))]) ++ List.replicate (6 - (lg_sl ([.ref m0, .ref aS, .int (nI (v)), .int (nI (k))])).length) Slot.unset).toArray = ls at hl ⊢
  have hl : lv_has ls 6 [(0, .ref m0), (1, .ref aS), (2, .int (nI (v))), (3, .int (nI (k)))] := hl
  have hw497 := hts _ (List.mem_cons_of_mem _ tw_497)
  have hw498 := hts _ (List.mem_cons_of_mem _ tw_498)
  have hw496 := hts _ (List.mem_cons_of_mem _ tw_496)
  refine dw_Q (fun Q hQ => ?_)
  suffices hgo : ∀ (H : Heap) (locs : List Loc), dw_G (dC, dI) vwCl [(cI, .int), (cZ, .boolean)] A s.heap s [(m0, .inr (5, [.int (ft), .int (vl), .ref aMd, .ref aO1, .ref aT2, .int (rs), .ref aSh, .ref aMk, .ref aFa, .ref aDe, .ref aNe, .ref aBy, .ref aPi, .int (nI (pn)), .ref aNw, .ref aNs, .ref aBf, .int (rn), .int (rr)])), (aS, .inl (cZ, 768, .inl (Se))), (aPi, .inl (cI, 1600, .inl (Pi))), (aMd, .inl (cI, 24, .inl (Md))), (aO1, .inl (cI, 24, .inl (O1))), (aT2, .inl (cI, 24, .inl (T2))), (aFa, .inl (cI, 768, .inl (Fa)))] H locs → W p l e (headSpec wsM_ask { frames := 2, cells := 0, slots := 0, locals := 60 }).room s m [.ref m0, .ref aS, .int (nI (v)), .int (nI (k))].toArray below meth c H locs 0 0 Q (F0 m 0 ls []) from hgo _ _ hG
  clear hG
  intro H locs hG
  refine lv_aload_n hx hb dM_ask_0 rfl (lv_at hl 0 rfl) ?_
  refine dw_get hx hb hts inMc hown hG 0 3 rfl rfl (by decide) hw497 rfl rfl dM_ask_1 ?_
  refine lv_iload_n hx hb dM_ask_4 rfl (lv_at hl 2 rfl) ?_
  refine dw_ia (x := nI (x)) hx hb hG 4 0 rfl rfl (v) rfl (by omega) (by decide) e1 dM_ask_5 ?_
  refine lv_istore (lv' := [(4, .int (nI (x))), (0, .ref m0), (1, .ref aS), (2, .int (nI (v))), (3, .int (nI (k)))]) hx hb dM_ask_6 hl (by decide) rfl (fun ls hl => ?_)
  refine lv_aload_n hx hb dM_ask_8 rfl (lv_at hl 1 rfl) ?_
  refine dw_get hx hb hts inMc hown hG 0 4 rfl rfl (by decide) hw498 rfl rfl dM_ask_9 ?_
  refine lv_iload_n hx hb dM_ask_12 rfl (lv_at hl 3 rfl) ?_
  refine dw_ia (x := nI (y)) hx hb hG 5 0 rfl rfl (v) rfl (by omega) (by decide) e2 dM_ask_13 ?_
  refine lv_istore (lv' := [(5, .int (nI (y))), (4, .int (nI (x))), (0, .ref m0), (1, .ref aS), (2, .int (nI (v))), (3, .int (nI (k)))]) hx hb dM_ask_14 hl (by decide) rfl (fun ls hl => ?_)
  refine lv_aload_n hx hb dM_ask_16 rfl (lv_at hl 2 rfl) ?_
  refine dw_get hx hb hts inMc hown hG 0 2 rfl rfl (by decide) hw496 rfl rfl dM_ask_17 ?_
  refine lv_iload_n hx hb dM_ask_20 rfl (lv_at hl 4 rfl) ?_
  refine dw_ia (x := 3) hx hb hG 3 0 rfl rfl (v) rfl (by omega) (by decide) em dM_ask_21 ?_
  refine lv_tableIn (tgt := 103) hx hb dM_ask_22 (by decide) (by decide) rfl (by decide) ?_
  refine lv_aload_n hx hb dM_ask_103 rfl (lv_at hl 2 rfl) ?_
  refine lv_aload_n hx hb dM_ask_104 rfl (lv_at hl 3 rfl) ?_
  refine lv_iload hx hb dM_ask_105 (lv_at hl 1 rfl) ?_
  refine lv_iload hx hb dM_ask_107 (lv_at hl 0 rfl) ?_
  refine lv_iload_n hx hb dM_ask_109 rfl (lv_at hl 5 rfl) ?_
  refine lv_aload_n hx hb dM_ask_110 rfl (lv_at hl 2 rfl) ?_
  refine dw_get hx hb hts inMc hown hG 0 2 rfl rfl (by decide) hw496 rfl rfl dM_ask_111 ?_
  refine lv_iload_n hx hb dM_ask_114 rfl (lv_at hl 4 rfl) ?_
  refine dw_ia (x := 3) hx hb hG 3 0 rfl rfl (v) rfl (by omega) (by decide) em dM_ask_115 ?_
  refine lv_iconst (v := 3) hx hb dM_ask_116 (by decide) ?_
  refine lv_icmp_ne (tgt := 124) hx hb dM_ask_117 (by decide) (fun h117 => ?_) (fun h117 => ?_)
  · skip
    replace h117 : ¬ 3 = 3 := fun q => h117 ((nI_eq (a := 3) (b := 3) (by omega) (by omega)).mpr q)
    (exfalso; omega)
  replace h117 := (nI_eq (a := 3) (b := 3) (by omega) (by omega)).mp h117
  refine lv_iconst (v := 0) hx hb dM_ask_120 (by decide) ?_
  refine lv_goto (tgt := 125) hx hb dM_ask_121 (by decide) ?_
  refine dw_callv (wc := [(m0, .inr (5, [.int (ft), .int (vl), .ref aMd, .ref aO1, .ref aT2, .int (rs), .ref aSh, .ref aMk, .ref aFa, .ref aDe, .ref aNe, .ref aBy, .ref aPi, .int (nI (pn)), .ref aNw, .ref aNs, .ref aBf, .int (rn), .int (rr)])), (aS, .inl (cZ, 768, .inl (Se))), (aPi, .inl (cI, 1600, .inl (Pi))), (aFa, .inl (cI, 768, .inl (Fa)))]) (wr := [(aMd, .inl (cI, 24, .inl (Md))), (aO1, .inl (cI, 24, .inl (O1))), (aT2, .inl (cI, 24, .inl (T2)))]) hG [0, 1, 2, 6] [3, 4, 5] rfl rfl (by decide) (by decide) (va_runV (As := [.ref aS, .int (nI (x)), .int (nI (y)), .int (nI (k)), .int (0)]) (rest := []) ⟨hx, hb, hml, hown, hts⟩ (rf_askWith0 l dC dI cI cZ m0 aMd aO1 aT2 aSh aMk aFa aDe aNe aBy aPi aNw aNs aBf (pn) aS ft vl rs rn rr x y k (Se) (Pi) Fa H.size hx9 hy9 hk hok) (dc_V 5 hts tw_656 tw_658 tp_M_askWith tw_7 tw_659 rfl rfl (by decide +kernel) ⟨Nat.le_of_ble_eq_true rfl, Nat.le_of_ble_eq_true rfl⟩) (dw_preV (ci := 5) hG [0, 1, 2, 6] [0, 1] rfl rfl (by decide) rfl rfl (q0 := 0) rfl) rfl rfl hl.1 rfl (lv_room (Nat.le_of_ble_eq_true rfl)) dM_ask_125 ⟨Nat.le_refl _, Nat.le_refl _⟩) (fun u18 H locs hu18 hG => ?_)
  have hG : dw_G (dC, dI) vwCl [(cI, .int), (cZ, .boolean)] A s.heap s [(aMd, .inl (cI, 24, .inl (Md))), (aO1, .inl (cI, 24, .inl (O1))), (aT2, .inl (cI, 24, .inl (T2))), (m0, .inr (5, [.int (ft), .int (vl), .ref aMd, .ref aO1, .ref aT2, .int (rs), .ref aSh, .ref aMk, .ref aFa, .ref aDe, .ref aNe, .ref aBy, .ref aPi, .int (nI (u18.2.2)), .ref aNw, .ref aNs, .ref aBf, .int (rn), .int (rr)])), (aS, .inl (cZ, 768, .inl (u18.1))), (aPi, .inl (cI, 1600, .inl (u18.2.1))), (aFa, .inl (cI, 768, .inl (Fa)))] H locs := hG
  refine lv_goto (tgt := 265) hx hb dM_ask_128 (by decide) ?_
  subst hQ
  exact dw_vret hx hb hr (dw_perm hG [3, 4, 5, 0, 1, 2, 6] (by decide) rfl rfl) (u18) rfl (db_asked_congr hu18 (fun w b _ => by rw [db_rep_zi hfx hk, db_rep_zi hfy hk, db_nt, db_nt]; exact Iff.rfl)) dM_ask_265 hlocks

set_option maxRecDepth 100000 in
set_option maxHeartbeats 4000000 in
theorem rf_ask4 (l : Launch) (dC : Nat → ClassId) (dI : Nat → Nat → Nat) (cI cZ : ClassId) (m0 aMd aO1 aT2 aSh aMk aFa aDe aNe aBy aPi aNw aNs aBf pn aS : Nat) (ft vl rs rn rr : Int32) (v k x y dd : Nat) (Se Pi Md O1 T2 Fa : Nat → Int32) (zx ox zy oy : Int32) (sz : Nat) (hv : v < 24) (hk : k < 32) (hok : db_ok (Se, Pi, pn)) (em : Md v = nI 4) (hx9 : x < 24) (e1 : O1 v = nI x) (hy9 : y < 24) (e2 : T2 v = nI y) (hfx : db_rep Fa x zx ox) (hfy : db_rep Fa y zy oy) (hax : db_ap zx ox) (hay : db_ap zy oy) : Met l yM_ask wsM_ask { frames := 2, cells := 0, slots := 0, locals := 60 } (va_Pc [.ref m0, .ref aS, .int (nI (v)), .int (nI (k))] (dw_pre (dC, dI) vwCl [(m0, .inr (5, [.int (ft), .int (vl), .ref aMd, .ref aO1, .ref aT2, .int (rs), .ref aSh, .ref aMk, .ref aFa, .ref aDe, .ref aNe, .ref aBy, .ref aPi, .int (nI (pn)), .ref aNw, .ref aNs, .ref aBf, .int (rn), .int (rr)])), (aS, .inl (cZ, 768, .inl (Se))), (aPi, .inl (cI, 1600, .inl (Pi))), (aMd, .inl (cI, 24, .inl (Md))), (aO1, .inl (cI, 24, .inl (O1))), (aT2, .inl (cI, 24, .inl (T2))), (aFa, .inl (cI, 768, .inl (Fa)))] [(cI, .int), (cZ, .boolean)] sz)) (va_Qv (fun (u : db_Q) => db_asked (fun w b => db_A 4 dd x y zx ox zy oy k w b) (Se, Pi, pn) u) (fun u t => dw_post (dC, dI) vwCl [(m0, .inr (5, [.int (ft), .int (vl), .ref aMd, .ref aO1, .ref aT2, .int (rs), .ref aSh, .ref aMk, .ref aFa, .ref aDe, .ref aNe, .ref aBy, .ref aPi, .int (nI u.2.2), .ref aNw, .ref aNs, .ref aBf, .int (rn), .int (rr)])), (aS, .inl (cZ, 768, .inl (u.1))), (aPi, .inl (cI, 1600, .inl (u.2.1))), (aMd, .inl (cI, 24, .inl (Md))), (aO1, .inl (cI, 24, .inl (O1))), (aT2, .inl (cI, 24, .inl (T2))), (aFa, .inl (cI, 768, .inl (Fa)))] [(cI, .int), (cZ, .boolean)] (va_A [(m0, .inr (5, [.int (ft), .int (vl), .ref aMd, .ref aO1, .ref aT2, .int (rs), .ref aSh, .ref aMk, .ref aFa, .ref aDe, .ref aNe, .ref aBy, .ref aPi, .int (nI (pn)), .ref aNw, .ref aNs, .ref aBf, .int (rn), .int (rr)])), (aS, .inl (cZ, 768, .inl (Se))), (aPi, .inl (cI, 1600, .inl (Pi))), (aMd, .inl (cI, 24, .inl (Md))), (aO1, .inl (cI, 24, .inl (O1))), (aT2, .inl (cI, 24, .inl (T2))), (aFa, .inl (cI, 768, .inl (Fa)))] sz) t) (va_A [(m0, .inr (5, [.int (ft), .int (vl), .ref aMd, .ref aO1, .ref aT2, .int (rs), .ref aSh, .ref aMk, .ref aFa, .ref aDe, .ref aNe, .ref aBy, .ref aPi, .int (nI (pn)), .ref aNw, .ref aNs, .ref aBf, .int (rn), .int (rr)])), (aS, .inl (cZ, 768, .inl (Se))), (aPi, .inl (cI, 1600, .inl (Pi))), (aMd, .inl (cI, 24, .inl (Md))), (aO1, .inl (cI, 24, .inl (O1))), (aT2, .inl (cI, 24, .inl (T2))), (aFa, .inl (cI, 768, .inl (Fa)))] sz)) 0 0 (va_A [(m0, .inr (5, [.int (ft), .int (vl), .ref aMd, .ref aO1, .ref aT2, .int (rs), .ref aSh, .ref aMk, .ref aFa, .ref aDe, .ref aNe, .ref aBy, .ref aPi, .int (nI (pn)), .ref aNw, .ref aNs, .ref aBf, .int (rn), .int (rr)])), (aS, .inl (cZ, 768, .inl (Se))), (aPi, .inl (cI, 1600, .inl (Pi))), (aMd, .inl (cI, 24, .inl (Md))), (aO1, .inl (cI, 24, .inl (O1))), (aT2, .inl (cI, 24, .inl (T2))), (aFa, .inl (cI, 768, .inl (Fa)))] sz) := by
  refine Met.ofW (cc := cM_ask) (maxL := 6) (ret := none) (by decide) rfl ?_
  intro p e s m args below meth c s₁ B hml hv0
  have hx := B.exec
  have hb := B.bytes
  have hr := B.returns
  have hts := atoms_spec (ws := wsM_ask) B.pre
  have hown : s.vm.findClass RM = some m.cls := findClass_of_methodNamed B.named
  have hlocks := B.notSynchronized
  obtain ⟨rfl, hsz, hG⟩ := dw_enter hv0
  generalize va_A [(m0, .inr (5, [.int (ft), .int (vl), .ref aMd, .ref aO1, .ref aT2, .int (rs), .ref aSh, .ref aMk, .ref aFa, .ref aDe, .ref aNe, .ref aBy, .ref aPi, .int (nI (pn)), .ref aNw, .ref aNs, .ref aBf, .int (rn), .int (rr)])), (aS, .inl (cZ, 768, .inl (Se))), (aPi, .inl (cI, 1600, .inl (Pi))), (aMd, .inl (cI, 24, .inl (Md))), (aO1, .inl (cI, 24, .inl (O1))), (aT2, .inl (cI, 24, .inl (T2))), (aFa, .inl (cI, 768, .inl (Fa)))] sz = A at hG ⊢
  have hl := lv_entry ([.ref m0, .ref aS, .int (nI (v)), .int (nI (k))]) (n := 6) (Nat.le_of_ble_eq_true rfl)
  rw [lg_entry_eq]
  generalize (lg_sl ([.ref m0, .ref aS, .int (nI (v)), .int (nI (k))]) ++ List.replicate (6 - (lg_sl ([.ref m0, .ref aS, .int (nI (v)), .int (nI (k))])).length) Slot.unset).toArray = ls at hl ⊢
  have hl : lv_has ls 6 [(0, .ref m0), (1, .ref aS), (2, .int (nI (v))), (3, .int (nI (k)))] := hl
  have hw497 := hts _ (List.mem_cons_of_mem _ tw_497)
  have hw498 := hts _ (List.mem_cons_of_mem _ tw_498)
  have hw496 := hts _ (List.mem_cons_of_mem _ tw_496)
  refine dw_Q (fun Q hQ => ?_)
  suffices hgo : ∀ (H : Heap) (locs : List Loc), dw_G (dC, dI) vwCl [(cI, .int), (cZ, .boolean)] A s.heap s [(m0, .inr (5, [.int (ft), .int (vl), .ref aMd, .ref aO1, .ref aT2, .int (rs), .ref aSh, .ref aMk, .ref aFa, .ref aDe, .ref aNe, .ref aBy, .ref aPi, .int (nI (pn)), .ref aNw, .ref aNs, .ref aBf, .int (rn), .int (rr)])), (aS, .inl (cZ, 768, .inl (Se))), (aPi, .inl (cI, 1600, .inl (Pi))), (aMd, .inl (cI, 24, .inl (Md))), (aO1, .inl (cI, 24, .inl (O1))), (aT2, .inl (cI, 24, .inl (T2))), (aFa, .inl (cI, 768, .inl (Fa)))] H locs → W p l e (headSpec wsM_ask { frames := 2, cells := 0, slots := 0, locals := 60 }).room s m [.ref m0, .ref aS, .int (nI (v)), .int (nI (k))].toArray below meth c H locs 0 0 Q (F0 m 0 ls []) from hgo _ _ hG
  clear hG
  intro H locs hG
  refine lv_aload_n hx hb dM_ask_0 rfl (lv_at hl 0 rfl) ?_
  refine dw_get hx hb hts inMc hown hG 0 3 rfl rfl (by decide) hw497 rfl rfl dM_ask_1 ?_
  refine lv_iload_n hx hb dM_ask_4 rfl (lv_at hl 2 rfl) ?_
  refine dw_ia (x := nI (x)) hx hb hG 4 0 rfl rfl (v) rfl (by omega) (by decide) e1 dM_ask_5 ?_
  refine lv_istore (lv' := [(4, .int (nI (x))), (0, .ref m0), (1, .ref aS), (2, .int (nI (v))), (3, .int (nI (k)))]) hx hb dM_ask_6 hl (by decide) rfl (fun ls hl => ?_)
  refine lv_aload_n hx hb dM_ask_8 rfl (lv_at hl 1 rfl) ?_
  refine dw_get hx hb hts inMc hown hG 0 4 rfl rfl (by decide) hw498 rfl rfl dM_ask_9 ?_
  refine lv_iload_n hx hb dM_ask_12 rfl (lv_at hl 3 rfl) ?_
  refine dw_ia (x := nI (y)) hx hb hG 5 0 rfl rfl (v) rfl (by omega) (by decide) e2 dM_ask_13 ?_
  refine lv_istore (lv' := [(5, .int (nI (y))), (4, .int (nI (x))), (0, .ref m0), (1, .ref aS), (2, .int (nI (v))), (3, .int (nI (k)))]) hx hb dM_ask_14 hl (by decide) rfl (fun ls hl => ?_)
  refine lv_aload_n hx hb dM_ask_16 rfl (lv_at hl 2 rfl) ?_
  refine dw_get hx hb hts inMc hown hG 0 2 rfl rfl (by decide) hw496 rfl rfl dM_ask_17 ?_
  refine lv_iload_n hx hb dM_ask_20 rfl (lv_at hl 4 rfl) ?_
  refine dw_ia (x := 4) hx hb hG 3 0 rfl rfl (v) rfl (by omega) (by decide) em dM_ask_21 ?_
  refine lv_tableIn (tgt := 103) hx hb dM_ask_22 (by decide) (by decide) rfl (by decide) ?_
  refine lv_aload_n hx hb dM_ask_103 rfl (lv_at hl 2 rfl) ?_
  refine lv_aload_n hx hb dM_ask_104 rfl (lv_at hl 3 rfl) ?_
  refine lv_iload hx hb dM_ask_105 (lv_at hl 1 rfl) ?_
  refine lv_iload hx hb dM_ask_107 (lv_at hl 0 rfl) ?_
  refine lv_iload_n hx hb dM_ask_109 rfl (lv_at hl 5 rfl) ?_
  refine lv_aload_n hx hb dM_ask_110 rfl (lv_at hl 2 rfl) ?_
  refine dw_get hx hb hts inMc hown hG 0 2 rfl rfl (by decide) hw496 rfl rfl dM_ask_111 ?_
  refine lv_iload_n hx hb dM_ask_114 rfl (lv_at hl 4 rfl) ?_
  refine dw_ia (x := 4) hx hb hG 3 0 rfl rfl (v) rfl (by omega) (by decide) em dM_ask_115 ?_
  refine lv_iconst (v := 3) hx hb dM_ask_116 (by decide) ?_
  refine lv_icmp_ne (tgt := 124) hx hb dM_ask_117 (by decide) (fun h117 => ?_) (fun h117 => ?_)
  · skip
    replace h117 : ¬ 4 = 3 := fun q => h117 ((nI_eq (a := 4) (b := 3) (by omega) (by omega)).mpr q)
    refine lv_iconst (v := 1) hx hb dM_ask_124 (by decide) ?_
    refine dw_callv (wc := [(m0, .inr (5, [.int (ft), .int (vl), .ref aMd, .ref aO1, .ref aT2, .int (rs), .ref aSh, .ref aMk, .ref aFa, .ref aDe, .ref aNe, .ref aBy, .ref aPi, .int (nI (pn)), .ref aNw, .ref aNs, .ref aBf, .int (rn), .int (rr)])), (aS, .inl (cZ, 768, .inl (Se))), (aPi, .inl (cI, 1600, .inl (Pi))), (aFa, .inl (cI, 768, .inl (Fa)))]) (wr := [(aMd, .inl (cI, 24, .inl (Md))), (aO1, .inl (cI, 24, .inl (O1))), (aT2, .inl (cI, 24, .inl (T2)))]) hG [0, 1, 2, 6] [3, 4, 5] rfl rfl (by decide) (by decide) (va_runV (As := [.ref aS, .int (nI (x)), .int (nI (y)), .int (nI (k)), .int (1)]) (rest := []) ⟨hx, hb, hml, hown, hts⟩ (rf_askWith1 l dC dI cI cZ m0 aMd aO1 aT2 aSh aMk aFa aDe aNe aBy aPi aNw aNs aBf (pn) aS ft vl rs rn rr x y k (Se) (Pi) Fa H.size hx9 hy9 hk hok) (dc_V 5 hts tw_656 tw_658 tp_M_askWith tw_7 tw_659 rfl rfl (by decide +kernel) ⟨Nat.le_of_ble_eq_true rfl, Nat.le_of_ble_eq_true rfl⟩) (dw_preV (ci := 5) hG [0, 1, 2, 6] [0, 1] rfl rfl (by decide) rfl rfl (q0 := 0) rfl) rfl rfl hl.1 rfl (lv_room (Nat.le_of_ble_eq_true rfl)) dM_ask_125 ⟨Nat.le_refl _, Nat.le_refl _⟩) (fun u19 H locs hu19 hG => ?_)
    have hG : dw_G (dC, dI) vwCl [(cI, .int), (cZ, .boolean)] A s.heap s [(aMd, .inl (cI, 24, .inl (Md))), (aO1, .inl (cI, 24, .inl (O1))), (aT2, .inl (cI, 24, .inl (T2))), (m0, .inr (5, [.int (ft), .int (vl), .ref aMd, .ref aO1, .ref aT2, .int (rs), .ref aSh, .ref aMk, .ref aFa, .ref aDe, .ref aNe, .ref aBy, .ref aPi, .int (nI (u19.2.2)), .ref aNw, .ref aNs, .ref aBf, .int (rn), .int (rr)])), (aS, .inl (cZ, 768, .inl (u19.1))), (aPi, .inl (cI, 1600, .inl (u19.2.1))), (aFa, .inl (cI, 768, .inl (Fa)))] H locs := hG
    refine lv_goto (tgt := 265) hx hb dM_ask_128 (by decide) ?_
    subst hQ
    exact dw_vret hx hb hr (dw_perm hG [3, 4, 5, 0, 1, 2, 6] (by decide) rfl rfl) (u19) rfl (db_asked_congr hu19 (fun w b _ => by rw [db_rep_oi hfx hax hk, db_rep_oi hfy hay hk, db_nt, db_nt]; exact Iff.rfl)) dM_ask_265 hlocks
  replace h117 := (nI_eq (a := 4) (b := 3) (by omega) (by omega)).mp h117
  (exfalso; omega)

set_option maxRecDepth 100000 in
set_option maxHeartbeats 4000000 in
theorem rf_ask5 (l : Launch) (dC : Nat → ClassId) (dI : Nat → Nat → Nat) (cI cZ : ClassId) (m0 aMd aO1 aT2 aSh aMk aFa aDe aNe aBy aPi aNw aNs aBf pn aS : Nat) (ft vl rs rn rr : Int32) (v k x y dd : Nat) (Se Pi Md O1 T2 Fa : Nat → Int32) (zx ox zy oy : Int32) (sz : Nat) (hv : v < 24) (hk : k < 32) (hok : db_ok (Se, Pi, pn)) (em : Md v = nI 5) (hx9 : x < 24) (e1 : O1 v = nI x) (hy9 : y < 24) (e2 : T2 v = nI y) : Met l yM_ask wsM_ask { frames := 2, cells := 0, slots := 0, locals := 60 } (va_Pc [.ref m0, .ref aS, .int (nI (v)), .int (nI (k))] (dw_pre (dC, dI) vwCl [(m0, .inr (5, [.int (ft), .int (vl), .ref aMd, .ref aO1, .ref aT2, .int (rs), .ref aSh, .ref aMk, .ref aFa, .ref aDe, .ref aNe, .ref aBy, .ref aPi, .int (nI (pn)), .ref aNw, .ref aNs, .ref aBf, .int (rn), .int (rr)])), (aS, .inl (cZ, 768, .inl (Se))), (aPi, .inl (cI, 1600, .inl (Pi))), (aMd, .inl (cI, 24, .inl (Md))), (aO1, .inl (cI, 24, .inl (O1))), (aT2, .inl (cI, 24, .inl (T2))), (aFa, .inl (cI, 768, .inl (Fa)))] [(cI, .int), (cZ, .boolean)] sz)) (va_Qv (fun (u : db_Q) => db_asked (fun w b => db_A 5 dd x y zx ox zy oy k w b) (Se, Pi, pn) u) (fun u t => dw_post (dC, dI) vwCl [(m0, .inr (5, [.int (ft), .int (vl), .ref aMd, .ref aO1, .ref aT2, .int (rs), .ref aSh, .ref aMk, .ref aFa, .ref aDe, .ref aNe, .ref aBy, .ref aPi, .int (nI u.2.2), .ref aNw, .ref aNs, .ref aBf, .int (rn), .int (rr)])), (aS, .inl (cZ, 768, .inl (u.1))), (aPi, .inl (cI, 1600, .inl (u.2.1))), (aMd, .inl (cI, 24, .inl (Md))), (aO1, .inl (cI, 24, .inl (O1))), (aT2, .inl (cI, 24, .inl (T2))), (aFa, .inl (cI, 768, .inl (Fa)))] [(cI, .int), (cZ, .boolean)] (va_A [(m0, .inr (5, [.int (ft), .int (vl), .ref aMd, .ref aO1, .ref aT2, .int (rs), .ref aSh, .ref aMk, .ref aFa, .ref aDe, .ref aNe, .ref aBy, .ref aPi, .int (nI (pn)), .ref aNw, .ref aNs, .ref aBf, .int (rn), .int (rr)])), (aS, .inl (cZ, 768, .inl (Se))), (aPi, .inl (cI, 1600, .inl (Pi))), (aMd, .inl (cI, 24, .inl (Md))), (aO1, .inl (cI, 24, .inl (O1))), (aT2, .inl (cI, 24, .inl (T2))), (aFa, .inl (cI, 768, .inl (Fa)))] sz) t) (va_A [(m0, .inr (5, [.int (ft), .int (vl), .ref aMd, .ref aO1, .ref aT2, .int (rs), .ref aSh, .ref aMk, .ref aFa, .ref aDe, .ref aNe, .ref aBy, .ref aPi, .int (nI (pn)), .ref aNw, .ref aNs, .ref aBf, .int (rn), .int (rr)])), (aS, .inl (cZ, 768, .inl (Se))), (aPi, .inl (cI, 1600, .inl (Pi))), (aMd, .inl (cI, 24, .inl (Md))), (aO1, .inl (cI, 24, .inl (O1))), (aT2, .inl (cI, 24, .inl (T2))), (aFa, .inl (cI, 768, .inl (Fa)))] sz)) 0 0 (va_A [(m0, .inr (5, [.int (ft), .int (vl), .ref aMd, .ref aO1, .ref aT2, .int (rs), .ref aSh, .ref aMk, .ref aFa, .ref aDe, .ref aNe, .ref aBy, .ref aPi, .int (nI (pn)), .ref aNw, .ref aNs, .ref aBf, .int (rn), .int (rr)])), (aS, .inl (cZ, 768, .inl (Se))), (aPi, .inl (cI, 1600, .inl (Pi))), (aMd, .inl (cI, 24, .inl (Md))), (aO1, .inl (cI, 24, .inl (O1))), (aT2, .inl (cI, 24, .inl (T2))), (aFa, .inl (cI, 768, .inl (Fa)))] sz) := by
  refine Met.ofW (cc := cM_ask) (maxL := 6) (ret := none) (by decide) rfl ?_
  intro p e s m args below meth c s₁ B hml hv0
  have hx := B.exec
  have hb := B.bytes
  have hr := B.returns
  have hts := atoms_spec (ws := wsM_ask) B.pre
  have hown : s.vm.findClass RM = some m.cls := findClass_of_methodNamed B.named
  have hlocks := B.notSynchronized
  obtain ⟨rfl, hsz, hG⟩ := dw_enter hv0
  generalize va_A [(m0, .inr (5, [.int (ft), .int (vl), .ref aMd, .ref aO1, .ref aT2, .int (rs), .ref aSh, .ref aMk, .ref aFa, .ref aDe, .ref aNe, .ref aBy, .ref aPi, .int (nI (pn)), .ref aNw, .ref aNs, .ref aBf, .int (rn), .int (rr)])), (aS, .inl (cZ, 768, .inl (Se))), (aPi, .inl (cI, 1600, .inl (Pi))), (aMd, .inl (cI, 24, .inl (Md))), (aO1, .inl (cI, 24, .inl (O1))), (aT2, .inl (cI, 24, .inl (T2))), (aFa, .inl (cI, 768, .inl (Fa)))] sz = A at hG ⊢
  have hl := lv_entry ([.ref m0, .ref aS, .int (nI (v)), .int (nI (k))]) (n := 6) (Nat.le_of_ble_eq_true rfl)
  rw [lg_entry_eq]
  generalize (lg_sl ([.ref m0, .ref aS, .int (nI (v)), .int (nI (k))]) ++ List.replicate (6 - (lg_sl ([.ref m0, .ref aS, .int (nI (v)), .int (nI (k))])).length) Slot.unset).toArray = ls at hl ⊢
  have hl : lv_has ls 6 [(0, .ref m0), (1, .ref aS), (2, .int (nI (v))), (3, .int (nI (k)))] := hl
  have hw497 := hts _ (List.mem_cons_of_mem _ tw_497)
  have hw498 := hts _ (List.mem_cons_of_mem _ tw_498)
  have hw496 := hts _ (List.mem_cons_of_mem _ tw_496)
  refine dw_Q (fun Q hQ => ?_)
  suffices hgo : ∀ (H : Heap) (locs : List Loc), dw_G (dC, dI) vwCl [(cI, .int), (cZ, .boolean)] A s.heap s [(m0, .inr (5, [.int (ft), .int (vl), .ref aMd, .ref aO1, .ref aT2, .int (rs), .ref aSh, .ref aMk, .ref aFa, .ref aDe, .ref aNe, .ref aBy, .ref aPi, .int (nI (pn)), .ref aNw, .ref aNs, .ref aBf, .int (rn), .int (rr)])), (aS, .inl (cZ, 768, .inl (Se))), (aPi, .inl (cI, 1600, .inl (Pi))), (aMd, .inl (cI, 24, .inl (Md))), (aO1, .inl (cI, 24, .inl (O1))), (aT2, .inl (cI, 24, .inl (T2))), (aFa, .inl (cI, 768, .inl (Fa)))] H locs → W p l e (headSpec wsM_ask { frames := 2, cells := 0, slots := 0, locals := 60 }).room s m [.ref m0, .ref aS, .int (nI (v)), .int (nI (k))].toArray below meth c H locs 0 0 Q (F0 m 0 ls []) from hgo _ _ hG
  clear hG
  intro H locs hG
  refine lv_aload_n hx hb dM_ask_0 rfl (lv_at hl 0 rfl) ?_
  refine dw_get hx hb hts inMc hown hG 0 3 rfl rfl (by decide) hw497 rfl rfl dM_ask_1 ?_
  refine lv_iload_n hx hb dM_ask_4 rfl (lv_at hl 2 rfl) ?_
  refine dw_ia (x := nI (x)) hx hb hG 4 0 rfl rfl (v) rfl (by omega) (by decide) e1 dM_ask_5 ?_
  refine lv_istore (lv' := [(4, .int (nI (x))), (0, .ref m0), (1, .ref aS), (2, .int (nI (v))), (3, .int (nI (k)))]) hx hb dM_ask_6 hl (by decide) rfl (fun ls hl => ?_)
  refine lv_aload_n hx hb dM_ask_8 rfl (lv_at hl 1 rfl) ?_
  refine dw_get hx hb hts inMc hown hG 0 4 rfl rfl (by decide) hw498 rfl rfl dM_ask_9 ?_
  refine lv_iload_n hx hb dM_ask_12 rfl (lv_at hl 3 rfl) ?_
  refine dw_ia (x := nI (y)) hx hb hG 5 0 rfl rfl (v) rfl (by omega) (by decide) e2 dM_ask_13 ?_
  refine lv_istore (lv' := [(5, .int (nI (y))), (4, .int (nI (x))), (0, .ref m0), (1, .ref aS), (2, .int (nI (v))), (3, .int (nI (k)))]) hx hb dM_ask_14 hl (by decide) rfl (fun ls hl => ?_)
  refine lv_aload_n hx hb dM_ask_16 rfl (lv_at hl 2 rfl) ?_
  refine dw_get hx hb hts inMc hown hG 0 2 rfl rfl (by decide) hw496 rfl rfl dM_ask_17 ?_
  refine lv_iload_n hx hb dM_ask_20 rfl (lv_at hl 4 rfl) ?_
  refine dw_ia (x := 5) hx hb hG 3 0 rfl rfl (v) rfl (by omega) (by decide) em dM_ask_21 ?_
  refine lv_tableIn (tgt := 131) hx hb dM_ask_22 (by decide) (by decide) rfl (by decide) ?_
  refine lv_aload_n hx hb dM_ask_131 rfl (lv_at hl 2 rfl) ?_
  refine lv_aload_n hx hb dM_ask_132 rfl (lv_at hl 3 rfl) ?_
  refine lv_iload hx hb dM_ask_133 (lv_at hl 1 rfl) ?_
  refine lv_iload_n hx hb dM_ask_135 rfl (lv_at hl 5 rfl) ?_
  refine dw_callv (wc := [(m0, .inr (5, [.int (ft), .int (vl), .ref aMd, .ref aO1, .ref aT2, .int (rs), .ref aSh, .ref aMk, .ref aFa, .ref aDe, .ref aNe, .ref aBy, .ref aPi, .int (nI (pn)), .ref aNw, .ref aNs, .ref aBf, .int (rn), .int (rr)])), (aS, .inl (cZ, 768, .inl (Se))), (aPi, .inl (cI, 1600, .inl (Pi)))]) (wr := [(aMd, .inl (cI, 24, .inl (Md))), (aO1, .inl (cI, 24, .inl (O1))), (aT2, .inl (cI, 24, .inl (T2))), (aFa, .inl (cI, 768, .inl (Fa)))]) hG [0, 1, 2] [3, 4, 5, 6] rfl rfl (by decide) (by decide) (va_runV (As := [.ref aS, .int (nI (x)), .int (nI (k))]) (rest := []) ⟨hx, hb, hml, hown, hts⟩ (rf_want l dC dI cI cZ m0 aMd aO1 aT2 aSh aMk aFa aDe aNe aBy aPi aNw aNs aBf (pn) aS ft vl rs rn rr (x) (k) (Se) (Pi) H.size (by omega) (by omega) hok) (dc_V 3 hts tw_644 tw_646 tp_M_want tw_7 tw_647 rfl rfl (by decide +kernel) ⟨Nat.le_of_ble_eq_true rfl, Nat.le_of_ble_eq_true rfl⟩) (dw_preV (ci := 5) hG [0, 1, 2] [0, 1] rfl rfl (by decide) rfl rfl (q0 := 0) rfl) rfl rfl hl.1 rfl (lv_room (Nat.le_of_ble_eq_true rfl)) dM_ask_136 ⟨Nat.le_refl _, Nat.le_refl _⟩) (fun u20 H locs hu20 hG => ?_)
  have hG : dw_G (dC, dI) vwCl [(cI, .int), (cZ, .boolean)] A s.heap s [(aMd, .inl (cI, 24, .inl (Md))), (aO1, .inl (cI, 24, .inl (O1))), (aT2, .inl (cI, 24, .inl (T2))), (aFa, .inl (cI, 768, .inl (Fa))), (m0, .inr (5, [.int (ft), .int (vl), .ref aMd, .ref aO1, .ref aT2, .int (rs), .ref aSh, .ref aMk, .ref aFa, .ref aDe, .ref aNe, .ref aBy, .ref aPi, .int (nI (u20.2.2)), .ref aNw, .ref aNs, .ref aBf, .int (rn), .int (rr)])), (aS, .inl (cZ, 768, .inl (u20.1))), (aPi, .inl (cI, 1600, .inl (u20.2.1)))] H locs := hG
  refine lv_aload_n hx hb dM_ask_139 rfl (lv_at hl 2 rfl) ?_
  refine lv_aload_n hx hb dM_ask_140 rfl (lv_at hl 3 rfl) ?_
  refine lv_iload hx hb dM_ask_141 (lv_at hl 0 rfl) ?_
  refine lv_iload_n hx hb dM_ask_143 rfl (lv_at hl 5 rfl) ?_
  refine dw_callv (wc := [(m0, .inr (5, [.int (ft), .int (vl), .ref aMd, .ref aO1, .ref aT2, .int (rs), .ref aSh, .ref aMk, .ref aFa, .ref aDe, .ref aNe, .ref aBy, .ref aPi, .int (nI (u20.2.2)), .ref aNw, .ref aNs, .ref aBf, .int (rn), .int (rr)])), (aS, .inl (cZ, 768, .inl (u20.1))), (aPi, .inl (cI, 1600, .inl (u20.2.1)))]) (wr := [(aMd, .inl (cI, 24, .inl (Md))), (aO1, .inl (cI, 24, .inl (O1))), (aT2, .inl (cI, 24, .inl (T2))), (aFa, .inl (cI, 768, .inl (Fa)))]) hG [4, 5, 6] [0, 1, 2, 3] rfl rfl (by decide) (by decide) (va_runV (As := [.ref aS, .int (nI (y)), .int (nI (k))]) (rest := []) ⟨hx, hb, hml, hown, hts⟩ (rf_want l dC dI cI cZ m0 aMd aO1 aT2 aSh aMk aFa aDe aNe aBy aPi aNw aNs aBf (u20.2.2) aS ft vl rs rn rr (y) (k) (u20.1) (u20.2.1) H.size (by omega) (by omega) (db_gr_ok hu20.1 hok)) (dc_V 3 hts tw_644 tw_646 tp_M_want tw_7 tw_647 rfl rfl (by decide +kernel) ⟨Nat.le_of_ble_eq_true rfl, Nat.le_of_ble_eq_true rfl⟩) (dw_preV (ci := 5) hG [4, 5, 6] [0, 1] rfl rfl (by decide) rfl rfl (q0 := 4) rfl) rfl rfl hl.1 rfl (lv_room (Nat.le_of_ble_eq_true rfl)) dM_ask_144 ⟨Nat.le_refl _, Nat.le_refl _⟩) (fun u21 H locs hu21 hG => ?_)
  have hG : dw_G (dC, dI) vwCl [(cI, .int), (cZ, .boolean)] A s.heap s [(aMd, .inl (cI, 24, .inl (Md))), (aO1, .inl (cI, 24, .inl (O1))), (aT2, .inl (cI, 24, .inl (T2))), (aFa, .inl (cI, 768, .inl (Fa))), (m0, .inr (5, [.int (ft), .int (vl), .ref aMd, .ref aO1, .ref aT2, .int (rs), .ref aSh, .ref aMk, .ref aFa, .ref aDe, .ref aNe, .ref aBy, .ref aPi, .int (nI (u21.2.2)), .ref aNw, .ref aNs, .ref aBf, .int (rn), .int (rr)])), (aS, .inl (cZ, 768, .inl (u21.1))), (aPi, .inl (cI, 1600, .inl (u21.2.1)))] H locs := hG
  refine lv_goto (tgt := 265) hx hb dM_ask_147 (by decide) ?_
  subst hQ
  exact dw_vret hx hb hr (dw_perm hG [4, 5, 6, 0, 1, 2, 3] (by decide) rfl rfl) (u21) rfl (db_asked_or hu20 hu21 (fun w b q => by omega)) dM_ask_265 hlocks

set_option maxRecDepth 100000 in
set_option maxHeartbeats 4000000 in
theorem rf_ask6 (l : Launch) (dC : Nat → ClassId) (dI : Nat → Nat → Nat) (cI cZ : ClassId) (m0 aMd aO1 aT2 aSh aMk aFa aDe aNe aBy aPi aNw aNs aBf pn aS : Nat) (ft vl rs rn rr : Int32) (v k x y dd : Nat) (Se Pi Md O1 T2 Fa : Nat → Int32) (zx ox zy oy : Int32) (sz : Nat) (hv : v < 24) (hk : k < 32) (hok : db_ok (Se, Pi, pn)) (em : Md v = nI 6) (hx9 : x < 24) (e1 : O1 v = nI x) (hdd : dd < 32) (e2 : T2 v = nI dd) : Met l yM_ask wsM_ask { frames := 2, cells := 0, slots := 0, locals := 60 } (va_Pc [.ref m0, .ref aS, .int (nI (v)), .int (nI (k))] (dw_pre (dC, dI) vwCl [(m0, .inr (5, [.int (ft), .int (vl), .ref aMd, .ref aO1, .ref aT2, .int (rs), .ref aSh, .ref aMk, .ref aFa, .ref aDe, .ref aNe, .ref aBy, .ref aPi, .int (nI (pn)), .ref aNw, .ref aNs, .ref aBf, .int (rn), .int (rr)])), (aS, .inl (cZ, 768, .inl (Se))), (aPi, .inl (cI, 1600, .inl (Pi))), (aMd, .inl (cI, 24, .inl (Md))), (aO1, .inl (cI, 24, .inl (O1))), (aT2, .inl (cI, 24, .inl (T2))), (aFa, .inl (cI, 768, .inl (Fa)))] [(cI, .int), (cZ, .boolean)] sz)) (va_Qv (fun (u : db_Q) => db_asked (fun w b => db_A 6 dd x y zx ox zy oy k w b) (Se, Pi, pn) u) (fun u t => dw_post (dC, dI) vwCl [(m0, .inr (5, [.int (ft), .int (vl), .ref aMd, .ref aO1, .ref aT2, .int (rs), .ref aSh, .ref aMk, .ref aFa, .ref aDe, .ref aNe, .ref aBy, .ref aPi, .int (nI u.2.2), .ref aNw, .ref aNs, .ref aBf, .int (rn), .int (rr)])), (aS, .inl (cZ, 768, .inl (u.1))), (aPi, .inl (cI, 1600, .inl (u.2.1))), (aMd, .inl (cI, 24, .inl (Md))), (aO1, .inl (cI, 24, .inl (O1))), (aT2, .inl (cI, 24, .inl (T2))), (aFa, .inl (cI, 768, .inl (Fa)))] [(cI, .int), (cZ, .boolean)] (va_A [(m0, .inr (5, [.int (ft), .int (vl), .ref aMd, .ref aO1, .ref aT2, .int (rs), .ref aSh, .ref aMk, .ref aFa, .ref aDe, .ref aNe, .ref aBy, .ref aPi, .int (nI (pn)), .ref aNw, .ref aNs, .ref aBf, .int (rn), .int (rr)])), (aS, .inl (cZ, 768, .inl (Se))), (aPi, .inl (cI, 1600, .inl (Pi))), (aMd, .inl (cI, 24, .inl (Md))), (aO1, .inl (cI, 24, .inl (O1))), (aT2, .inl (cI, 24, .inl (T2))), (aFa, .inl (cI, 768, .inl (Fa)))] sz) t) (va_A [(m0, .inr (5, [.int (ft), .int (vl), .ref aMd, .ref aO1, .ref aT2, .int (rs), .ref aSh, .ref aMk, .ref aFa, .ref aDe, .ref aNe, .ref aBy, .ref aPi, .int (nI (pn)), .ref aNw, .ref aNs, .ref aBf, .int (rn), .int (rr)])), (aS, .inl (cZ, 768, .inl (Se))), (aPi, .inl (cI, 1600, .inl (Pi))), (aMd, .inl (cI, 24, .inl (Md))), (aO1, .inl (cI, 24, .inl (O1))), (aT2, .inl (cI, 24, .inl (T2))), (aFa, .inl (cI, 768, .inl (Fa)))] sz)) 0 0 (va_A [(m0, .inr (5, [.int (ft), .int (vl), .ref aMd, .ref aO1, .ref aT2, .int (rs), .ref aSh, .ref aMk, .ref aFa, .ref aDe, .ref aNe, .ref aBy, .ref aPi, .int (nI (pn)), .ref aNw, .ref aNs, .ref aBf, .int (rn), .int (rr)])), (aS, .inl (cZ, 768, .inl (Se))), (aPi, .inl (cI, 1600, .inl (Pi))), (aMd, .inl (cI, 24, .inl (Md))), (aO1, .inl (cI, 24, .inl (O1))), (aT2, .inl (cI, 24, .inl (T2))), (aFa, .inl (cI, 768, .inl (Fa)))] sz) := by
  refine Met.ofW (cc := cM_ask) (maxL := 6) (ret := none) (by decide) rfl ?_
  intro p e s m args below meth c s₁ B hml hv0
  have hx := B.exec
  have hb := B.bytes
  have hr := B.returns
  have hts := atoms_spec (ws := wsM_ask) B.pre
  have hown : s.vm.findClass RM = some m.cls := findClass_of_methodNamed B.named
  have hlocks := B.notSynchronized
  obtain ⟨rfl, hsz, hG⟩ := dw_enter hv0
  generalize va_A [(m0, .inr (5, [.int (ft), .int (vl), .ref aMd, .ref aO1, .ref aT2, .int (rs), .ref aSh, .ref aMk, .ref aFa, .ref aDe, .ref aNe, .ref aBy, .ref aPi, .int (nI (pn)), .ref aNw, .ref aNs, .ref aBf, .int (rn), .int (rr)])), (aS, .inl (cZ, 768, .inl (Se))), (aPi, .inl (cI, 1600, .inl (Pi))), (aMd, .inl (cI, 24, .inl (Md))), (aO1, .inl (cI, 24, .inl (O1))), (aT2, .inl (cI, 24, .inl (T2))), (aFa, .inl (cI, 768, .inl (Fa)))] sz = A at hG ⊢
  have hl := lv_entry ([.ref m0, .ref aS, .int (nI (v)), .int (nI (k))]) (n := 6) (Nat.le_of_ble_eq_true rfl)
  rw [lg_entry_eq]
  generalize (lg_sl ([.ref m0, .ref aS, .int (nI (v)), .int (nI (k))]) ++ List.replicate (6 - (lg_sl ([.ref m0, .ref aS, .int (nI (v)), .int (nI (k))])).length) Slot.unset).toArray = ls at hl ⊢
  have hl : lv_has ls 6 [(0, .ref m0), (1, .ref aS), (2, .int (nI (v))), (3, .int (nI (k)))] := hl
  have hw497 := hts _ (List.mem_cons_of_mem _ tw_497)
  have hw498 := hts _ (List.mem_cons_of_mem _ tw_498)
  have hw496 := hts _ (List.mem_cons_of_mem _ tw_496)
  refine dw_Q (fun Q hQ => ?_)
  suffices hgo : ∀ (H : Heap) (locs : List Loc), dw_G (dC, dI) vwCl [(cI, .int), (cZ, .boolean)] A s.heap s [(m0, .inr (5, [.int (ft), .int (vl), .ref aMd, .ref aO1, .ref aT2, .int (rs), .ref aSh, .ref aMk, .ref aFa, .ref aDe, .ref aNe, .ref aBy, .ref aPi, .int (nI (pn)), .ref aNw, .ref aNs, .ref aBf, .int (rn), .int (rr)])), (aS, .inl (cZ, 768, .inl (Se))), (aPi, .inl (cI, 1600, .inl (Pi))), (aMd, .inl (cI, 24, .inl (Md))), (aO1, .inl (cI, 24, .inl (O1))), (aT2, .inl (cI, 24, .inl (T2))), (aFa, .inl (cI, 768, .inl (Fa)))] H locs → W p l e (headSpec wsM_ask { frames := 2, cells := 0, slots := 0, locals := 60 }).room s m [.ref m0, .ref aS, .int (nI (v)), .int (nI (k))].toArray below meth c H locs 0 0 Q (F0 m 0 ls []) from hgo _ _ hG
  clear hG
  intro H locs hG
  refine lv_aload_n hx hb dM_ask_0 rfl (lv_at hl 0 rfl) ?_
  refine dw_get hx hb hts inMc hown hG 0 3 rfl rfl (by decide) hw497 rfl rfl dM_ask_1 ?_
  refine lv_iload_n hx hb dM_ask_4 rfl (lv_at hl 2 rfl) ?_
  refine dw_ia (x := nI (x)) hx hb hG 4 0 rfl rfl (v) rfl (by omega) (by decide) e1 dM_ask_5 ?_
  refine lv_istore (lv' := [(4, .int (nI (x))), (0, .ref m0), (1, .ref aS), (2, .int (nI (v))), (3, .int (nI (k)))]) hx hb dM_ask_6 hl (by decide) rfl (fun ls hl => ?_)
  refine lv_aload_n hx hb dM_ask_8 rfl (lv_at hl 1 rfl) ?_
  refine dw_get hx hb hts inMc hown hG 0 4 rfl rfl (by decide) hw498 rfl rfl dM_ask_9 ?_
  refine lv_iload_n hx hb dM_ask_12 rfl (lv_at hl 3 rfl) ?_
  refine dw_ia (x := nI (dd)) hx hb hG 5 0 rfl rfl (v) rfl (by omega) (by decide) e2 dM_ask_13 ?_
  refine lv_istore (lv' := [(5, .int (nI (dd))), (4, .int (nI (x))), (0, .ref m0), (1, .ref aS), (2, .int (nI (v))), (3, .int (nI (k)))]) hx hb dM_ask_14 hl (by decide) rfl (fun ls hl => ?_)
  refine lv_aload_n hx hb dM_ask_16 rfl (lv_at hl 2 rfl) ?_
  refine dw_get hx hb hts inMc hown hG 0 2 rfl rfl (by decide) hw496 rfl rfl dM_ask_17 ?_
  refine lv_iload_n hx hb dM_ask_20 rfl (lv_at hl 4 rfl) ?_
  refine dw_ia (x := 6) hx hb hG 3 0 rfl rfl (v) rfl (by omega) (by decide) em dM_ask_21 ?_
  refine lv_tableIn (tgt := 150) hx hb dM_ask_22 (by decide) (by decide) rfl (by decide) ?_
  refine lv_iload_n hx hb dM_ask_150 rfl (lv_at hl 5 rfl) ?_
  refine lv_iload hx hb dM_ask_151 (lv_at hl 0 rfl) ?_
  refine lv_icmp_lt (tgt := 265) hx hb dM_ask_153 (by decide) (fun h153 => ?_) (fun h153 => ?_)
  · skip
    replace h153 := (nI_ltI (a := k) (b := dd) (by omega) (by omega)).mp h153
    subst hQ
    exact dw_vret hx hb hr hG ((Se, Pi, pn)) rfl (db_asked_0 _ _ (fun w b _ q => q.elim (fun z => absurd z.2.1 (by omega)) (fun z => z.2))) dM_ask_265 hlocks
  replace h153 : ¬ k < dd := fun q => h153 ((nI_ltI (a := k) (b := dd) (by omega) (by omega)).mpr q)
  refine lv_aload_n hx hb dM_ask_156 rfl (lv_at hl 2 rfl) ?_
  refine lv_aload_n hx hb dM_ask_157 rfl (lv_at hl 3 rfl) ?_
  refine lv_iload hx hb dM_ask_158 (lv_at hl 1 rfl) ?_
  refine lv_iload_n hx hb dM_ask_160 rfl (lv_at hl 5 rfl) ?_
  refine lv_iload hx hb dM_ask_161 (lv_at hl 0 rfl) ?_
  refine lv_isub hx hb dM_ask_163 ?_
  refine lv_topi (nm_r ((pk_sub (by omega))) ?_)
  refine dw_callv (wc := [(m0, .inr (5, [.int (ft), .int (vl), .ref aMd, .ref aO1, .ref aT2, .int (rs), .ref aSh, .ref aMk, .ref aFa, .ref aDe, .ref aNe, .ref aBy, .ref aPi, .int (nI (pn)), .ref aNw, .ref aNs, .ref aBf, .int (rn), .int (rr)])), (aS, .inl (cZ, 768, .inl (Se))), (aPi, .inl (cI, 1600, .inl (Pi)))]) (wr := [(aMd, .inl (cI, 24, .inl (Md))), (aO1, .inl (cI, 24, .inl (O1))), (aT2, .inl (cI, 24, .inl (T2))), (aFa, .inl (cI, 768, .inl (Fa)))]) hG [0, 1, 2] [3, 4, 5, 6] rfl rfl (by decide) (by decide) (va_runV (As := [.ref aS, .int (nI (x)), .int (nI (k - dd))]) (rest := []) ⟨hx, hb, hml, hown, hts⟩ (rf_want l dC dI cI cZ m0 aMd aO1 aT2 aSh aMk aFa aDe aNe aBy aPi aNw aNs aBf (pn) aS ft vl rs rn rr (x) (k - dd) (Se) (Pi) H.size (by omega) (by omega) hok) (dc_V 3 hts tw_644 tw_646 tp_M_want tw_7 tw_647 rfl rfl (by decide +kernel) ⟨Nat.le_of_ble_eq_true rfl, Nat.le_of_ble_eq_true rfl⟩) (dw_preV (ci := 5) hG [0, 1, 2] [0, 1] rfl rfl (by decide) rfl rfl (q0 := 0) rfl) rfl rfl hl.1 rfl (lv_room (Nat.le_of_ble_eq_true rfl)) dM_ask_164 ⟨Nat.le_refl _, Nat.le_refl _⟩) (fun u22 H locs hu22 hG => ?_)
  have hG : dw_G (dC, dI) vwCl [(cI, .int), (cZ, .boolean)] A s.heap s [(aMd, .inl (cI, 24, .inl (Md))), (aO1, .inl (cI, 24, .inl (O1))), (aT2, .inl (cI, 24, .inl (T2))), (aFa, .inl (cI, 768, .inl (Fa))), (m0, .inr (5, [.int (ft), .int (vl), .ref aMd, .ref aO1, .ref aT2, .int (rs), .ref aSh, .ref aMk, .ref aFa, .ref aDe, .ref aNe, .ref aBy, .ref aPi, .int (nI (u22.2.2)), .ref aNw, .ref aNs, .ref aBf, .int (rn), .int (rr)])), (aS, .inl (cZ, 768, .inl (u22.1))), (aPi, .inl (cI, 1600, .inl (u22.2.1)))] H locs := hG
  refine lv_goto (tgt := 265) hx hb dM_ask_167 (by decide) ?_
  subst hQ
  exact dw_vret hx hb hr (dw_perm hG [4, 5, 6, 0, 1, 2, 3] (by decide) rfl rfl) (u22) rfl (db_asked_congr hu22 (fun w b _ => by show _ ↔ ((w = x ∧ dd ≤ k ∧ b = k - dd) ∨ (w = y ∧ False)); simp only [and_false, or_false] <;> omega)) dM_ask_265 hlocks

set_option maxRecDepth 100000 in
set_option maxHeartbeats 4000000 in
theorem rf_ask7 (l : Launch) (dC : Nat → ClassId) (dI : Nat → Nat → Nat) (cI cZ : ClassId) (m0 aMd aO1 aT2 aSh aMk aFa aDe aNe aBy aPi aNw aNs aBf pn aS : Nat) (ft vl rs rn rr : Int32) (v k x y dd : Nat) (Se Pi Md O1 T2 Fa : Nat → Int32) (zx ox zy oy : Int32) (sz : Nat) (hv : v < 24) (hk : k < 32) (hok : db_ok (Se, Pi, pn)) (em : Md v = nI 7) (hx9 : x < 24) (e1 : O1 v = nI x) (hdd : dd < 32) (e2 : T2 v = nI dd) : Met l yM_ask wsM_ask { frames := 2, cells := 0, slots := 0, locals := 60 } (va_Pc [.ref m0, .ref aS, .int (nI (v)), .int (nI (k))] (dw_pre (dC, dI) vwCl [(m0, .inr (5, [.int (ft), .int (vl), .ref aMd, .ref aO1, .ref aT2, .int (rs), .ref aSh, .ref aMk, .ref aFa, .ref aDe, .ref aNe, .ref aBy, .ref aPi, .int (nI (pn)), .ref aNw, .ref aNs, .ref aBf, .int (rn), .int (rr)])), (aS, .inl (cZ, 768, .inl (Se))), (aPi, .inl (cI, 1600, .inl (Pi))), (aMd, .inl (cI, 24, .inl (Md))), (aO1, .inl (cI, 24, .inl (O1))), (aT2, .inl (cI, 24, .inl (T2))), (aFa, .inl (cI, 768, .inl (Fa)))] [(cI, .int), (cZ, .boolean)] sz)) (va_Qv (fun (u : db_Q) => db_asked (fun w b => db_A 7 dd x y zx ox zy oy k w b) (Se, Pi, pn) u) (fun u t => dw_post (dC, dI) vwCl [(m0, .inr (5, [.int (ft), .int (vl), .ref aMd, .ref aO1, .ref aT2, .int (rs), .ref aSh, .ref aMk, .ref aFa, .ref aDe, .ref aNe, .ref aBy, .ref aPi, .int (nI u.2.2), .ref aNw, .ref aNs, .ref aBf, .int (rn), .int (rr)])), (aS, .inl (cZ, 768, .inl (u.1))), (aPi, .inl (cI, 1600, .inl (u.2.1))), (aMd, .inl (cI, 24, .inl (Md))), (aO1, .inl (cI, 24, .inl (O1))), (aT2, .inl (cI, 24, .inl (T2))), (aFa, .inl (cI, 768, .inl (Fa)))] [(cI, .int), (cZ, .boolean)] (va_A [(m0, .inr (5, [.int (ft), .int (vl), .ref aMd, .ref aO1, .ref aT2, .int (rs), .ref aSh, .ref aMk, .ref aFa, .ref aDe, .ref aNe, .ref aBy, .ref aPi, .int (nI (pn)), .ref aNw, .ref aNs, .ref aBf, .int (rn), .int (rr)])), (aS, .inl (cZ, 768, .inl (Se))), (aPi, .inl (cI, 1600, .inl (Pi))), (aMd, .inl (cI, 24, .inl (Md))), (aO1, .inl (cI, 24, .inl (O1))), (aT2, .inl (cI, 24, .inl (T2))), (aFa, .inl (cI, 768, .inl (Fa)))] sz) t) (va_A [(m0, .inr (5, [.int (ft), .int (vl), .ref aMd, .ref aO1, .ref aT2, .int (rs), .ref aSh, .ref aMk, .ref aFa, .ref aDe, .ref aNe, .ref aBy, .ref aPi, .int (nI (pn)), .ref aNw, .ref aNs, .ref aBf, .int (rn), .int (rr)])), (aS, .inl (cZ, 768, .inl (Se))), (aPi, .inl (cI, 1600, .inl (Pi))), (aMd, .inl (cI, 24, .inl (Md))), (aO1, .inl (cI, 24, .inl (O1))), (aT2, .inl (cI, 24, .inl (T2))), (aFa, .inl (cI, 768, .inl (Fa)))] sz)) 0 0 (va_A [(m0, .inr (5, [.int (ft), .int (vl), .ref aMd, .ref aO1, .ref aT2, .int (rs), .ref aSh, .ref aMk, .ref aFa, .ref aDe, .ref aNe, .ref aBy, .ref aPi, .int (nI (pn)), .ref aNw, .ref aNs, .ref aBf, .int (rn), .int (rr)])), (aS, .inl (cZ, 768, .inl (Se))), (aPi, .inl (cI, 1600, .inl (Pi))), (aMd, .inl (cI, 24, .inl (Md))), (aO1, .inl (cI, 24, .inl (O1))), (aT2, .inl (cI, 24, .inl (T2))), (aFa, .inl (cI, 768, .inl (Fa)))] sz) := by
  refine Met.ofW (cc := cM_ask) (maxL := 6) (ret := none) (by decide) rfl ?_
  intro p e s m args below meth c s₁ B hml hv0
  have hx := B.exec
  have hb := B.bytes
  have hr := B.returns
  have hts := atoms_spec (ws := wsM_ask) B.pre
  have hown : s.vm.findClass RM = some m.cls := findClass_of_methodNamed B.named
  have hlocks := B.notSynchronized
  obtain ⟨rfl, hsz, hG⟩ := dw_enter hv0
  generalize va_A [(m0, .inr (5, [.int (ft), .int (vl), .ref aMd, .ref aO1, .ref aT2, .int (rs), .ref aSh, .ref aMk, .ref aFa, .ref aDe, .ref aNe, .ref aBy, .ref aPi, .int (nI (pn)), .ref aNw, .ref aNs, .ref aBf, .int (rn), .int (rr)])), (aS, .inl (cZ, 768, .inl (Se))), (aPi, .inl (cI, 1600, .inl (Pi))), (aMd, .inl (cI, 24, .inl (Md))), (aO1, .inl (cI, 24, .inl (O1))), (aT2, .inl (cI, 24, .inl (T2))), (aFa, .inl (cI, 768, .inl (Fa)))] sz = A at hG ⊢
  have hl := lv_entry ([.ref m0, .ref aS, .int (nI (v)), .int (nI (k))]) (n := 6) (Nat.le_of_ble_eq_true rfl)
  rw [lg_entry_eq]
  generalize (lg_sl ([.ref m0, .ref aS, .int (nI (v)), .int (nI (k))]) ++ List.replicate (6 - (lg_sl ([.ref m0, .ref aS, .int (nI (v)), .int (nI (k))])).length) Slot.unset).toArray = ls at hl ⊢
  have hl : lv_has ls 6 [(0, .ref m0), (1, .ref aS), (2, .int (nI (v))), (3, .int (nI (k)))] := hl
  have hw497 := hts _ (List.mem_cons_of_mem _ tw_497)
  have hw498 := hts _ (List.mem_cons_of_mem _ tw_498)
  have hw496 := hts _ (List.mem_cons_of_mem _ tw_496)
  refine dw_Q (fun Q hQ => ?_)
  suffices hgo : ∀ (H : Heap) (locs : List Loc), dw_G (dC, dI) vwCl [(cI, .int), (cZ, .boolean)] A s.heap s [(m0, .inr (5, [.int (ft), .int (vl), .ref aMd, .ref aO1, .ref aT2, .int (rs), .ref aSh, .ref aMk, .ref aFa, .ref aDe, .ref aNe, .ref aBy, .ref aPi, .int (nI (pn)), .ref aNw, .ref aNs, .ref aBf, .int (rn), .int (rr)])), (aS, .inl (cZ, 768, .inl (Se))), (aPi, .inl (cI, 1600, .inl (Pi))), (aMd, .inl (cI, 24, .inl (Md))), (aO1, .inl (cI, 24, .inl (O1))), (aT2, .inl (cI, 24, .inl (T2))), (aFa, .inl (cI, 768, .inl (Fa)))] H locs → W p l e (headSpec wsM_ask { frames := 2, cells := 0, slots := 0, locals := 60 }).room s m [.ref m0, .ref aS, .int (nI (v)), .int (nI (k))].toArray below meth c H locs 0 0 Q (F0 m 0 ls []) from hgo _ _ hG
  clear hG
  intro H locs hG
  refine lv_aload_n hx hb dM_ask_0 rfl (lv_at hl 0 rfl) ?_
  refine dw_get hx hb hts inMc hown hG 0 3 rfl rfl (by decide) hw497 rfl rfl dM_ask_1 ?_
  refine lv_iload_n hx hb dM_ask_4 rfl (lv_at hl 2 rfl) ?_
  refine dw_ia (x := nI (x)) hx hb hG 4 0 rfl rfl (v) rfl (by omega) (by decide) e1 dM_ask_5 ?_
  refine lv_istore (lv' := [(4, .int (nI (x))), (0, .ref m0), (1, .ref aS), (2, .int (nI (v))), (3, .int (nI (k)))]) hx hb dM_ask_6 hl (by decide) rfl (fun ls hl => ?_)
  refine lv_aload_n hx hb dM_ask_8 rfl (lv_at hl 1 rfl) ?_
  refine dw_get hx hb hts inMc hown hG 0 4 rfl rfl (by decide) hw498 rfl rfl dM_ask_9 ?_
  refine lv_iload_n hx hb dM_ask_12 rfl (lv_at hl 3 rfl) ?_
  refine dw_ia (x := nI (dd)) hx hb hG 5 0 rfl rfl (v) rfl (by omega) (by decide) e2 dM_ask_13 ?_
  refine lv_istore (lv' := [(5, .int (nI (dd))), (4, .int (nI (x))), (0, .ref m0), (1, .ref aS), (2, .int (nI (v))), (3, .int (nI (k)))]) hx hb dM_ask_14 hl (by decide) rfl (fun ls hl => ?_)
  refine lv_aload_n hx hb dM_ask_16 rfl (lv_at hl 2 rfl) ?_
  refine dw_get hx hb hts inMc hown hG 0 2 rfl rfl (by decide) hw496 rfl rfl dM_ask_17 ?_
  refine lv_iload_n hx hb dM_ask_20 rfl (lv_at hl 4 rfl) ?_
  refine dw_ia (x := 7) hx hb hG 3 0 rfl rfl (v) rfl (by omega) (by decide) em dM_ask_21 ?_
  refine lv_tableIn (tgt := 170) hx hb dM_ask_22 (by decide) (by decide) rfl (by decide) ?_
  refine lv_aload_n hx hb dM_ask_170 rfl (lv_at hl 2 rfl) ?_
  refine lv_aload_n hx hb dM_ask_171 rfl (lv_at hl 3 rfl) ?_
  refine lv_iload hx hb dM_ask_172 (lv_at hl 1 rfl) ?_
  refine lv_iload_n hx hb dM_ask_174 rfl (lv_at hl 5 rfl) ?_
  refine lv_iload hx hb dM_ask_175 (lv_at hl 0 rfl) ?_
  refine lv_iadd hx hb dM_ask_177 ?_
  refine lv_topi (nm_r (nI_add (k) (dd)) ?_)
  refine lv_bipush (v := 31) hx hb dM_ask_178 (by decide) ?_
  refine lv_icmp_le (tgt := 188) hx hb dM_ask_180 (by decide) (fun h180 => ?_) (fun h180 => ?_)
  · skip
    replace h180 := (nI_leI (a := k + dd) (b := 31) (by omega) (by omega)).mp h180
    refine lv_iload_n hx hb dM_ask_188 rfl (lv_at hl 5 rfl) ?_
    refine lv_iload hx hb dM_ask_189 (lv_at hl 0 rfl) ?_
    refine lv_iadd hx hb dM_ask_191 ?_
    refine lv_topi (nm_r (nI_add (k) (dd)) ?_)
    refine dw_callv (wc := [(m0, .inr (5, [.int (ft), .int (vl), .ref aMd, .ref aO1, .ref aT2, .int (rs), .ref aSh, .ref aMk, .ref aFa, .ref aDe, .ref aNe, .ref aBy, .ref aPi, .int (nI (pn)), .ref aNw, .ref aNs, .ref aBf, .int (rn), .int (rr)])), (aS, .inl (cZ, 768, .inl (Se))), (aPi, .inl (cI, 1600, .inl (Pi)))]) (wr := [(aMd, .inl (cI, 24, .inl (Md))), (aO1, .inl (cI, 24, .inl (O1))), (aT2, .inl (cI, 24, .inl (T2))), (aFa, .inl (cI, 768, .inl (Fa)))]) hG [0, 1, 2] [3, 4, 5, 6] rfl rfl (by decide) (by decide) (va_runV (As := [.ref aS, .int (nI (x)), .int (nI (k + dd))]) (rest := []) ⟨hx, hb, hml, hown, hts⟩ (rf_want l dC dI cI cZ m0 aMd aO1 aT2 aSh aMk aFa aDe aNe aBy aPi aNw aNs aBf (pn) aS ft vl rs rn rr (x) (k + dd) (Se) (Pi) H.size (by omega) (by omega) hok) (dc_V 3 hts tw_644 tw_646 tp_M_want tw_7 tw_647 rfl rfl (by decide +kernel) ⟨Nat.le_of_ble_eq_true rfl, Nat.le_of_ble_eq_true rfl⟩) (dw_preV (ci := 5) hG [0, 1, 2] [0, 1] rfl rfl (by decide) rfl rfl (q0 := 0) rfl) rfl rfl hl.1 rfl (lv_room (Nat.le_of_ble_eq_true rfl)) dM_ask_192 ⟨Nat.le_refl _, Nat.le_refl _⟩) (fun u23 H locs hu23 hG => ?_)
    have hG : dw_G (dC, dI) vwCl [(cI, .int), (cZ, .boolean)] A s.heap s [(aMd, .inl (cI, 24, .inl (Md))), (aO1, .inl (cI, 24, .inl (O1))), (aT2, .inl (cI, 24, .inl (T2))), (aFa, .inl (cI, 768, .inl (Fa))), (m0, .inr (5, [.int (ft), .int (vl), .ref aMd, .ref aO1, .ref aT2, .int (rs), .ref aSh, .ref aMk, .ref aFa, .ref aDe, .ref aNe, .ref aBy, .ref aPi, .int (nI (u23.2.2)), .ref aNw, .ref aNs, .ref aBf, .int (rn), .int (rr)])), (aS, .inl (cZ, 768, .inl (u23.1))), (aPi, .inl (cI, 1600, .inl (u23.2.1)))] H locs := hG
    refine lv_goto (tgt := 265) hx hb dM_ask_195 (by decide) ?_
    subst hQ
    exact dw_vret hx hb hr (dw_perm hG [4, 5, 6, 0, 1, 2, 3] (by decide) rfl rfl) (u23) rfl (db_asked_congr hu23 (fun w b _ => by show _ ↔ ((w = x ∧ b = if 31 < k + dd then 31 else k + dd) ∨ (w = y ∧ False)); rw [if_neg (by omega)]; simp only [and_false, or_false] <;> omega)) dM_ask_265 hlocks
  replace h180 : ¬ k + dd ≤ 31 := fun q => h180 ((nI_leI (a := k + dd) (b := 31) (by omega) (by omega)).mpr q)
  refine lv_bipush (v := 31) hx hb dM_ask_183 (by decide) ?_
  refine lv_goto (tgt := 192) hx hb dM_ask_185 (by decide) ?_
  refine dw_callv (wc := [(m0, .inr (5, [.int (ft), .int (vl), .ref aMd, .ref aO1, .ref aT2, .int (rs), .ref aSh, .ref aMk, .ref aFa, .ref aDe, .ref aNe, .ref aBy, .ref aPi, .int (nI (pn)), .ref aNw, .ref aNs, .ref aBf, .int (rn), .int (rr)])), (aS, .inl (cZ, 768, .inl (Se))), (aPi, .inl (cI, 1600, .inl (Pi)))]) (wr := [(aMd, .inl (cI, 24, .inl (Md))), (aO1, .inl (cI, 24, .inl (O1))), (aT2, .inl (cI, 24, .inl (T2))), (aFa, .inl (cI, 768, .inl (Fa)))]) hG [0, 1, 2] [3, 4, 5, 6] rfl rfl (by decide) (by decide) (va_runV (As := [.ref aS, .int (nI (x)), .int (31)]) (rest := []) ⟨hx, hb, hml, hown, hts⟩ (rf_want l dC dI cI cZ m0 aMd aO1 aT2 aSh aMk aFa aDe aNe aBy aPi aNw aNs aBf (pn) aS ft vl rs rn rr (x) (31) (Se) (Pi) H.size (by omega) (by omega) hok) (dc_V 3 hts tw_644 tw_646 tp_M_want tw_7 tw_647 rfl rfl (by decide +kernel) ⟨Nat.le_of_ble_eq_true rfl, Nat.le_of_ble_eq_true rfl⟩) (dw_preV (ci := 5) hG [0, 1, 2] [0, 1] rfl rfl (by decide) rfl rfl (q0 := 0) rfl) rfl rfl hl.1 rfl (lv_room (Nat.le_of_ble_eq_true rfl)) dM_ask_192 ⟨Nat.le_refl _, Nat.le_refl _⟩) (fun u24 H locs hu24 hG => ?_)
  have hG : dw_G (dC, dI) vwCl [(cI, .int), (cZ, .boolean)] A s.heap s [(aMd, .inl (cI, 24, .inl (Md))), (aO1, .inl (cI, 24, .inl (O1))), (aT2, .inl (cI, 24, .inl (T2))), (aFa, .inl (cI, 768, .inl (Fa))), (m0, .inr (5, [.int (ft), .int (vl), .ref aMd, .ref aO1, .ref aT2, .int (rs), .ref aSh, .ref aMk, .ref aFa, .ref aDe, .ref aNe, .ref aBy, .ref aPi, .int (nI (u24.2.2)), .ref aNw, .ref aNs, .ref aBf, .int (rn), .int (rr)])), (aS, .inl (cZ, 768, .inl (u24.1))), (aPi, .inl (cI, 1600, .inl (u24.2.1)))] H locs := hG
  refine lv_goto (tgt := 265) hx hb dM_ask_195 (by decide) ?_
  subst hQ
  exact dw_vret hx hb hr (dw_perm hG [4, 5, 6, 0, 1, 2, 3] (by decide) rfl rfl) (u24) rfl (db_asked_congr hu24 (fun w b _ => by show _ ↔ ((w = x ∧ b = if 31 < k + dd then 31 else k + dd) ∨ (w = y ∧ False)); rw [if_pos (by omega)]; simp only [and_false, or_false] <;> omega)) dM_ask_265 hlocks

set_option maxRecDepth 100000 in
set_option maxHeartbeats 4000000 in
theorem rf_ask8 (l : Launch) (dC : Nat → ClassId) (dI : Nat → Nat → Nat) (cI cZ : ClassId) (m0 aMd aO1 aT2 aSh aMk aFa aDe aNe aBy aPi aNw aNs aBf pn aS : Nat) (ft vl rs rn rr : Int32) (v k x y dd : Nat) (Se Pi Md O1 T2 Fa : Nat → Int32) (zx ox zy oy : Int32) (sz : Nat) (hv : v < 24) (hk : k < 32) (hok : db_ok (Se, Pi, pn)) (em : Md v = nI 8) (hx9 : x < 24) (e1 : O1 v = nI x) (hdd : dd < 32) (e2 : T2 v = nI dd) : Met l yM_ask wsM_ask { frames := 2, cells := 0, slots := 0, locals := 60 } (va_Pc [.ref m0, .ref aS, .int (nI (v)), .int (nI (k))] (dw_pre (dC, dI) vwCl [(m0, .inr (5, [.int (ft), .int (vl), .ref aMd, .ref aO1, .ref aT2, .int (rs), .ref aSh, .ref aMk, .ref aFa, .ref aDe, .ref aNe, .ref aBy, .ref aPi, .int (nI (pn)), .ref aNw, .ref aNs, .ref aBf, .int (rn), .int (rr)])), (aS, .inl (cZ, 768, .inl (Se))), (aPi, .inl (cI, 1600, .inl (Pi))), (aMd, .inl (cI, 24, .inl (Md))), (aO1, .inl (cI, 24, .inl (O1))), (aT2, .inl (cI, 24, .inl (T2))), (aFa, .inl (cI, 768, .inl (Fa)))] [(cI, .int), (cZ, .boolean)] sz)) (va_Qv (fun (u : db_Q) => db_asked (fun w b => db_A 8 dd x y zx ox zy oy k w b) (Se, Pi, pn) u) (fun u t => dw_post (dC, dI) vwCl [(m0, .inr (5, [.int (ft), .int (vl), .ref aMd, .ref aO1, .ref aT2, .int (rs), .ref aSh, .ref aMk, .ref aFa, .ref aDe, .ref aNe, .ref aBy, .ref aPi, .int (nI u.2.2), .ref aNw, .ref aNs, .ref aBf, .int (rn), .int (rr)])), (aS, .inl (cZ, 768, .inl (u.1))), (aPi, .inl (cI, 1600, .inl (u.2.1))), (aMd, .inl (cI, 24, .inl (Md))), (aO1, .inl (cI, 24, .inl (O1))), (aT2, .inl (cI, 24, .inl (T2))), (aFa, .inl (cI, 768, .inl (Fa)))] [(cI, .int), (cZ, .boolean)] (va_A [(m0, .inr (5, [.int (ft), .int (vl), .ref aMd, .ref aO1, .ref aT2, .int (rs), .ref aSh, .ref aMk, .ref aFa, .ref aDe, .ref aNe, .ref aBy, .ref aPi, .int (nI (pn)), .ref aNw, .ref aNs, .ref aBf, .int (rn), .int (rr)])), (aS, .inl (cZ, 768, .inl (Se))), (aPi, .inl (cI, 1600, .inl (Pi))), (aMd, .inl (cI, 24, .inl (Md))), (aO1, .inl (cI, 24, .inl (O1))), (aT2, .inl (cI, 24, .inl (T2))), (aFa, .inl (cI, 768, .inl (Fa)))] sz) t) (va_A [(m0, .inr (5, [.int (ft), .int (vl), .ref aMd, .ref aO1, .ref aT2, .int (rs), .ref aSh, .ref aMk, .ref aFa, .ref aDe, .ref aNe, .ref aBy, .ref aPi, .int (nI (pn)), .ref aNw, .ref aNs, .ref aBf, .int (rn), .int (rr)])), (aS, .inl (cZ, 768, .inl (Se))), (aPi, .inl (cI, 1600, .inl (Pi))), (aMd, .inl (cI, 24, .inl (Md))), (aO1, .inl (cI, 24, .inl (O1))), (aT2, .inl (cI, 24, .inl (T2))), (aFa, .inl (cI, 768, .inl (Fa)))] sz)) 0 0 (va_A [(m0, .inr (5, [.int (ft), .int (vl), .ref aMd, .ref aO1, .ref aT2, .int (rs), .ref aSh, .ref aMk, .ref aFa, .ref aDe, .ref aNe, .ref aBy, .ref aPi, .int (nI (pn)), .ref aNw, .ref aNs, .ref aBf, .int (rn), .int (rr)])), (aS, .inl (cZ, 768, .inl (Se))), (aPi, .inl (cI, 1600, .inl (Pi))), (aMd, .inl (cI, 24, .inl (Md))), (aO1, .inl (cI, 24, .inl (O1))), (aT2, .inl (cI, 24, .inl (T2))), (aFa, .inl (cI, 768, .inl (Fa)))] sz) := by
  refine Met.ofW (cc := cM_ask) (maxL := 6) (ret := none) (by decide) rfl ?_
  intro p e s m args below meth c s₁ B hml hv0
  have hx := B.exec
  have hb := B.bytes
  have hr := B.returns
  have hts := atoms_spec (ws := wsM_ask) B.pre
  have hown : s.vm.findClass RM = some m.cls := findClass_of_methodNamed B.named
  have hlocks := B.notSynchronized
  obtain ⟨rfl, hsz, hG⟩ := dw_enter hv0
  generalize va_A [(m0, .inr (5, [.int (ft), .int (vl), .ref aMd, .ref aO1, .ref aT2, .int (rs), .ref aSh, .ref aMk, .ref aFa, .ref aDe, .ref aNe, .ref aBy, .ref aPi, .int (nI (pn)), .ref aNw, .ref aNs, .ref aBf, .int (rn), .int (rr)])), (aS, .inl (cZ, 768, .inl (Se))), (aPi, .inl (cI, 1600, .inl (Pi))), (aMd, .inl (cI, 24, .inl (Md))), (aO1, .inl (cI, 24, .inl (O1))), (aT2, .inl (cI, 24, .inl (T2))), (aFa, .inl (cI, 768, .inl (Fa)))] sz = A at hG ⊢
  have hl := lv_entry ([.ref m0, .ref aS, .int (nI (v)), .int (nI (k))]) (n := 6) (Nat.le_of_ble_eq_true rfl)
  rw [lg_entry_eq]
  generalize (lg_sl ([.ref m0, .ref aS, .int (nI (v)), .int (nI (k))]) ++ List.replicate (6 - (lg_sl ([.ref m0, .ref aS, .int (nI (v)), .int (nI (k))])).length) Slot.unset).toArray = ls at hl ⊢
  have hl : lv_has ls 6 [(0, .ref m0), (1, .ref aS), (2, .int (nI (v))), (3, .int (nI (k)))] := hl
  have hw497 := hts _ (List.mem_cons_of_mem _ tw_497)
  have hw498 := hts _ (List.mem_cons_of_mem _ tw_498)
  have hw496 := hts _ (List.mem_cons_of_mem _ tw_496)
  refine dw_Q (fun Q hQ => ?_)
  suffices hgo : ∀ (H : Heap) (locs : List Loc), dw_G (dC, dI) vwCl [(cI, .int), (cZ, .boolean)] A s.heap s [(m0, .inr (5, [.int (ft), .int (vl), .ref aMd, .ref aO1, .ref aT2, .int (rs), .ref aSh, .ref aMk, .ref aFa, .ref aDe, .ref aNe, .ref aBy, .ref aPi, .int (nI (pn)), .ref aNw, .ref aNs, .ref aBf, .int (rn), .int (rr)])), (aS, .inl (cZ, 768, .inl (Se))), (aPi, .inl (cI, 1600, .inl (Pi))), (aMd, .inl (cI, 24, .inl (Md))), (aO1, .inl (cI, 24, .inl (O1))), (aT2, .inl (cI, 24, .inl (T2))), (aFa, .inl (cI, 768, .inl (Fa)))] H locs → W p l e (headSpec wsM_ask { frames := 2, cells := 0, slots := 0, locals := 60 }).room s m [.ref m0, .ref aS, .int (nI (v)), .int (nI (k))].toArray below meth c H locs 0 0 Q (F0 m 0 ls []) from hgo _ _ hG
  clear hG
  intro H locs hG
  refine lv_aload_n hx hb dM_ask_0 rfl (lv_at hl 0 rfl) ?_
  refine dw_get hx hb hts inMc hown hG 0 3 rfl rfl (by decide) hw497 rfl rfl dM_ask_1 ?_
  refine lv_iload_n hx hb dM_ask_4 rfl (lv_at hl 2 rfl) ?_
  refine dw_ia (x := nI (x)) hx hb hG 4 0 rfl rfl (v) rfl (by omega) (by decide) e1 dM_ask_5 ?_
  refine lv_istore (lv' := [(4, .int (nI (x))), (0, .ref m0), (1, .ref aS), (2, .int (nI (v))), (3, .int (nI (k)))]) hx hb dM_ask_6 hl (by decide) rfl (fun ls hl => ?_)
  refine lv_aload_n hx hb dM_ask_8 rfl (lv_at hl 1 rfl) ?_
  refine dw_get hx hb hts inMc hown hG 0 4 rfl rfl (by decide) hw498 rfl rfl dM_ask_9 ?_
  refine lv_iload_n hx hb dM_ask_12 rfl (lv_at hl 3 rfl) ?_
  refine dw_ia (x := nI (dd)) hx hb hG 5 0 rfl rfl (v) rfl (by omega) (by decide) e2 dM_ask_13 ?_
  refine lv_istore (lv' := [(5, .int (nI (dd))), (4, .int (nI (x))), (0, .ref m0), (1, .ref aS), (2, .int (nI (v))), (3, .int (nI (k)))]) hx hb dM_ask_14 hl (by decide) rfl (fun ls hl => ?_)
  refine lv_aload_n hx hb dM_ask_16 rfl (lv_at hl 2 rfl) ?_
  refine dw_get hx hb hts inMc hown hG 0 2 rfl rfl (by decide) hw496 rfl rfl dM_ask_17 ?_
  refine lv_iload_n hx hb dM_ask_20 rfl (lv_at hl 4 rfl) ?_
  refine dw_ia (x := 8) hx hb hG 3 0 rfl rfl (v) rfl (by omega) (by decide) em dM_ask_21 ?_
  refine lv_tableIn (tgt := 198) hx hb dM_ask_22 (by decide) (by decide) rfl (by decide) ?_
  refine lv_iload_n hx hb dM_ask_198 rfl (lv_at hl 5 rfl) ?_
  refine lv_iload hx hb dM_ask_199 (lv_at hl 0 rfl) ?_
  refine lv_iadd hx hb dM_ask_201 ?_
  refine lv_topi (nm_r (nI_add (k) (dd)) ?_)
  refine lv_bipush (v := 31) hx hb dM_ask_202 (by decide) ?_
  refine lv_icmp_gt (tgt := 265) hx hb dM_ask_204 (by decide) (fun h204 => ?_) (fun h204 => ?_)
  · skip
    replace h204 := (nI_ltI (a := 31) (b := k + dd) (by omega) (by omega)).mp h204
    subst hQ
    exact dw_vret hx hb hr hG ((Se, Pi, pn)) rfl (db_asked_0 _ _ (fun w b _ q => q.elim (fun z => absurd z.2.1 (by omega)) (fun z => z.2))) dM_ask_265 hlocks
  replace h204 : ¬ 31 < k + dd := fun q => h204 ((nI_ltI (a := 31) (b := k + dd) (by omega) (by omega)).mpr q)
  refine lv_aload_n hx hb dM_ask_207 rfl (lv_at hl 2 rfl) ?_
  refine lv_aload_n hx hb dM_ask_208 rfl (lv_at hl 3 rfl) ?_
  refine lv_iload hx hb dM_ask_209 (lv_at hl 1 rfl) ?_
  refine lv_iload_n hx hb dM_ask_211 rfl (lv_at hl 5 rfl) ?_
  refine lv_iload hx hb dM_ask_212 (lv_at hl 0 rfl) ?_
  refine lv_iadd hx hb dM_ask_214 ?_
  refine lv_topi (nm_r (nI_add (k) (dd)) ?_)
  refine dw_callv (wc := [(m0, .inr (5, [.int (ft), .int (vl), .ref aMd, .ref aO1, .ref aT2, .int (rs), .ref aSh, .ref aMk, .ref aFa, .ref aDe, .ref aNe, .ref aBy, .ref aPi, .int (nI (pn)), .ref aNw, .ref aNs, .ref aBf, .int (rn), .int (rr)])), (aS, .inl (cZ, 768, .inl (Se))), (aPi, .inl (cI, 1600, .inl (Pi)))]) (wr := [(aMd, .inl (cI, 24, .inl (Md))), (aO1, .inl (cI, 24, .inl (O1))), (aT2, .inl (cI, 24, .inl (T2))), (aFa, .inl (cI, 768, .inl (Fa)))]) hG [0, 1, 2] [3, 4, 5, 6] rfl rfl (by decide) (by decide) (va_runV (As := [.ref aS, .int (nI (x)), .int (nI (k + dd))]) (rest := []) ⟨hx, hb, hml, hown, hts⟩ (rf_want l dC dI cI cZ m0 aMd aO1 aT2 aSh aMk aFa aDe aNe aBy aPi aNw aNs aBf (pn) aS ft vl rs rn rr (x) (k + dd) (Se) (Pi) H.size (by omega) (by omega) hok) (dc_V 3 hts tw_644 tw_646 tp_M_want tw_7 tw_647 rfl rfl (by decide +kernel) ⟨Nat.le_of_ble_eq_true rfl, Nat.le_of_ble_eq_true rfl⟩) (dw_preV (ci := 5) hG [0, 1, 2] [0, 1] rfl rfl (by decide) rfl rfl (q0 := 0) rfl) rfl rfl hl.1 rfl (lv_room (Nat.le_of_ble_eq_true rfl)) dM_ask_215 ⟨Nat.le_refl _, Nat.le_refl _⟩) (fun u25 H locs hu25 hG => ?_)
  have hG : dw_G (dC, dI) vwCl [(cI, .int), (cZ, .boolean)] A s.heap s [(aMd, .inl (cI, 24, .inl (Md))), (aO1, .inl (cI, 24, .inl (O1))), (aT2, .inl (cI, 24, .inl (T2))), (aFa, .inl (cI, 768, .inl (Fa))), (m0, .inr (5, [.int (ft), .int (vl), .ref aMd, .ref aO1, .ref aT2, .int (rs), .ref aSh, .ref aMk, .ref aFa, .ref aDe, .ref aNe, .ref aBy, .ref aPi, .int (nI (u25.2.2)), .ref aNw, .ref aNs, .ref aBf, .int (rn), .int (rr)])), (aS, .inl (cZ, 768, .inl (u25.1))), (aPi, .inl (cI, 1600, .inl (u25.2.1)))] H locs := hG
  refine lv_goto (tgt := 265) hx hb dM_ask_218 (by decide) ?_
  subst hQ
  exact dw_vret hx hb hr (dw_perm hG [4, 5, 6, 0, 1, 2, 3] (by decide) rfl rfl) (u25) rfl (db_asked_congr hu25 (fun w b _ => by show _ ↔ ((w = x ∧ k + dd ≤ 31 ∧ b = k + dd) ∨ (w = y ∧ False)); simp only [and_false, or_false] <;> omega)) dM_ask_265 hlocks

set_option maxRecDepth 100000 in
set_option maxHeartbeats 4000000 in
theorem rf_ask9 (l : Launch) (dC : Nat → ClassId) (dI : Nat → Nat → Nat) (cI cZ : ClassId) (m0 aMd aO1 aT2 aSh aMk aFa aDe aNe aBy aPi aNw aNs aBf pn aS : Nat) (ft vl rs rn rr : Int32) (v k x y dd : Nat) (Se Pi Md O1 T2 Fa : Nat → Int32) (zx ox zy oy : Int32) (sz : Nat) (hv : v < 24) (hk : k < 32) (hok : db_ok (Se, Pi, pn)) (em : Md v = nI 12) : Met l yM_ask wsM_ask { frames := 2, cells := 0, slots := 0, locals := 60 } (va_Pc [.ref m0, .ref aS, .int (nI (v)), .int (nI (k))] (dw_pre (dC, dI) vwCl [(m0, .inr (5, [.int (ft), .int (vl), .ref aMd, .ref aO1, .ref aT2, .int (rs), .ref aSh, .ref aMk, .ref aFa, .ref aDe, .ref aNe, .ref aBy, .ref aPi, .int (nI (pn)), .ref aNw, .ref aNs, .ref aBf, .int (rn), .int (rr)])), (aS, .inl (cZ, 768, .inl (Se))), (aPi, .inl (cI, 1600, .inl (Pi))), (aMd, .inl (cI, 24, .inl (Md))), (aO1, .inl (cI, 24, .inl (O1))), (aT2, .inl (cI, 24, .inl (T2))), (aFa, .inl (cI, 768, .inl (Fa)))] [(cI, .int), (cZ, .boolean)] sz)) (va_Qv (fun (u : db_Q) => db_asked (fun w b => db_A 9 dd x y zx ox zy oy k w b) (Se, Pi, pn) u) (fun u t => dw_post (dC, dI) vwCl [(m0, .inr (5, [.int (ft), .int (vl), .ref aMd, .ref aO1, .ref aT2, .int (rs), .ref aSh, .ref aMk, .ref aFa, .ref aDe, .ref aNe, .ref aBy, .ref aPi, .int (nI u.2.2), .ref aNw, .ref aNs, .ref aBf, .int (rn), .int (rr)])), (aS, .inl (cZ, 768, .inl (u.1))), (aPi, .inl (cI, 1600, .inl (u.2.1))), (aMd, .inl (cI, 24, .inl (Md))), (aO1, .inl (cI, 24, .inl (O1))), (aT2, .inl (cI, 24, .inl (T2))), (aFa, .inl (cI, 768, .inl (Fa)))] [(cI, .int), (cZ, .boolean)] (va_A [(m0, .inr (5, [.int (ft), .int (vl), .ref aMd, .ref aO1, .ref aT2, .int (rs), .ref aSh, .ref aMk, .ref aFa, .ref aDe, .ref aNe, .ref aBy, .ref aPi, .int (nI (pn)), .ref aNw, .ref aNs, .ref aBf, .int (rn), .int (rr)])), (aS, .inl (cZ, 768, .inl (Se))), (aPi, .inl (cI, 1600, .inl (Pi))), (aMd, .inl (cI, 24, .inl (Md))), (aO1, .inl (cI, 24, .inl (O1))), (aT2, .inl (cI, 24, .inl (T2))), (aFa, .inl (cI, 768, .inl (Fa)))] sz) t) (va_A [(m0, .inr (5, [.int (ft), .int (vl), .ref aMd, .ref aO1, .ref aT2, .int (rs), .ref aSh, .ref aMk, .ref aFa, .ref aDe, .ref aNe, .ref aBy, .ref aPi, .int (nI (pn)), .ref aNw, .ref aNs, .ref aBf, .int (rn), .int (rr)])), (aS, .inl (cZ, 768, .inl (Se))), (aPi, .inl (cI, 1600, .inl (Pi))), (aMd, .inl (cI, 24, .inl (Md))), (aO1, .inl (cI, 24, .inl (O1))), (aT2, .inl (cI, 24, .inl (T2))), (aFa, .inl (cI, 768, .inl (Fa)))] sz)) 0 0 (va_A [(m0, .inr (5, [.int (ft), .int (vl), .ref aMd, .ref aO1, .ref aT2, .int (rs), .ref aSh, .ref aMk, .ref aFa, .ref aDe, .ref aNe, .ref aBy, .ref aPi, .int (nI (pn)), .ref aNw, .ref aNs, .ref aBf, .int (rn), .int (rr)])), (aS, .inl (cZ, 768, .inl (Se))), (aPi, .inl (cI, 1600, .inl (Pi))), (aMd, .inl (cI, 24, .inl (Md))), (aO1, .inl (cI, 24, .inl (O1))), (aT2, .inl (cI, 24, .inl (T2))), (aFa, .inl (cI, 768, .inl (Fa)))] sz) := by
  refine Met.ofW (cc := cM_ask) (maxL := 6) (ret := none) (by decide) rfl ?_
  intro p e s m args below meth c s₁ B hml hv0
  have hx := B.exec
  have hb := B.bytes
  have hr := B.returns
  have hts := atoms_spec (ws := wsM_ask) B.pre
  have hown : s.vm.findClass RM = some m.cls := findClass_of_methodNamed B.named
  have hlocks := B.notSynchronized
  obtain ⟨rfl, hsz, hG⟩ := dw_enter hv0
  generalize va_A [(m0, .inr (5, [.int (ft), .int (vl), .ref aMd, .ref aO1, .ref aT2, .int (rs), .ref aSh, .ref aMk, .ref aFa, .ref aDe, .ref aNe, .ref aBy, .ref aPi, .int (nI (pn)), .ref aNw, .ref aNs, .ref aBf, .int (rn), .int (rr)])), (aS, .inl (cZ, 768, .inl (Se))), (aPi, .inl (cI, 1600, .inl (Pi))), (aMd, .inl (cI, 24, .inl (Md))), (aO1, .inl (cI, 24, .inl (O1))), (aT2, .inl (cI, 24, .inl (T2))), (aFa, .inl (cI, 768, .inl (Fa)))] sz = A at hG ⊢
  have hl := lv_entry ([.ref m0, .ref aS, .int (nI (v)), .int (nI (k))]) (n := 6) (Nat.le_of_ble_eq_true rfl)
  rw [lg_entry_eq]
  generalize (lg_sl ([.ref m0, .ref aS, .int (nI (v)), .int (nI (k))]) ++ List.replicate (6 - (lg_sl ([.ref m0, .ref aS, .int (nI (v)), .int (nI (k))])).length) Slot.unset).toArray = ls at hl ⊢
  have hl : lv_has ls 6 [(0, .ref m0), (1, .ref aS), (2, .int (nI (v))), (3, .int (nI (k)))] := hl
  have hw497 := hts _ (List.mem_cons_of_mem _ tw_497)
  have hw498 := hts _ (List.mem_cons_of_mem _ tw_498)
  have hw496 := hts _ (List.mem_cons_of_mem _ tw_496)
  refine dw_Q (fun Q hQ => ?_)
  suffices hgo : ∀ (H : Heap) (locs : List Loc), dw_G (dC, dI) vwCl [(cI, .int), (cZ, .boolean)] A s.heap s [(m0, .inr (5, [.int (ft), .int (vl), .ref aMd, .ref aO1, .ref aT2, .int (rs), .ref aSh, .ref aMk, .ref aFa, .ref aDe, .ref aNe, .ref aBy, .ref aPi, .int (nI (pn)), .ref aNw, .ref aNs, .ref aBf, .int (rn), .int (rr)])), (aS, .inl (cZ, 768, .inl (Se))), (aPi, .inl (cI, 1600, .inl (Pi))), (aMd, .inl (cI, 24, .inl (Md))), (aO1, .inl (cI, 24, .inl (O1))), (aT2, .inl (cI, 24, .inl (T2))), (aFa, .inl (cI, 768, .inl (Fa)))] H locs → W p l e (headSpec wsM_ask { frames := 2, cells := 0, slots := 0, locals := 60 }).room s m [.ref m0, .ref aS, .int (nI (v)), .int (nI (k))].toArray below meth c H locs 0 0 Q (F0 m 0 ls []) from hgo _ _ hG
  clear hG
  intro H locs hG
  refine lv_aload_n hx hb dM_ask_0 rfl (lv_at hl 0 rfl) ?_
  refine dw_get hx hb hts inMc hown hG 0 3 rfl rfl (by decide) hw497 rfl rfl dM_ask_1 ?_
  refine lv_iload_n hx hb dM_ask_4 rfl (lv_at hl 2 rfl) ?_
  refine dw_ia (x := (O1) (v)) hx hb hG 4 0 rfl rfl (v) rfl (by omega) (by decide) rfl dM_ask_5 ?_
  refine lv_istore (lv' := [(4, .int ((O1) (v))), (0, .ref m0), (1, .ref aS), (2, .int (nI (v))), (3, .int (nI (k)))]) hx hb dM_ask_6 hl (by decide) rfl (fun ls hl => ?_)
  refine lv_aload_n hx hb dM_ask_8 rfl (lv_at hl 1 rfl) ?_
  refine dw_get hx hb hts inMc hown hG 0 4 rfl rfl (by decide) hw498 rfl rfl dM_ask_9 ?_
  refine lv_iload_n hx hb dM_ask_12 rfl (lv_at hl 3 rfl) ?_
  refine dw_ia (x := (T2) (v)) hx hb hG 5 0 rfl rfl (v) rfl (by omega) (by decide) rfl dM_ask_13 ?_
  refine lv_istore (lv' := [(5, .int ((T2) (v))), (4, .int ((O1) (v))), (0, .ref m0), (1, .ref aS), (2, .int (nI (v))), (3, .int (nI (k)))]) hx hb dM_ask_14 hl (by decide) rfl (fun ls hl => ?_)
  refine lv_aload_n hx hb dM_ask_16 rfl (lv_at hl 2 rfl) ?_
  refine dw_get hx hb hts inMc hown hG 0 2 rfl rfl (by decide) hw496 rfl rfl dM_ask_17 ?_
  refine lv_iload_n hx hb dM_ask_20 rfl (lv_at hl 4 rfl) ?_
  refine dw_ia (x := 12) hx hb hG 3 0 rfl rfl (v) rfl (by omega) (by decide) em dM_ask_21 ?_
  refine lv_tableOut (tgt := 265) hx hb dM_ask_22 (by decide) (by decide) ?_
  subst hQ
  exact dw_vret hx hb hr hG ((Se, Pi, pn)) rfl (db_asked_0 _ _ (fun w b _ q => q.elim (fun z => z.2) (fun z => z.2))) dM_ask_265 hlocks

set_option maxRecDepth 100000 in
set_option maxHeartbeats 4000000 in
theorem rf_ask10 (l : Launch) (dC : Nat → ClassId) (dI : Nat → Nat → Nat) (cI cZ : ClassId) (m0 aMd aO1 aT2 aSh aMk aFa aDe aNe aBy aPi aNw aNs aBf pn aS : Nat) (ft vl rs rn rr : Int32) (v k x y dd : Nat) (Se Pi Md O1 T2 Fa : Nat → Int32) (zx ox zy oy : Int32) (sz : Nat) (hv : v < 24) (hk : k < 32) (hok : db_ok (Se, Pi, pn)) (em : Md v = nI 13) : Met l yM_ask wsM_ask { frames := 2, cells := 0, slots := 0, locals := 60 } (va_Pc [.ref m0, .ref aS, .int (nI (v)), .int (nI (k))] (dw_pre (dC, dI) vwCl [(m0, .inr (5, [.int (ft), .int (vl), .ref aMd, .ref aO1, .ref aT2, .int (rs), .ref aSh, .ref aMk, .ref aFa, .ref aDe, .ref aNe, .ref aBy, .ref aPi, .int (nI (pn)), .ref aNw, .ref aNs, .ref aBf, .int (rn), .int (rr)])), (aS, .inl (cZ, 768, .inl (Se))), (aPi, .inl (cI, 1600, .inl (Pi))), (aMd, .inl (cI, 24, .inl (Md))), (aO1, .inl (cI, 24, .inl (O1))), (aT2, .inl (cI, 24, .inl (T2))), (aFa, .inl (cI, 768, .inl (Fa)))] [(cI, .int), (cZ, .boolean)] sz)) (va_Qv (fun (u : db_Q) => db_asked (fun w b => db_A 10 dd x y zx ox zy oy k w b) (Se, Pi, pn) u) (fun u t => dw_post (dC, dI) vwCl [(m0, .inr (5, [.int (ft), .int (vl), .ref aMd, .ref aO1, .ref aT2, .int (rs), .ref aSh, .ref aMk, .ref aFa, .ref aDe, .ref aNe, .ref aBy, .ref aPi, .int (nI u.2.2), .ref aNw, .ref aNs, .ref aBf, .int (rn), .int (rr)])), (aS, .inl (cZ, 768, .inl (u.1))), (aPi, .inl (cI, 1600, .inl (u.2.1))), (aMd, .inl (cI, 24, .inl (Md))), (aO1, .inl (cI, 24, .inl (O1))), (aT2, .inl (cI, 24, .inl (T2))), (aFa, .inl (cI, 768, .inl (Fa)))] [(cI, .int), (cZ, .boolean)] (va_A [(m0, .inr (5, [.int (ft), .int (vl), .ref aMd, .ref aO1, .ref aT2, .int (rs), .ref aSh, .ref aMk, .ref aFa, .ref aDe, .ref aNe, .ref aBy, .ref aPi, .int (nI (pn)), .ref aNw, .ref aNs, .ref aBf, .int (rn), .int (rr)])), (aS, .inl (cZ, 768, .inl (Se))), (aPi, .inl (cI, 1600, .inl (Pi))), (aMd, .inl (cI, 24, .inl (Md))), (aO1, .inl (cI, 24, .inl (O1))), (aT2, .inl (cI, 24, .inl (T2))), (aFa, .inl (cI, 768, .inl (Fa)))] sz) t) (va_A [(m0, .inr (5, [.int (ft), .int (vl), .ref aMd, .ref aO1, .ref aT2, .int (rs), .ref aSh, .ref aMk, .ref aFa, .ref aDe, .ref aNe, .ref aBy, .ref aPi, .int (nI (pn)), .ref aNw, .ref aNs, .ref aBf, .int (rn), .int (rr)])), (aS, .inl (cZ, 768, .inl (Se))), (aPi, .inl (cI, 1600, .inl (Pi))), (aMd, .inl (cI, 24, .inl (Md))), (aO1, .inl (cI, 24, .inl (O1))), (aT2, .inl (cI, 24, .inl (T2))), (aFa, .inl (cI, 768, .inl (Fa)))] sz)) 0 0 (va_A [(m0, .inr (5, [.int (ft), .int (vl), .ref aMd, .ref aO1, .ref aT2, .int (rs), .ref aSh, .ref aMk, .ref aFa, .ref aDe, .ref aNe, .ref aBy, .ref aPi, .int (nI (pn)), .ref aNw, .ref aNs, .ref aBf, .int (rn), .int (rr)])), (aS, .inl (cZ, 768, .inl (Se))), (aPi, .inl (cI, 1600, .inl (Pi))), (aMd, .inl (cI, 24, .inl (Md))), (aO1, .inl (cI, 24, .inl (O1))), (aT2, .inl (cI, 24, .inl (T2))), (aFa, .inl (cI, 768, .inl (Fa)))] sz) := by
  refine Met.ofW (cc := cM_ask) (maxL := 6) (ret := none) (by decide) rfl ?_
  intro p e s m args below meth c s₁ B hml hv0
  have hx := B.exec
  have hb := B.bytes
  have hr := B.returns
  have hts := atoms_spec (ws := wsM_ask) B.pre
  have hown : s.vm.findClass RM = some m.cls := findClass_of_methodNamed B.named
  have hlocks := B.notSynchronized
  obtain ⟨rfl, hsz, hG⟩ := dw_enter hv0
  generalize va_A [(m0, .inr (5, [.int (ft), .int (vl), .ref aMd, .ref aO1, .ref aT2, .int (rs), .ref aSh, .ref aMk, .ref aFa, .ref aDe, .ref aNe, .ref aBy, .ref aPi, .int (nI (pn)), .ref aNw, .ref aNs, .ref aBf, .int (rn), .int (rr)])), (aS, .inl (cZ, 768, .inl (Se))), (aPi, .inl (cI, 1600, .inl (Pi))), (aMd, .inl (cI, 24, .inl (Md))), (aO1, .inl (cI, 24, .inl (O1))), (aT2, .inl (cI, 24, .inl (T2))), (aFa, .inl (cI, 768, .inl (Fa)))] sz = A at hG ⊢
  have hl := lv_entry ([.ref m0, .ref aS, .int (nI (v)), .int (nI (k))]) (n := 6) (Nat.le_of_ble_eq_true rfl)
  rw [lg_entry_eq]
  generalize (lg_sl ([.ref m0, .ref aS, .int (nI (v)), .int (nI (k))]) ++ List.replicate (6 - (lg_sl ([.ref m0, .ref aS, .int (nI (v)), .int (nI (k))])).length) Slot.unset).toArray = ls at hl ⊢
  have hl : lv_has ls 6 [(0, .ref m0), (1, .ref aS), (2, .int (nI (v))), (3, .int (nI (k)))] := hl
  have hw497 := hts _ (List.mem_cons_of_mem _ tw_497)
  have hw498 := hts _ (List.mem_cons_of_mem _ tw_498)
  have hw496 := hts _ (List.mem_cons_of_mem _ tw_496)
  refine dw_Q (fun Q hQ => ?_)
  suffices hgo : ∀ (H : Heap) (locs : List Loc), dw_G (dC, dI) vwCl [(cI, .int), (cZ, .boolean)] A s.heap s [(m0, .inr (5, [.int (ft), .int (vl), .ref aMd, .ref aO1, .ref aT2, .int (rs), .ref aSh, .ref aMk, .ref aFa, .ref aDe, .ref aNe, .ref aBy, .ref aPi, .int (nI (pn)), .ref aNw, .ref aNs, .ref aBf, .int (rn), .int (rr)])), (aS, .inl (cZ, 768, .inl (Se))), (aPi, .inl (cI, 1600, .inl (Pi))), (aMd, .inl (cI, 24, .inl (Md))), (aO1, .inl (cI, 24, .inl (O1))), (aT2, .inl (cI, 24, .inl (T2))), (aFa, .inl (cI, 768, .inl (Fa)))] H locs → W p l e (headSpec wsM_ask { frames := 2, cells := 0, slots := 0, locals := 60 }).room s m [.ref m0, .ref aS, .int (nI (v)), .int (nI (k))].toArray below meth c H locs 0 0 Q (F0 m 0 ls []) from hgo _ _ hG
  clear hG
  intro H locs hG
  refine lv_aload_n hx hb dM_ask_0 rfl (lv_at hl 0 rfl) ?_
  refine dw_get hx hb hts inMc hown hG 0 3 rfl rfl (by decide) hw497 rfl rfl dM_ask_1 ?_
  refine lv_iload_n hx hb dM_ask_4 rfl (lv_at hl 2 rfl) ?_
  refine dw_ia (x := (O1) (v)) hx hb hG 4 0 rfl rfl (v) rfl (by omega) (by decide) rfl dM_ask_5 ?_
  refine lv_istore (lv' := [(4, .int ((O1) (v))), (0, .ref m0), (1, .ref aS), (2, .int (nI (v))), (3, .int (nI (k)))]) hx hb dM_ask_6 hl (by decide) rfl (fun ls hl => ?_)
  refine lv_aload_n hx hb dM_ask_8 rfl (lv_at hl 1 rfl) ?_
  refine dw_get hx hb hts inMc hown hG 0 4 rfl rfl (by decide) hw498 rfl rfl dM_ask_9 ?_
  refine lv_iload_n hx hb dM_ask_12 rfl (lv_at hl 3 rfl) ?_
  refine dw_ia (x := (T2) (v)) hx hb hG 5 0 rfl rfl (v) rfl (by omega) (by decide) rfl dM_ask_13 ?_
  refine lv_istore (lv' := [(5, .int ((T2) (v))), (4, .int ((O1) (v))), (0, .ref m0), (1, .ref aS), (2, .int (nI (v))), (3, .int (nI (k)))]) hx hb dM_ask_14 hl (by decide) rfl (fun ls hl => ?_)
  refine lv_aload_n hx hb dM_ask_16 rfl (lv_at hl 2 rfl) ?_
  refine dw_get hx hb hts inMc hown hG 0 2 rfl rfl (by decide) hw496 rfl rfl dM_ask_17 ?_
  refine lv_iload_n hx hb dM_ask_20 rfl (lv_at hl 4 rfl) ?_
  refine dw_ia (x := 13) hx hb hG 3 0 rfl rfl (v) rfl (by omega) (by decide) em dM_ask_21 ?_
  refine lv_tableOut (tgt := 265) hx hb dM_ask_22 (by decide) (by decide) ?_
  subst hQ
  exact dw_vret hx hb hr hG ((Se, Pi, pn)) rfl (db_asked_0 _ _ (fun w b _ q => q.elim (fun z => z.2) (fun z => z.2))) dM_ask_265 hlocks

set_option maxRecDepth 100000 in
set_option maxHeartbeats 4000000 in
theorem rf_ask11 (l : Launch) (dC : Nat → ClassId) (dI : Nat → Nat → Nat) (cI cZ : ClassId) (m0 aMd aO1 aT2 aSh aMk aFa aDe aNe aBy aPi aNw aNs aBf pn aS : Nat) (ft vl rs rn rr : Int32) (v k x y dd : Nat) (Se Pi Md O1 T2 Fa : Nat → Int32) (zx ox zy oy : Int32) (sz : Nat) (hv : v < 24) (hk : k < 32) (hok : db_ok (Se, Pi, pn)) (em : Md v = nI 9) (hx9 : x < 24) (e1 : O1 v = nI x) : Met l yM_ask wsM_ask { frames := 2, cells := 0, slots := 0, locals := 60 } (va_Pc [.ref m0, .ref aS, .int (nI (v)), .int (nI (k))] (dw_pre (dC, dI) vwCl [(m0, .inr (5, [.int (ft), .int (vl), .ref aMd, .ref aO1, .ref aT2, .int (rs), .ref aSh, .ref aMk, .ref aFa, .ref aDe, .ref aNe, .ref aBy, .ref aPi, .int (nI (pn)), .ref aNw, .ref aNs, .ref aBf, .int (rn), .int (rr)])), (aS, .inl (cZ, 768, .inl (Se))), (aPi, .inl (cI, 1600, .inl (Pi))), (aMd, .inl (cI, 24, .inl (Md))), (aO1, .inl (cI, 24, .inl (O1))), (aT2, .inl (cI, 24, .inl (T2))), (aFa, .inl (cI, 768, .inl (Fa)))] [(cI, .int), (cZ, .boolean)] sz)) (va_Qv (fun (u : db_Q) => db_asked (fun w b => db_A 11 dd x y zx ox zy oy k w b) (Se, Pi, pn) u) (fun u t => dw_post (dC, dI) vwCl [(m0, .inr (5, [.int (ft), .int (vl), .ref aMd, .ref aO1, .ref aT2, .int (rs), .ref aSh, .ref aMk, .ref aFa, .ref aDe, .ref aNe, .ref aBy, .ref aPi, .int (nI u.2.2), .ref aNw, .ref aNs, .ref aBf, .int (rn), .int (rr)])), (aS, .inl (cZ, 768, .inl (u.1))), (aPi, .inl (cI, 1600, .inl (u.2.1))), (aMd, .inl (cI, 24, .inl (Md))), (aO1, .inl (cI, 24, .inl (O1))), (aT2, .inl (cI, 24, .inl (T2))), (aFa, .inl (cI, 768, .inl (Fa)))] [(cI, .int), (cZ, .boolean)] (va_A [(m0, .inr (5, [.int (ft), .int (vl), .ref aMd, .ref aO1, .ref aT2, .int (rs), .ref aSh, .ref aMk, .ref aFa, .ref aDe, .ref aNe, .ref aBy, .ref aPi, .int (nI (pn)), .ref aNw, .ref aNs, .ref aBf, .int (rn), .int (rr)])), (aS, .inl (cZ, 768, .inl (Se))), (aPi, .inl (cI, 1600, .inl (Pi))), (aMd, .inl (cI, 24, .inl (Md))), (aO1, .inl (cI, 24, .inl (O1))), (aT2, .inl (cI, 24, .inl (T2))), (aFa, .inl (cI, 768, .inl (Fa)))] sz) t) (va_A [(m0, .inr (5, [.int (ft), .int (vl), .ref aMd, .ref aO1, .ref aT2, .int (rs), .ref aSh, .ref aMk, .ref aFa, .ref aDe, .ref aNe, .ref aBy, .ref aPi, .int (nI (pn)), .ref aNw, .ref aNs, .ref aBf, .int (rn), .int (rr)])), (aS, .inl (cZ, 768, .inl (Se))), (aPi, .inl (cI, 1600, .inl (Pi))), (aMd, .inl (cI, 24, .inl (Md))), (aO1, .inl (cI, 24, .inl (O1))), (aT2, .inl (cI, 24, .inl (T2))), (aFa, .inl (cI, 768, .inl (Fa)))] sz)) 0 0 (va_A [(m0, .inr (5, [.int (ft), .int (vl), .ref aMd, .ref aO1, .ref aT2, .int (rs), .ref aSh, .ref aMk, .ref aFa, .ref aDe, .ref aNe, .ref aBy, .ref aPi, .int (nI (pn)), .ref aNw, .ref aNs, .ref aBf, .int (rn), .int (rr)])), (aS, .inl (cZ, 768, .inl (Se))), (aPi, .inl (cI, 1600, .inl (Pi))), (aMd, .inl (cI, 24, .inl (Md))), (aO1, .inl (cI, 24, .inl (O1))), (aT2, .inl (cI, 24, .inl (T2))), (aFa, .inl (cI, 768, .inl (Fa)))] sz) := by
  refine Met.ofW (cc := cM_ask) (maxL := 6) (ret := none) (by decide) rfl ?_
  intro p e s m args below meth c s₁ B hml hv0
  have hx := B.exec
  have hb := B.bytes
  have hr := B.returns
  have hts := atoms_spec (ws := wsM_ask) B.pre
  have hown : s.vm.findClass RM = some m.cls := findClass_of_methodNamed B.named
  have hlocks := B.notSynchronized
  obtain ⟨rfl, hsz, hG⟩ := dw_enter hv0
  generalize va_A [(m0, .inr (5, [.int (ft), .int (vl), .ref aMd, .ref aO1, .ref aT2, .int (rs), .ref aSh, .ref aMk, .ref aFa, .ref aDe, .ref aNe, .ref aBy, .ref aPi, .int (nI (pn)), .ref aNw, .ref aNs, .ref aBf, .int (rn), .int (rr)])), (aS, .inl (cZ, 768, .inl (Se))), (aPi, .inl (cI, 1600, .inl (Pi))), (aMd, .inl (cI, 24, .inl (Md))), (aO1, .inl (cI, 24, .inl (O1))), (aT2, .inl (cI, 24, .inl (T2))), (aFa, .inl (cI, 768, .inl (Fa)))] sz = A at hG ⊢
  have hl := lv_entry ([.ref m0, .ref aS, .int (nI (v)), .int (nI (k))]) (n := 6) (Nat.le_of_ble_eq_true rfl)
  rw [lg_entry_eq]
  generalize (lg_sl ([.ref m0, .ref aS, .int (nI (v)), .int (nI (k))]) ++ List.replicate (6 - (lg_sl ([.ref m0, .ref aS, .int (nI (v)), .int (nI (k))])).length) Slot.unset).toArray = ls at hl ⊢
  have hl : lv_has ls 6 [(0, .ref m0), (1, .ref aS), (2, .int (nI (v))), (3, .int (nI (k)))] := hl
  have hw497 := hts _ (List.mem_cons_of_mem _ tw_497)
  have hw498 := hts _ (List.mem_cons_of_mem _ tw_498)
  have hw496 := hts _ (List.mem_cons_of_mem _ tw_496)
  refine dw_Q (fun Q hQ => ?_)
  suffices hgo : ∀ (H : Heap) (locs : List Loc), dw_G (dC, dI) vwCl [(cI, .int), (cZ, .boolean)] A s.heap s [(m0, .inr (5, [.int (ft), .int (vl), .ref aMd, .ref aO1, .ref aT2, .int (rs), .ref aSh, .ref aMk, .ref aFa, .ref aDe, .ref aNe, .ref aBy, .ref aPi, .int (nI (pn)), .ref aNw, .ref aNs, .ref aBf, .int (rn), .int (rr)])), (aS, .inl (cZ, 768, .inl (Se))), (aPi, .inl (cI, 1600, .inl (Pi))), (aMd, .inl (cI, 24, .inl (Md))), (aO1, .inl (cI, 24, .inl (O1))), (aT2, .inl (cI, 24, .inl (T2))), (aFa, .inl (cI, 768, .inl (Fa)))] H locs → W p l e (headSpec wsM_ask { frames := 2, cells := 0, slots := 0, locals := 60 }).room s m [.ref m0, .ref aS, .int (nI (v)), .int (nI (k))].toArray below meth c H locs 0 0 Q (F0 m 0 ls []) from hgo _ _ hG
  clear hG
  intro H locs hG
  refine lv_aload_n hx hb dM_ask_0 rfl (lv_at hl 0 rfl) ?_
  refine dw_get hx hb hts inMc hown hG 0 3 rfl rfl (by decide) hw497 rfl rfl dM_ask_1 ?_
  refine lv_iload_n hx hb dM_ask_4 rfl (lv_at hl 2 rfl) ?_
  refine dw_ia (x := nI (x)) hx hb hG 4 0 rfl rfl (v) rfl (by omega) (by decide) e1 dM_ask_5 ?_
  refine lv_istore (lv' := [(4, .int (nI (x))), (0, .ref m0), (1, .ref aS), (2, .int (nI (v))), (3, .int (nI (k)))]) hx hb dM_ask_6 hl (by decide) rfl (fun ls hl => ?_)
  refine lv_aload_n hx hb dM_ask_8 rfl (lv_at hl 1 rfl) ?_
  refine dw_get hx hb hts inMc hown hG 0 4 rfl rfl (by decide) hw498 rfl rfl dM_ask_9 ?_
  refine lv_iload_n hx hb dM_ask_12 rfl (lv_at hl 3 rfl) ?_
  refine dw_ia (x := (T2) (v)) hx hb hG 5 0 rfl rfl (v) rfl (by omega) (by decide) rfl dM_ask_13 ?_
  refine lv_istore (lv' := [(5, .int ((T2) (v))), (4, .int (nI (x))), (0, .ref m0), (1, .ref aS), (2, .int (nI (v))), (3, .int (nI (k)))]) hx hb dM_ask_14 hl (by decide) rfl (fun ls hl => ?_)
  refine lv_aload_n hx hb dM_ask_16 rfl (lv_at hl 2 rfl) ?_
  refine dw_get hx hb hts inMc hown hG 0 2 rfl rfl (by decide) hw496 rfl rfl dM_ask_17 ?_
  refine lv_iload_n hx hb dM_ask_20 rfl (lv_at hl 4 rfl) ?_
  refine dw_ia (x := 9) hx hb hG 3 0 rfl rfl (v) rfl (by omega) (by decide) em dM_ask_21 ?_
  refine lv_tableIn (tgt := 221) hx hb dM_ask_22 (by decide) (by decide) rfl (by decide) ?_
  refine lv_aload_n hx hb dM_ask_221 rfl (lv_at hl 2 rfl) ?_
  refine lv_aload_n hx hb dM_ask_222 rfl (lv_at hl 3 rfl) ?_
  refine lv_iload hx hb dM_ask_223 (lv_at hl 1 rfl) ?_
  refine lv_iload_n hx hb dM_ask_225 rfl (lv_at hl 5 rfl) ?_
  refine lv_bipush (v := 7) hx hb dM_ask_226 (by decide) ?_
  refine lv_icmp_le (tgt := 236) hx hb dM_ask_228 (by decide) (fun h228 => ?_) (fun h228 => ?_)
  · skip
    replace h228 := (nI_leI (a := k) (b := 7) (by omega) (by omega)).mp h228
    refine lv_iload_n hx hb dM_ask_236 rfl (lv_at hl 5 rfl) ?_
    refine dw_callv (wc := [(m0, .inr (5, [.int (ft), .int (vl), .ref aMd, .ref aO1, .ref aT2, .int (rs), .ref aSh, .ref aMk, .ref aFa, .ref aDe, .ref aNe, .ref aBy, .ref aPi, .int (nI (pn)), .ref aNw, .ref aNs, .ref aBf, .int (rn), .int (rr)])), (aS, .inl (cZ, 768, .inl (Se))), (aPi, .inl (cI, 1600, .inl (Pi)))]) (wr := [(aMd, .inl (cI, 24, .inl (Md))), (aO1, .inl (cI, 24, .inl (O1))), (aT2, .inl (cI, 24, .inl (T2))), (aFa, .inl (cI, 768, .inl (Fa)))]) hG [0, 1, 2] [3, 4, 5, 6] rfl rfl (by decide) (by decide) (va_runV (As := [.ref aS, .int (nI (x)), .int (nI (k))]) (rest := []) ⟨hx, hb, hml, hown, hts⟩ (rf_want l dC dI cI cZ m0 aMd aO1 aT2 aSh aMk aFa aDe aNe aBy aPi aNw aNs aBf (pn) aS ft vl rs rn rr (x) (k) (Se) (Pi) H.size (by omega) (by omega) hok) (dc_V 3 hts tw_644 tw_646 tp_M_want tw_7 tw_647 rfl rfl (by decide +kernel) ⟨Nat.le_of_ble_eq_true rfl, Nat.le_of_ble_eq_true rfl⟩) (dw_preV (ci := 5) hG [0, 1, 2] [0, 1] rfl rfl (by decide) rfl rfl (q0 := 0) rfl) rfl rfl hl.1 rfl (lv_room (Nat.le_of_ble_eq_true rfl)) dM_ask_237 ⟨Nat.le_refl _, Nat.le_refl _⟩) (fun u26 H locs hu26 hG => ?_)
    have hG : dw_G (dC, dI) vwCl [(cI, .int), (cZ, .boolean)] A s.heap s [(aMd, .inl (cI, 24, .inl (Md))), (aO1, .inl (cI, 24, .inl (O1))), (aT2, .inl (cI, 24, .inl (T2))), (aFa, .inl (cI, 768, .inl (Fa))), (m0, .inr (5, [.int (ft), .int (vl), .ref aMd, .ref aO1, .ref aT2, .int (rs), .ref aSh, .ref aMk, .ref aFa, .ref aDe, .ref aNe, .ref aBy, .ref aPi, .int (nI (u26.2.2)), .ref aNw, .ref aNs, .ref aBf, .int (rn), .int (rr)])), (aS, .inl (cZ, 768, .inl (u26.1))), (aPi, .inl (cI, 1600, .inl (u26.2.1)))] H locs := hG
    refine lv_goto (tgt := 265) hx hb dM_ask_240 (by decide) ?_
    subst hQ
    exact dw_vret hx hb hr (dw_perm hG [4, 5, 6, 0, 1, 2, 3] (by decide) rfl rfl) (u26) rfl (db_asked_congr hu26 (fun w b _ => by show _ ↔ ((w = x ∧ b = if 7 < k then 7 else k) ∨ (w = y ∧ False)); rw [if_neg (by omega)]; simp only [and_false, or_false] <;> omega)) dM_ask_265 hlocks
  replace h228 : ¬ k ≤ 7 := fun q => h228 ((nI_leI (a := k) (b := 7) (by omega) (by omega)).mpr q)
  refine lv_bipush (v := 7) hx hb dM_ask_231 (by decide) ?_
  refine lv_goto (tgt := 237) hx hb dM_ask_233 (by decide) ?_
  refine dw_callv (wc := [(m0, .inr (5, [.int (ft), .int (vl), .ref aMd, .ref aO1, .ref aT2, .int (rs), .ref aSh, .ref aMk, .ref aFa, .ref aDe, .ref aNe, .ref aBy, .ref aPi, .int (nI (pn)), .ref aNw, .ref aNs, .ref aBf, .int (rn), .int (rr)])), (aS, .inl (cZ, 768, .inl (Se))), (aPi, .inl (cI, 1600, .inl (Pi)))]) (wr := [(aMd, .inl (cI, 24, .inl (Md))), (aO1, .inl (cI, 24, .inl (O1))), (aT2, .inl (cI, 24, .inl (T2))), (aFa, .inl (cI, 768, .inl (Fa)))]) hG [0, 1, 2] [3, 4, 5, 6] rfl rfl (by decide) (by decide) (va_runV (As := [.ref aS, .int (nI (x)), .int (7)]) (rest := []) ⟨hx, hb, hml, hown, hts⟩ (rf_want l dC dI cI cZ m0 aMd aO1 aT2 aSh aMk aFa aDe aNe aBy aPi aNw aNs aBf (pn) aS ft vl rs rn rr (x) (7) (Se) (Pi) H.size (by omega) (by omega) hok) (dc_V 3 hts tw_644 tw_646 tp_M_want tw_7 tw_647 rfl rfl (by decide +kernel) ⟨Nat.le_of_ble_eq_true rfl, Nat.le_of_ble_eq_true rfl⟩) (dw_preV (ci := 5) hG [0, 1, 2] [0, 1] rfl rfl (by decide) rfl rfl (q0 := 0) rfl) rfl rfl hl.1 rfl (lv_room (Nat.le_of_ble_eq_true rfl)) dM_ask_237 ⟨Nat.le_refl _, Nat.le_refl _⟩) (fun u27 H locs hu27 hG => ?_)
  have hG : dw_G (dC, dI) vwCl [(cI, .int), (cZ, .boolean)] A s.heap s [(aMd, .inl (cI, 24, .inl (Md))), (aO1, .inl (cI, 24, .inl (O1))), (aT2, .inl (cI, 24, .inl (T2))), (aFa, .inl (cI, 768, .inl (Fa))), (m0, .inr (5, [.int (ft), .int (vl), .ref aMd, .ref aO1, .ref aT2, .int (rs), .ref aSh, .ref aMk, .ref aFa, .ref aDe, .ref aNe, .ref aBy, .ref aPi, .int (nI (u27.2.2)), .ref aNw, .ref aNs, .ref aBf, .int (rn), .int (rr)])), (aS, .inl (cZ, 768, .inl (u27.1))), (aPi, .inl (cI, 1600, .inl (u27.2.1)))] H locs := hG
  refine lv_goto (tgt := 265) hx hb dM_ask_240 (by decide) ?_
  subst hQ
  exact dw_vret hx hb hr (dw_perm hG [4, 5, 6, 0, 1, 2, 3] (by decide) rfl rfl) (u27) rfl (db_asked_congr hu27 (fun w b _ => by show _ ↔ ((w = x ∧ b = if 7 < k then 7 else k) ∨ (w = y ∧ False)); rw [if_pos (by omega)]; simp only [and_false, or_false] <;> omega)) dM_ask_265 hlocks

set_option maxRecDepth 100000 in
set_option maxHeartbeats 4000000 in
theorem rf_ask12 (l : Launch) (dC : Nat → ClassId) (dI : Nat → Nat → Nat) (cI cZ : ClassId) (m0 aMd aO1 aT2 aSh aMk aFa aDe aNe aBy aPi aNw aNs aBf pn aS : Nat) (ft vl rs rn rr : Int32) (v k x y dd : Nat) (Se Pi Md O1 T2 Fa : Nat → Int32) (zx ox zy oy : Int32) (sz : Nat) (hv : v < 24) (hk : k < 32) (hok : db_ok (Se, Pi, pn)) (em : Md v = nI 10) (hx9 : x < 24) (e1 : O1 v = nI x) : Met l yM_ask wsM_ask { frames := 2, cells := 0, slots := 0, locals := 60 } (va_Pc [.ref m0, .ref aS, .int (nI (v)), .int (nI (k))] (dw_pre (dC, dI) vwCl [(m0, .inr (5, [.int (ft), .int (vl), .ref aMd, .ref aO1, .ref aT2, .int (rs), .ref aSh, .ref aMk, .ref aFa, .ref aDe, .ref aNe, .ref aBy, .ref aPi, .int (nI (pn)), .ref aNw, .ref aNs, .ref aBf, .int (rn), .int (rr)])), (aS, .inl (cZ, 768, .inl (Se))), (aPi, .inl (cI, 1600, .inl (Pi))), (aMd, .inl (cI, 24, .inl (Md))), (aO1, .inl (cI, 24, .inl (O1))), (aT2, .inl (cI, 24, .inl (T2))), (aFa, .inl (cI, 768, .inl (Fa)))] [(cI, .int), (cZ, .boolean)] sz)) (va_Qv (fun (u : db_Q) => db_asked (fun w b => db_A 12 dd x y zx ox zy oy k w b) (Se, Pi, pn) u) (fun u t => dw_post (dC, dI) vwCl [(m0, .inr (5, [.int (ft), .int (vl), .ref aMd, .ref aO1, .ref aT2, .int (rs), .ref aSh, .ref aMk, .ref aFa, .ref aDe, .ref aNe, .ref aBy, .ref aPi, .int (nI u.2.2), .ref aNw, .ref aNs, .ref aBf, .int (rn), .int (rr)])), (aS, .inl (cZ, 768, .inl (u.1))), (aPi, .inl (cI, 1600, .inl (u.2.1))), (aMd, .inl (cI, 24, .inl (Md))), (aO1, .inl (cI, 24, .inl (O1))), (aT2, .inl (cI, 24, .inl (T2))), (aFa, .inl (cI, 768, .inl (Fa)))] [(cI, .int), (cZ, .boolean)] (va_A [(m0, .inr (5, [.int (ft), .int (vl), .ref aMd, .ref aO1, .ref aT2, .int (rs), .ref aSh, .ref aMk, .ref aFa, .ref aDe, .ref aNe, .ref aBy, .ref aPi, .int (nI (pn)), .ref aNw, .ref aNs, .ref aBf, .int (rn), .int (rr)])), (aS, .inl (cZ, 768, .inl (Se))), (aPi, .inl (cI, 1600, .inl (Pi))), (aMd, .inl (cI, 24, .inl (Md))), (aO1, .inl (cI, 24, .inl (O1))), (aT2, .inl (cI, 24, .inl (T2))), (aFa, .inl (cI, 768, .inl (Fa)))] sz) t) (va_A [(m0, .inr (5, [.int (ft), .int (vl), .ref aMd, .ref aO1, .ref aT2, .int (rs), .ref aSh, .ref aMk, .ref aFa, .ref aDe, .ref aNe, .ref aBy, .ref aPi, .int (nI (pn)), .ref aNw, .ref aNs, .ref aBf, .int (rn), .int (rr)])), (aS, .inl (cZ, 768, .inl (Se))), (aPi, .inl (cI, 1600, .inl (Pi))), (aMd, .inl (cI, 24, .inl (Md))), (aO1, .inl (cI, 24, .inl (O1))), (aT2, .inl (cI, 24, .inl (T2))), (aFa, .inl (cI, 768, .inl (Fa)))] sz)) 0 0 (va_A [(m0, .inr (5, [.int (ft), .int (vl), .ref aMd, .ref aO1, .ref aT2, .int (rs), .ref aSh, .ref aMk, .ref aFa, .ref aDe, .ref aNe, .ref aBy, .ref aPi, .int (nI (pn)), .ref aNw, .ref aNs, .ref aBf, .int (rn), .int (rr)])), (aS, .inl (cZ, 768, .inl (Se))), (aPi, .inl (cI, 1600, .inl (Pi))), (aMd, .inl (cI, 24, .inl (Md))), (aO1, .inl (cI, 24, .inl (O1))), (aT2, .inl (cI, 24, .inl (T2))), (aFa, .inl (cI, 768, .inl (Fa)))] sz) := by
  refine Met.ofW (cc := cM_ask) (maxL := 6) (ret := none) (by decide) rfl ?_
  intro p e s m args below meth c s₁ B hml hv0
  have hx := B.exec
  have hb := B.bytes
  have hr := B.returns
  have hts := atoms_spec (ws := wsM_ask) B.pre
  have hown : s.vm.findClass RM = some m.cls := findClass_of_methodNamed B.named
  have hlocks := B.notSynchronized
  obtain ⟨rfl, hsz, hG⟩ := dw_enter hv0
  generalize va_A [(m0, .inr (5, [.int (ft), .int (vl), .ref aMd, .ref aO1, .ref aT2, .int (rs), .ref aSh, .ref aMk, .ref aFa, .ref aDe, .ref aNe, .ref aBy, .ref aPi, .int (nI (pn)), .ref aNw, .ref aNs, .ref aBf, .int (rn), .int (rr)])), (aS, .inl (cZ, 768, .inl (Se))), (aPi, .inl (cI, 1600, .inl (Pi))), (aMd, .inl (cI, 24, .inl (Md))), (aO1, .inl (cI, 24, .inl (O1))), (aT2, .inl (cI, 24, .inl (T2))), (aFa, .inl (cI, 768, .inl (Fa)))] sz = A at hG ⊢
  have hl := lv_entry ([.ref m0, .ref aS, .int (nI (v)), .int (nI (k))]) (n := 6) (Nat.le_of_ble_eq_true rfl)
  rw [lg_entry_eq]
  generalize (lg_sl ([.ref m0, .ref aS, .int (nI (v)), .int (nI (k))]) ++ List.replicate (6 - (lg_sl ([.ref m0, .ref aS, .int (nI (v)), .int (nI (k))])).length) Slot.unset).toArray = ls at hl ⊢
  have hl : lv_has ls 6 [(0, .ref m0), (1, .ref aS), (2, .int (nI (v))), (3, .int (nI (k)))] := hl
  have hw497 := hts _ (List.mem_cons_of_mem _ tw_497)
  have hw498 := hts _ (List.mem_cons_of_mem _ tw_498)
  have hw496 := hts _ (List.mem_cons_of_mem _ tw_496)
  refine dw_Q (fun Q hQ => ?_)
  suffices hgo : ∀ (H : Heap) (locs : List Loc), dw_G (dC, dI) vwCl [(cI, .int), (cZ, .boolean)] A s.heap s [(m0, .inr (5, [.int (ft), .int (vl), .ref aMd, .ref aO1, .ref aT2, .int (rs), .ref aSh, .ref aMk, .ref aFa, .ref aDe, .ref aNe, .ref aBy, .ref aPi, .int (nI (pn)), .ref aNw, .ref aNs, .ref aBf, .int (rn), .int (rr)])), (aS, .inl (cZ, 768, .inl (Se))), (aPi, .inl (cI, 1600, .inl (Pi))), (aMd, .inl (cI, 24, .inl (Md))), (aO1, .inl (cI, 24, .inl (O1))), (aT2, .inl (cI, 24, .inl (T2))), (aFa, .inl (cI, 768, .inl (Fa)))] H locs → W p l e (headSpec wsM_ask { frames := 2, cells := 0, slots := 0, locals := 60 }).room s m [.ref m0, .ref aS, .int (nI (v)), .int (nI (k))].toArray below meth c H locs 0 0 Q (F0 m 0 ls []) from hgo _ _ hG
  clear hG
  intro H locs hG
  refine lv_aload_n hx hb dM_ask_0 rfl (lv_at hl 0 rfl) ?_
  refine dw_get hx hb hts inMc hown hG 0 3 rfl rfl (by decide) hw497 rfl rfl dM_ask_1 ?_
  refine lv_iload_n hx hb dM_ask_4 rfl (lv_at hl 2 rfl) ?_
  refine dw_ia (x := nI (x)) hx hb hG 4 0 rfl rfl (v) rfl (by omega) (by decide) e1 dM_ask_5 ?_
  refine lv_istore (lv' := [(4, .int (nI (x))), (0, .ref m0), (1, .ref aS), (2, .int (nI (v))), (3, .int (nI (k)))]) hx hb dM_ask_6 hl (by decide) rfl (fun ls hl => ?_)
  refine lv_aload_n hx hb dM_ask_8 rfl (lv_at hl 1 rfl) ?_
  refine dw_get hx hb hts inMc hown hG 0 4 rfl rfl (by decide) hw498 rfl rfl dM_ask_9 ?_
  refine lv_iload_n hx hb dM_ask_12 rfl (lv_at hl 3 rfl) ?_
  refine dw_ia (x := (T2) (v)) hx hb hG 5 0 rfl rfl (v) rfl (by omega) (by decide) rfl dM_ask_13 ?_
  refine lv_istore (lv' := [(5, .int ((T2) (v))), (4, .int (nI (x))), (0, .ref m0), (1, .ref aS), (2, .int (nI (v))), (3, .int (nI (k)))]) hx hb dM_ask_14 hl (by decide) rfl (fun ls hl => ?_)
  refine lv_aload_n hx hb dM_ask_16 rfl (lv_at hl 2 rfl) ?_
  refine dw_get hx hb hts inMc hown hG 0 2 rfl rfl (by decide) hw496 rfl rfl dM_ask_17 ?_
  refine lv_iload_n hx hb dM_ask_20 rfl (lv_at hl 4 rfl) ?_
  refine dw_ia (x := 10) hx hb hG 3 0 rfl rfl (v) rfl (by omega) (by decide) em dM_ask_21 ?_
  refine lv_tableIn (tgt := 243) hx hb dM_ask_22 (by decide) (by decide) rfl (by decide) ?_
  refine lv_aload_n hx hb dM_ask_243 rfl (lv_at hl 2 rfl) ?_
  refine lv_aload_n hx hb dM_ask_244 rfl (lv_at hl 3 rfl) ?_
  refine lv_iload hx hb dM_ask_245 (lv_at hl 1 rfl) ?_
  refine lv_iload_n hx hb dM_ask_247 rfl (lv_at hl 5 rfl) ?_
  refine lv_bipush (v := 15) hx hb dM_ask_248 (by decide) ?_
  refine lv_icmp_le (tgt := 258) hx hb dM_ask_250 (by decide) (fun h250 => ?_) (fun h250 => ?_)
  · skip
    replace h250 := (nI_leI (a := k) (b := 15) (by omega) (by omega)).mp h250
    refine lv_iload_n hx hb dM_ask_258 rfl (lv_at hl 5 rfl) ?_
    refine dw_callv (wc := [(m0, .inr (5, [.int (ft), .int (vl), .ref aMd, .ref aO1, .ref aT2, .int (rs), .ref aSh, .ref aMk, .ref aFa, .ref aDe, .ref aNe, .ref aBy, .ref aPi, .int (nI (pn)), .ref aNw, .ref aNs, .ref aBf, .int (rn), .int (rr)])), (aS, .inl (cZ, 768, .inl (Se))), (aPi, .inl (cI, 1600, .inl (Pi)))]) (wr := [(aMd, .inl (cI, 24, .inl (Md))), (aO1, .inl (cI, 24, .inl (O1))), (aT2, .inl (cI, 24, .inl (T2))), (aFa, .inl (cI, 768, .inl (Fa)))]) hG [0, 1, 2] [3, 4, 5, 6] rfl rfl (by decide) (by decide) (va_runV (As := [.ref aS, .int (nI (x)), .int (nI (k))]) (rest := []) ⟨hx, hb, hml, hown, hts⟩ (rf_want l dC dI cI cZ m0 aMd aO1 aT2 aSh aMk aFa aDe aNe aBy aPi aNw aNs aBf (pn) aS ft vl rs rn rr (x) (k) (Se) (Pi) H.size (by omega) (by omega) hok) (dc_V 3 hts tw_644 tw_646 tp_M_want tw_7 tw_647 rfl rfl (by decide +kernel) ⟨Nat.le_of_ble_eq_true rfl, Nat.le_of_ble_eq_true rfl⟩) (dw_preV (ci := 5) hG [0, 1, 2] [0, 1] rfl rfl (by decide) rfl rfl (q0 := 0) rfl) rfl rfl hl.1 rfl (lv_room (Nat.le_of_ble_eq_true rfl)) dM_ask_259 ⟨Nat.le_refl _, Nat.le_refl _⟩) (fun u28 H locs hu28 hG => ?_)
    have hG : dw_G (dC, dI) vwCl [(cI, .int), (cZ, .boolean)] A s.heap s [(aMd, .inl (cI, 24, .inl (Md))), (aO1, .inl (cI, 24, .inl (O1))), (aT2, .inl (cI, 24, .inl (T2))), (aFa, .inl (cI, 768, .inl (Fa))), (m0, .inr (5, [.int (ft), .int (vl), .ref aMd, .ref aO1, .ref aT2, .int (rs), .ref aSh, .ref aMk, .ref aFa, .ref aDe, .ref aNe, .ref aBy, .ref aPi, .int (nI (u28.2.2)), .ref aNw, .ref aNs, .ref aBf, .int (rn), .int (rr)])), (aS, .inl (cZ, 768, .inl (u28.1))), (aPi, .inl (cI, 1600, .inl (u28.2.1)))] H locs := hG
    refine lv_goto (tgt := 265) hx hb dM_ask_262 (by decide) ?_
    subst hQ
    exact dw_vret hx hb hr (dw_perm hG [4, 5, 6, 0, 1, 2, 3] (by decide) rfl rfl) (u28) rfl (db_asked_congr hu28 (fun w b _ => by show _ ↔ ((w = x ∧ b = if 15 < k then 15 else k) ∨ (w = y ∧ False)); rw [if_neg (by omega)]; simp only [and_false, or_false] <;> omega)) dM_ask_265 hlocks
  replace h250 : ¬ k ≤ 15 := fun q => h250 ((nI_leI (a := k) (b := 15) (by omega) (by omega)).mpr q)
  refine lv_bipush (v := 15) hx hb dM_ask_253 (by decide) ?_
  refine lv_goto (tgt := 259) hx hb dM_ask_255 (by decide) ?_
  refine dw_callv (wc := [(m0, .inr (5, [.int (ft), .int (vl), .ref aMd, .ref aO1, .ref aT2, .int (rs), .ref aSh, .ref aMk, .ref aFa, .ref aDe, .ref aNe, .ref aBy, .ref aPi, .int (nI (pn)), .ref aNw, .ref aNs, .ref aBf, .int (rn), .int (rr)])), (aS, .inl (cZ, 768, .inl (Se))), (aPi, .inl (cI, 1600, .inl (Pi)))]) (wr := [(aMd, .inl (cI, 24, .inl (Md))), (aO1, .inl (cI, 24, .inl (O1))), (aT2, .inl (cI, 24, .inl (T2))), (aFa, .inl (cI, 768, .inl (Fa)))]) hG [0, 1, 2] [3, 4, 5, 6] rfl rfl (by decide) (by decide) (va_runV (As := [.ref aS, .int (nI (x)), .int (15)]) (rest := []) ⟨hx, hb, hml, hown, hts⟩ (rf_want l dC dI cI cZ m0 aMd aO1 aT2 aSh aMk aFa aDe aNe aBy aPi aNw aNs aBf (pn) aS ft vl rs rn rr (x) (15) (Se) (Pi) H.size (by omega) (by omega) hok) (dc_V 3 hts tw_644 tw_646 tp_M_want tw_7 tw_647 rfl rfl (by decide +kernel) ⟨Nat.le_of_ble_eq_true rfl, Nat.le_of_ble_eq_true rfl⟩) (dw_preV (ci := 5) hG [0, 1, 2] [0, 1] rfl rfl (by decide) rfl rfl (q0 := 0) rfl) rfl rfl hl.1 rfl (lv_room (Nat.le_of_ble_eq_true rfl)) dM_ask_259 ⟨Nat.le_refl _, Nat.le_refl _⟩) (fun u29 H locs hu29 hG => ?_)
  have hG : dw_G (dC, dI) vwCl [(cI, .int), (cZ, .boolean)] A s.heap s [(aMd, .inl (cI, 24, .inl (Md))), (aO1, .inl (cI, 24, .inl (O1))), (aT2, .inl (cI, 24, .inl (T2))), (aFa, .inl (cI, 768, .inl (Fa))), (m0, .inr (5, [.int (ft), .int (vl), .ref aMd, .ref aO1, .ref aT2, .int (rs), .ref aSh, .ref aMk, .ref aFa, .ref aDe, .ref aNe, .ref aBy, .ref aPi, .int (nI (u29.2.2)), .ref aNw, .ref aNs, .ref aBf, .int (rn), .int (rr)])), (aS, .inl (cZ, 768, .inl (u29.1))), (aPi, .inl (cI, 1600, .inl (u29.2.1)))] H locs := hG
  refine lv_goto (tgt := 265) hx hb dM_ask_262 (by decide) ?_
  subst hQ
  exact dw_vret hx hb hr (dw_perm hG [4, 5, 6, 0, 1, 2, 3] (by decide) rfl rfl) (u29) rfl (db_asked_congr hu29 (fun w b _ => by show _ ↔ ((w = x ∧ b = if 15 < k then 15 else k) ∨ (w = y ∧ False)); rw [if_pos (by omega)]; simp only [and_false, or_false] <;> omega)) dM_ask_265 hlocks

set_option maxRecDepth 100000 in
set_option maxHeartbeats 4000000 in
theorem rf_ask13 (l : Launch) (dC : Nat → ClassId) (dI : Nat → Nat → Nat) (cI cZ : ClassId) (m0 aMd aO1 aT2 aSh aMk aFa aDe aNe aBy aPi aNw aNs aBf pn aS : Nat) (ft vl rs rn rr : Int32) (v k x y dd : Nat) (Se Pi Md O1 T2 Fa : Nat → Int32) (zx ox zy oy : Int32) (sz : Nat) (hv : v < 24) (hk : k < 32) (hok : db_ok (Se, Pi, pn)) (em : Md v = nI 11) (hx9 : x < 24) (e1 : O1 v = nI x) (hy9 : y < 24) (e2 : T2 v = nI y) : Met l yM_ask wsM_ask { frames := 2, cells := 0, slots := 0, locals := 60 } (va_Pc [.ref m0, .ref aS, .int (nI (v)), .int (nI (k))] (dw_pre (dC, dI) vwCl [(m0, .inr (5, [.int (ft), .int (vl), .ref aMd, .ref aO1, .ref aT2, .int (rs), .ref aSh, .ref aMk, .ref aFa, .ref aDe, .ref aNe, .ref aBy, .ref aPi, .int (nI (pn)), .ref aNw, .ref aNs, .ref aBf, .int (rn), .int (rr)])), (aS, .inl (cZ, 768, .inl (Se))), (aPi, .inl (cI, 1600, .inl (Pi))), (aMd, .inl (cI, 24, .inl (Md))), (aO1, .inl (cI, 24, .inl (O1))), (aT2, .inl (cI, 24, .inl (T2))), (aFa, .inl (cI, 768, .inl (Fa)))] [(cI, .int), (cZ, .boolean)] sz)) (va_Qv (fun (u : db_Q) => db_asked (fun w b => db_A 13 dd x y zx ox zy oy k w b) (Se, Pi, pn) u) (fun u t => dw_post (dC, dI) vwCl [(m0, .inr (5, [.int (ft), .int (vl), .ref aMd, .ref aO1, .ref aT2, .int (rs), .ref aSh, .ref aMk, .ref aFa, .ref aDe, .ref aNe, .ref aBy, .ref aPi, .int (nI u.2.2), .ref aNw, .ref aNs, .ref aBf, .int (rn), .int (rr)])), (aS, .inl (cZ, 768, .inl (u.1))), (aPi, .inl (cI, 1600, .inl (u.2.1))), (aMd, .inl (cI, 24, .inl (Md))), (aO1, .inl (cI, 24, .inl (O1))), (aT2, .inl (cI, 24, .inl (T2))), (aFa, .inl (cI, 768, .inl (Fa)))] [(cI, .int), (cZ, .boolean)] (va_A [(m0, .inr (5, [.int (ft), .int (vl), .ref aMd, .ref aO1, .ref aT2, .int (rs), .ref aSh, .ref aMk, .ref aFa, .ref aDe, .ref aNe, .ref aBy, .ref aPi, .int (nI (pn)), .ref aNw, .ref aNs, .ref aBf, .int (rn), .int (rr)])), (aS, .inl (cZ, 768, .inl (Se))), (aPi, .inl (cI, 1600, .inl (Pi))), (aMd, .inl (cI, 24, .inl (Md))), (aO1, .inl (cI, 24, .inl (O1))), (aT2, .inl (cI, 24, .inl (T2))), (aFa, .inl (cI, 768, .inl (Fa)))] sz) t) (va_A [(m0, .inr (5, [.int (ft), .int (vl), .ref aMd, .ref aO1, .ref aT2, .int (rs), .ref aSh, .ref aMk, .ref aFa, .ref aDe, .ref aNe, .ref aBy, .ref aPi, .int (nI (pn)), .ref aNw, .ref aNs, .ref aBf, .int (rn), .int (rr)])), (aS, .inl (cZ, 768, .inl (Se))), (aPi, .inl (cI, 1600, .inl (Pi))), (aMd, .inl (cI, 24, .inl (Md))), (aO1, .inl (cI, 24, .inl (O1))), (aT2, .inl (cI, 24, .inl (T2))), (aFa, .inl (cI, 768, .inl (Fa)))] sz)) 0 0 (va_A [(m0, .inr (5, [.int (ft), .int (vl), .ref aMd, .ref aO1, .ref aT2, .int (rs), .ref aSh, .ref aMk, .ref aFa, .ref aDe, .ref aNe, .ref aBy, .ref aPi, .int (nI (pn)), .ref aNw, .ref aNs, .ref aBf, .int (rn), .int (rr)])), (aS, .inl (cZ, 768, .inl (Se))), (aPi, .inl (cI, 1600, .inl (Pi))), (aMd, .inl (cI, 24, .inl (Md))), (aO1, .inl (cI, 24, .inl (O1))), (aT2, .inl (cI, 24, .inl (T2))), (aFa, .inl (cI, 768, .inl (Fa)))] sz) := by
  refine Met.ofW (cc := cM_ask) (maxL := 6) (ret := none) (by decide) rfl ?_
  intro p e s m args below meth c s₁ B hml hv0
  have hx := B.exec
  have hb := B.bytes
  have hr := B.returns
  have hts := atoms_spec (ws := wsM_ask) B.pre
  have hown : s.vm.findClass RM = some m.cls := findClass_of_methodNamed B.named
  have hlocks := B.notSynchronized
  obtain ⟨rfl, hsz, hG⟩ := dw_enter hv0
  generalize va_A [(m0, .inr (5, [.int (ft), .int (vl), .ref aMd, .ref aO1, .ref aT2, .int (rs), .ref aSh, .ref aMk, .ref aFa, .ref aDe, .ref aNe, .ref aBy, .ref aPi, .int (nI (pn)), .ref aNw, .ref aNs, .ref aBf, .int (rn), .int (rr)])), (aS, .inl (cZ, 768, .inl (Se))), (aPi, .inl (cI, 1600, .inl (Pi))), (aMd, .inl (cI, 24, .inl (Md))), (aO1, .inl (cI, 24, .inl (O1))), (aT2, .inl (cI, 24, .inl (T2))), (aFa, .inl (cI, 768, .inl (Fa)))] sz = A at hG ⊢
  have hl := lv_entry ([.ref m0, .ref aS, .int (nI (v)), .int (nI (k))]) (n := 6) (Nat.le_of_ble_eq_true rfl)
  rw [lg_entry_eq]
  generalize (lg_sl ([.ref m0, .ref aS, .int (nI (v)), .int (nI (k))]) ++ List.replicate (6 - (lg_sl ([.ref m0, .ref aS, .int (nI (v)), .int (nI (k))])).length) Slot.unset).toArray = ls at hl ⊢
  have hl : lv_has ls 6 [(0, .ref m0), (1, .ref aS), (2, .int (nI (v))), (3, .int (nI (k)))] := hl
  have hw497 := hts _ (List.mem_cons_of_mem _ tw_497)
  have hw498 := hts _ (List.mem_cons_of_mem _ tw_498)
  have hw496 := hts _ (List.mem_cons_of_mem _ tw_496)
  refine dw_Q (fun Q hQ => ?_)
  suffices hgo : ∀ (H : Heap) (locs : List Loc), dw_G (dC, dI) vwCl [(cI, .int), (cZ, .boolean)] A s.heap s [(m0, .inr (5, [.int (ft), .int (vl), .ref aMd, .ref aO1, .ref aT2, .int (rs), .ref aSh, .ref aMk, .ref aFa, .ref aDe, .ref aNe, .ref aBy, .ref aPi, .int (nI (pn)), .ref aNw, .ref aNs, .ref aBf, .int (rn), .int (rr)])), (aS, .inl (cZ, 768, .inl (Se))), (aPi, .inl (cI, 1600, .inl (Pi))), (aMd, .inl (cI, 24, .inl (Md))), (aO1, .inl (cI, 24, .inl (O1))), (aT2, .inl (cI, 24, .inl (T2))), (aFa, .inl (cI, 768, .inl (Fa)))] H locs → W p l e (headSpec wsM_ask { frames := 2, cells := 0, slots := 0, locals := 60 }).room s m [.ref m0, .ref aS, .int (nI (v)), .int (nI (k))].toArray below meth c H locs 0 0 Q (F0 m 0 ls []) from hgo _ _ hG
  clear hG
  intro H locs hG
  refine lv_aload_n hx hb dM_ask_0 rfl (lv_at hl 0 rfl) ?_
  refine dw_get hx hb hts inMc hown hG 0 3 rfl rfl (by decide) hw497 rfl rfl dM_ask_1 ?_
  refine lv_iload_n hx hb dM_ask_4 rfl (lv_at hl 2 rfl) ?_
  refine dw_ia (x := nI (x)) hx hb hG 4 0 rfl rfl (v) rfl (by omega) (by decide) e1 dM_ask_5 ?_
  refine lv_istore (lv' := [(4, .int (nI (x))), (0, .ref m0), (1, .ref aS), (2, .int (nI (v))), (3, .int (nI (k)))]) hx hb dM_ask_6 hl (by decide) rfl (fun ls hl => ?_)
  refine lv_aload_n hx hb dM_ask_8 rfl (lv_at hl 1 rfl) ?_
  refine dw_get hx hb hts inMc hown hG 0 4 rfl rfl (by decide) hw498 rfl rfl dM_ask_9 ?_
  refine lv_iload_n hx hb dM_ask_12 rfl (lv_at hl 3 rfl) ?_
  refine dw_ia (x := nI (y)) hx hb hG 5 0 rfl rfl (v) rfl (by omega) (by decide) e2 dM_ask_13 ?_
  refine lv_istore (lv' := [(5, .int (nI (y))), (4, .int (nI (x))), (0, .ref m0), (1, .ref aS), (2, .int (nI (v))), (3, .int (nI (k)))]) hx hb dM_ask_14 hl (by decide) rfl (fun ls hl => ?_)
  refine lv_aload_n hx hb dM_ask_16 rfl (lv_at hl 2 rfl) ?_
  refine dw_get hx hb hts inMc hown hG 0 2 rfl rfl (by decide) hw496 rfl rfl dM_ask_17 ?_
  refine lv_iload_n hx hb dM_ask_20 rfl (lv_at hl 4 rfl) ?_
  refine dw_ia (x := 11) hx hb hG 3 0 rfl rfl (v) rfl (by omega) (by decide) em dM_ask_21 ?_
  refine lv_tableIn (tgt := 131) hx hb dM_ask_22 (by decide) (by decide) rfl (by decide) ?_
  refine lv_aload_n hx hb dM_ask_131 rfl (lv_at hl 2 rfl) ?_
  refine lv_aload_n hx hb dM_ask_132 rfl (lv_at hl 3 rfl) ?_
  refine lv_iload hx hb dM_ask_133 (lv_at hl 1 rfl) ?_
  refine lv_iload_n hx hb dM_ask_135 rfl (lv_at hl 5 rfl) ?_
  refine dw_callv (wc := [(m0, .inr (5, [.int (ft), .int (vl), .ref aMd, .ref aO1, .ref aT2, .int (rs), .ref aSh, .ref aMk, .ref aFa, .ref aDe, .ref aNe, .ref aBy, .ref aPi, .int (nI (pn)), .ref aNw, .ref aNs, .ref aBf, .int (rn), .int (rr)])), (aS, .inl (cZ, 768, .inl (Se))), (aPi, .inl (cI, 1600, .inl (Pi)))]) (wr := [(aMd, .inl (cI, 24, .inl (Md))), (aO1, .inl (cI, 24, .inl (O1))), (aT2, .inl (cI, 24, .inl (T2))), (aFa, .inl (cI, 768, .inl (Fa)))]) hG [0, 1, 2] [3, 4, 5, 6] rfl rfl (by decide) (by decide) (va_runV (As := [.ref aS, .int (nI (x)), .int (nI (k))]) (rest := []) ⟨hx, hb, hml, hown, hts⟩ (rf_want l dC dI cI cZ m0 aMd aO1 aT2 aSh aMk aFa aDe aNe aBy aPi aNw aNs aBf (pn) aS ft vl rs rn rr (x) (k) (Se) (Pi) H.size (by omega) (by omega) hok) (dc_V 3 hts tw_644 tw_646 tp_M_want tw_7 tw_647 rfl rfl (by decide +kernel) ⟨Nat.le_of_ble_eq_true rfl, Nat.le_of_ble_eq_true rfl⟩) (dw_preV (ci := 5) hG [0, 1, 2] [0, 1] rfl rfl (by decide) rfl rfl (q0 := 0) rfl) rfl rfl hl.1 rfl (lv_room (Nat.le_of_ble_eq_true rfl)) dM_ask_136 ⟨Nat.le_refl _, Nat.le_refl _⟩) (fun u30 H locs hu30 hG => ?_)
  have hG : dw_G (dC, dI) vwCl [(cI, .int), (cZ, .boolean)] A s.heap s [(aMd, .inl (cI, 24, .inl (Md))), (aO1, .inl (cI, 24, .inl (O1))), (aT2, .inl (cI, 24, .inl (T2))), (aFa, .inl (cI, 768, .inl (Fa))), (m0, .inr (5, [.int (ft), .int (vl), .ref aMd, .ref aO1, .ref aT2, .int (rs), .ref aSh, .ref aMk, .ref aFa, .ref aDe, .ref aNe, .ref aBy, .ref aPi, .int (nI (u30.2.2)), .ref aNw, .ref aNs, .ref aBf, .int (rn), .int (rr)])), (aS, .inl (cZ, 768, .inl (u30.1))), (aPi, .inl (cI, 1600, .inl (u30.2.1)))] H locs := hG
  refine lv_aload_n hx hb dM_ask_139 rfl (lv_at hl 2 rfl) ?_
  refine lv_aload_n hx hb dM_ask_140 rfl (lv_at hl 3 rfl) ?_
  refine lv_iload hx hb dM_ask_141 (lv_at hl 0 rfl) ?_
  refine lv_iload_n hx hb dM_ask_143 rfl (lv_at hl 5 rfl) ?_
  refine dw_callv (wc := [(m0, .inr (5, [.int (ft), .int (vl), .ref aMd, .ref aO1, .ref aT2, .int (rs), .ref aSh, .ref aMk, .ref aFa, .ref aDe, .ref aNe, .ref aBy, .ref aPi, .int (nI (u30.2.2)), .ref aNw, .ref aNs, .ref aBf, .int (rn), .int (rr)])), (aS, .inl (cZ, 768, .inl (u30.1))), (aPi, .inl (cI, 1600, .inl (u30.2.1)))]) (wr := [(aMd, .inl (cI, 24, .inl (Md))), (aO1, .inl (cI, 24, .inl (O1))), (aT2, .inl (cI, 24, .inl (T2))), (aFa, .inl (cI, 768, .inl (Fa)))]) hG [4, 5, 6] [0, 1, 2, 3] rfl rfl (by decide) (by decide) (va_runV (As := [.ref aS, .int (nI (y)), .int (nI (k))]) (rest := []) ⟨hx, hb, hml, hown, hts⟩ (rf_want l dC dI cI cZ m0 aMd aO1 aT2 aSh aMk aFa aDe aNe aBy aPi aNw aNs aBf (u30.2.2) aS ft vl rs rn rr (y) (k) (u30.1) (u30.2.1) H.size (by omega) (by omega) (db_gr_ok hu30.1 hok)) (dc_V 3 hts tw_644 tw_646 tp_M_want tw_7 tw_647 rfl rfl (by decide +kernel) ⟨Nat.le_of_ble_eq_true rfl, Nat.le_of_ble_eq_true rfl⟩) (dw_preV (ci := 5) hG [4, 5, 6] [0, 1] rfl rfl (by decide) rfl rfl (q0 := 4) rfl) rfl rfl hl.1 rfl (lv_room (Nat.le_of_ble_eq_true rfl)) dM_ask_144 ⟨Nat.le_refl _, Nat.le_refl _⟩) (fun u31 H locs hu31 hG => ?_)
  have hG : dw_G (dC, dI) vwCl [(cI, .int), (cZ, .boolean)] A s.heap s [(aMd, .inl (cI, 24, .inl (Md))), (aO1, .inl (cI, 24, .inl (O1))), (aT2, .inl (cI, 24, .inl (T2))), (aFa, .inl (cI, 768, .inl (Fa))), (m0, .inr (5, [.int (ft), .int (vl), .ref aMd, .ref aO1, .ref aT2, .int (rs), .ref aSh, .ref aMk, .ref aFa, .ref aDe, .ref aNe, .ref aBy, .ref aPi, .int (nI (u31.2.2)), .ref aNw, .ref aNs, .ref aBf, .int (rn), .int (rr)])), (aS, .inl (cZ, 768, .inl (u31.1))), (aPi, .inl (cI, 1600, .inl (u31.2.1)))] H locs := hG
  refine lv_goto (tgt := 265) hx hb dM_ask_147 (by decide) ?_
  subst hQ
  exact dw_vret hx hb hr (dw_perm hG [4, 5, 6, 0, 1, 2, 3] (by decide) rfl rfl) (u31) rfl (db_asked_or hu30 hu31 (fun w b q => by omega)) dM_ask_265 hlocks

set_option maxRecDepth 100000 in
theorem rf_ask (l : Launch) (dC : Nat → ClassId) (dI : Nat → Nat → Nat) (cI cZ : ClassId) (m0 aMd aO1 aT2 aSh aMk aFa aDe aNe aBy aPi aNw aNs aBf pn aS : Nat) (ft vl rs rn rr : Int32) (v k x y dd : Nat) (Se Pi Md O1 T2 Fa : Nat → Int32) (zx ox zy oy : Int32) (kd : Nat) (sz : Nat) (hv : v < 24) (hk : k < 32) (hok : db_ok (Se, Pi, pn)) (hkd : kd ≤ 13) (em : Md v = nI (db_rk kd)) (hX : db_ux kd → x < 24 ∧ O1 v = nI x) (hY : kd ≤ 5 ∨ 13 ≤ kd → y < 24 ∧ T2 v = nI y) (hS : db_shift kd → dd < 32 ∧ T2 v = nI dd) (hF : kd = 3 ∨ kd = 4 → db_rep Fa x zx ox ∧ db_rep Fa y zy oy ∧ db_ap zx ox ∧ db_ap zy oy) : Met l yM_ask wsM_ask { frames := 2, cells := 0, slots := 0, locals := 60 } (va_Pc [.ref m0, .ref aS, .int (nI (v)), .int (nI (k))] (dw_pre (dC, dI) vwCl [(m0, .inr (5, [.int (ft), .int (vl), .ref aMd, .ref aO1, .ref aT2, .int (rs), .ref aSh, .ref aMk, .ref aFa, .ref aDe, .ref aNe, .ref aBy, .ref aPi, .int (nI (pn)), .ref aNw, .ref aNs, .ref aBf, .int (rn), .int (rr)])), (aS, .inl (cZ, 768, .inl (Se))), (aPi, .inl (cI, 1600, .inl (Pi))), (aMd, .inl (cI, 24, .inl (Md))), (aO1, .inl (cI, 24, .inl (O1))), (aT2, .inl (cI, 24, .inl (T2))), (aFa, .inl (cI, 768, .inl (Fa)))] [(cI, .int), (cZ, .boolean)] sz)) (va_Qv (fun (u : db_Q) => db_asked (fun w b => db_A kd dd x y zx ox zy oy k w b) (Se, Pi, pn) u) (fun u t => dw_post (dC, dI) vwCl [(m0, .inr (5, [.int (ft), .int (vl), .ref aMd, .ref aO1, .ref aT2, .int (rs), .ref aSh, .ref aMk, .ref aFa, .ref aDe, .ref aNe, .ref aBy, .ref aPi, .int (nI u.2.2), .ref aNw, .ref aNs, .ref aBf, .int (rn), .int (rr)])), (aS, .inl (cZ, 768, .inl (u.1))), (aPi, .inl (cI, 1600, .inl (u.2.1))), (aMd, .inl (cI, 24, .inl (Md))), (aO1, .inl (cI, 24, .inl (O1))), (aT2, .inl (cI, 24, .inl (T2))), (aFa, .inl (cI, 768, .inl (Fa)))] [(cI, .int), (cZ, .boolean)] (va_A [(m0, .inr (5, [.int (ft), .int (vl), .ref aMd, .ref aO1, .ref aT2, .int (rs), .ref aSh, .ref aMk, .ref aFa, .ref aDe, .ref aNe, .ref aBy, .ref aPi, .int (nI (pn)), .ref aNw, .ref aNs, .ref aBf, .int (rn), .int (rr)])), (aS, .inl (cZ, 768, .inl (Se))), (aPi, .inl (cI, 1600, .inl (Pi))), (aMd, .inl (cI, 24, .inl (Md))), (aO1, .inl (cI, 24, .inl (O1))), (aT2, .inl (cI, 24, .inl (T2))), (aFa, .inl (cI, 768, .inl (Fa)))] sz) t) (va_A [(m0, .inr (5, [.int (ft), .int (vl), .ref aMd, .ref aO1, .ref aT2, .int (rs), .ref aSh, .ref aMk, .ref aFa, .ref aDe, .ref aNe, .ref aBy, .ref aPi, .int (nI (pn)), .ref aNw, .ref aNs, .ref aBf, .int (rn), .int (rr)])), (aS, .inl (cZ, 768, .inl (Se))), (aPi, .inl (cI, 1600, .inl (Pi))), (aMd, .inl (cI, 24, .inl (Md))), (aO1, .inl (cI, 24, .inl (O1))), (aT2, .inl (cI, 24, .inl (T2))), (aFa, .inl (cI, 768, .inl (Fa)))] sz)) 0 0 (va_A [(m0, .inr (5, [.int (ft), .int (vl), .ref aMd, .ref aO1, .ref aT2, .int (rs), .ref aSh, .ref aMk, .ref aFa, .ref aDe, .ref aNe, .ref aBy, .ref aPi, .int (nI (pn)), .ref aNw, .ref aNs, .ref aBf, .int (rn), .int (rr)])), (aS, .inl (cZ, 768, .inl (Se))), (aPi, .inl (cI, 1600, .inl (Pi))), (aMd, .inl (cI, 24, .inl (Md))), (aO1, .inl (cI, 24, .inl (O1))), (aT2, .inl (cI, 24, .inl (T2))), (aFa, .inl (cI, 768, .inl (Fa)))] sz) := by
  rcases (by omega : kd = 0 ∨ kd = 1 ∨ kd = 2 ∨ kd = 3 ∨ kd = 4 ∨ kd = 5 ∨ kd = 6 ∨ kd = 7 ∨ kd = 8 ∨ kd = 9 ∨ kd = 10 ∨ kd = 11 ∨ kd = 12 ∨ kd = 13) with e | e | e | e | e | e | e | e | e | e | e | e | e | e
  · subst e
    obtain ⟨x1, x2⟩ := hX (by unfold db_ux; omega)
    obtain ⟨y1, y2⟩ := hY (by omega)
    exact rf_ask0 l dC dI cI cZ m0 aMd aO1 aT2 aSh aMk aFa aDe aNe aBy aPi aNw aNs aBf (pn) aS ft vl rs rn rr v k x y dd Se Pi Md O1 T2 Fa zx ox zy oy sz hv hk hok em x1 x2 y1 y2
  · subst e
    obtain ⟨x1, x2⟩ := hX (by unfold db_ux; omega)
    obtain ⟨y1, y2⟩ := hY (by omega)
    exact rf_ask1 l dC dI cI cZ m0 aMd aO1 aT2 aSh aMk aFa aDe aNe aBy aPi aNw aNs aBf (pn) aS ft vl rs rn rr v k x y dd Se Pi Md O1 T2 Fa zx ox zy oy sz hv hk hok em x1 x2 y1 y2
  · subst e
    obtain ⟨x1, x2⟩ := hX (by unfold db_ux; omega)
    obtain ⟨y1, y2⟩ := hY (by omega)
    exact rf_ask2 l dC dI cI cZ m0 aMd aO1 aT2 aSh aMk aFa aDe aNe aBy aPi aNw aNs aBf (pn) aS ft vl rs rn rr v k x y dd Se Pi Md O1 T2 Fa zx ox zy oy sz hv hk hok em x1 x2 y1 y2
  · subst e
    obtain ⟨x1, x2⟩ := hX (by unfold db_ux; omega)
    obtain ⟨y1, y2⟩ := hY (by omega)
    obtain ⟨f1, f2, f3, f4⟩ := hF (by omega)
    exact rf_ask3 l dC dI cI cZ m0 aMd aO1 aT2 aSh aMk aFa aDe aNe aBy aPi aNw aNs aBf (pn) aS ft vl rs rn rr v k x y dd Se Pi Md O1 T2 Fa zx ox zy oy sz hv hk hok em x1 x2 y1 y2 f1 f2 f3 f4
  · subst e
    obtain ⟨x1, x2⟩ := hX (by unfold db_ux; omega)
    obtain ⟨y1, y2⟩ := hY (by omega)
    obtain ⟨f1, f2, f3, f4⟩ := hF (by omega)
    exact rf_ask4 l dC dI cI cZ m0 aMd aO1 aT2 aSh aMk aFa aDe aNe aBy aPi aNw aNs aBf (pn) aS ft vl rs rn rr v k x y dd Se Pi Md O1 T2 Fa zx ox zy oy sz hv hk hok em x1 x2 y1 y2 f1 f2 f3 f4
  · subst e
    obtain ⟨x1, x2⟩ := hX (by unfold db_ux; omega)
    obtain ⟨y1, y2⟩ := hY (by omega)
    exact rf_ask5 l dC dI cI cZ m0 aMd aO1 aT2 aSh aMk aFa aDe aNe aBy aPi aNw aNs aBf (pn) aS ft vl rs rn rr v k x y dd Se Pi Md O1 T2 Fa zx ox zy oy sz hv hk hok em x1 x2 y1 y2
  · subst e
    obtain ⟨x1, x2⟩ := hX (by unfold db_ux; omega)
    obtain ⟨s1, s2⟩ := hS (by unfold db_shift; omega)
    exact rf_ask6 l dC dI cI cZ m0 aMd aO1 aT2 aSh aMk aFa aDe aNe aBy aPi aNw aNs aBf (pn) aS ft vl rs rn rr v k x y dd Se Pi Md O1 T2 Fa zx ox zy oy sz hv hk hok em x1 x2 s1 s2
  · subst e
    obtain ⟨x1, x2⟩ := hX (by unfold db_ux; omega)
    obtain ⟨s1, s2⟩ := hS (by unfold db_shift; omega)
    exact rf_ask7 l dC dI cI cZ m0 aMd aO1 aT2 aSh aMk aFa aDe aNe aBy aPi aNw aNs aBf (pn) aS ft vl rs rn rr v k x y dd Se Pi Md O1 T2 Fa zx ox zy oy sz hv hk hok em x1 x2 s1 s2
  · subst e
    obtain ⟨x1, x2⟩ := hX (by unfold db_ux; omega)
    obtain ⟨s1, s2⟩ := hS (by unfold db_shift; omega)
    exact rf_ask8 l dC dI cI cZ m0 aMd aO1 aT2 aSh aMk aFa aDe aNe aBy aPi aNw aNs aBf (pn) aS ft vl rs rn rr v k x y dd Se Pi Md O1 T2 Fa zx ox zy oy sz hv hk hok em x1 x2 s1 s2
  · subst e
    exact rf_ask9 l dC dI cI cZ m0 aMd aO1 aT2 aSh aMk aFa aDe aNe aBy aPi aNw aNs aBf (pn) aS ft vl rs rn rr v k x y dd Se Pi Md O1 T2 Fa zx ox zy oy sz hv hk hok em
  · subst e
    exact rf_ask10 l dC dI cI cZ m0 aMd aO1 aT2 aSh aMk aFa aDe aNe aBy aPi aNw aNs aBf (pn) aS ft vl rs rn rr v k x y dd Se Pi Md O1 T2 Fa zx ox zy oy sz hv hk hok em
  · subst e
    obtain ⟨x1, x2⟩ := hX (by unfold db_ux; omega)
    exact rf_ask11 l dC dI cI cZ m0 aMd aO1 aT2 aSh aMk aFa aDe aNe aBy aPi aNw aNs aBf (pn) aS ft vl rs rn rr v k x y dd Se Pi Md O1 T2 Fa zx ox zy oy sz hv hk hok em x1 x2
  · subst e
    obtain ⟨x1, x2⟩ := hX (by unfold db_ux; omega)
    exact rf_ask12 l dC dI cI cZ m0 aMd aO1 aT2 aSh aMk aFa aDe aNe aBy aPi aNw aNs aBf (pn) aS ft vl rs rn rr v k x y dd Se Pi Md O1 T2 Fa zx ox zy oy sz hv hk hok em x1 x2
  · subst e
    obtain ⟨x1, x2⟩ := hX (by unfold db_ux; omega)
    obtain ⟨y1, y2⟩ := hY (by omega)
    exact rf_ask13 l dC dI cI cZ m0 aMd aO1 aT2 aSh aMk aFa aDe aNe aBy aPi aNw aNs aBf (pn) aS ft vl rs rn rr v k x y dd Se Pi Md O1 T2 Fa zx ox zy oy sz hv hk hok em x1 x2 y1 y2

