set_option maxRecDepth 100000 in
set_option maxHeartbeats 4000000 in
theorem rf_want (l : Launch) (dC : Nat → ClassId) (dI : Nat → Nat → Nat) (cI cZ : ClassId) (m0 aMd aO1 aT2 aSh aMk aFa aDe aNe aBy aPi aNw aNs aBf pn aS : Nat) (ft vl rs rn rr : Int32) (v k : Nat) (Se Pi : Nat → Int32) (sz : Nat) (hv : v < 24) (hk : k < 32) (hok : db_ok (Se, Pi, pn)) : Met l yM_want wsM_want { frames := 0, cells := 0, slots := 0, locals := 0 } (va_Pc [.ref m0, .ref aS, .int (nI (v)), .int (nI (k))] (dw_pre (dC, dI) vwCl [(m0, .inr (5, [.int (ft), .int (vl), .ref aMd, .ref aO1, .ref aT2, .int (rs), .ref aSh, .ref aMk, .ref aFa, .ref aDe, .ref aNe, .ref aBy, .ref aPi, .int (nI (pn)), .ref aNw, .ref aNs, .ref aBf, .int (rn), .int (rr)])), (aS, .inl (cZ, 768, .inl (Se))), (aPi, .inl (cI, 1600, .inl (Pi)))] [(cI, .int), (cZ, .boolean)] sz)) (va_Qv (fun (u : db_Q) => db_asked (fun w b => w = v ∧ b = k) (Se, Pi, pn) u) (fun u t => dw_post (dC, dI) vwCl [(m0, .inr (5, [.int (ft), .int (vl), .ref aMd, .ref aO1, .ref aT2, .int (rs), .ref aSh, .ref aMk, .ref aFa, .ref aDe, .ref aNe, .ref aBy, .ref aPi, .int (nI u.2.2), .ref aNw, .ref aNs, .ref aBf, .int (rn), .int (rr)])), (aS, .inl (cZ, 768, .inl (u.1))), (aPi, .inl (cI, 1600, .inl (u.2.1)))] [(cI, .int), (cZ, .boolean)] (va_A [(m0, .inr (5, [.int (ft), .int (vl), .ref aMd, .ref aO1, .ref aT2, .int (rs), .ref aSh, .ref aMk, .ref aFa, .ref aDe, .ref aNe, .ref aBy, .ref aPi, .int (nI (pn)), .ref aNw, .ref aNs, .ref aBf, .int (rn), .int (rr)])), (aS, .inl (cZ, 768, .inl (Se))), (aPi, .inl (cI, 1600, .inl (Pi)))] sz) t) (va_A [(m0, .inr (5, [.int (ft), .int (vl), .ref aMd, .ref aO1, .ref aT2, .int (rs), .ref aSh, .ref aMk, .ref aFa, .ref aDe, .ref aNe, .ref aBy, .ref aPi, .int (nI (pn)), .ref aNw, .ref aNs, .ref aBf, .int (rn), .int (rr)])), (aS, .inl (cZ, 768, .inl (Se))), (aPi, .inl (cI, 1600, .inl (Pi)))] sz)) 0 0 (va_A [(m0, .inr (5, [.int (ft), .int (vl), .ref aMd, .ref aO1, .ref aT2, .int (rs), .ref aSh, .ref aMk, .ref aFa, .ref aDe, .ref aNe, .ref aBy, .ref aPi, .int (nI (pn)), .ref aNw, .ref aNs, .ref aBf, .int (rn), .int (rr)])), (aS, .inl (cZ, 768, .inl (Se))), (aPi, .inl (cI, 1600, .inl (Pi)))] sz) := by
  refine Met.ofW (cc := cM_want) (maxL := 4) (ret := none) (by decide) rfl ?_
  intro p e s m args below meth c s₁ B hml hv0
  have hx := B.exec
  have hb := B.bytes
  have hr := B.returns
  have hts := atoms_spec (ws := wsM_want) B.pre
  have hown : s.vm.findClass RM = some m.cls := findClass_of_methodNamed B.named
  have hlocks := B.notSynchronized
  obtain ⟨rfl, hsz, hG⟩ := dw_enter hv0
  generalize va_A [(m0, .inr (5, [.int (ft), .int (vl), .ref aMd, .ref aO1, .ref aT2, .int (rs), .ref aSh, .ref aMk, .ref aFa, .ref aDe, .ref aNe, .ref aBy, .ref aPi, .int (nI (pn)), .ref aNw, .ref aNs, .ref aBf, .int (rn), .int (rr)])), (aS, .inl (cZ, 768, .inl (Se))), (aPi, .inl (cI, 1600, .inl (Pi)))] sz = A at hG ⊢
  have hl := lv_entry ([.ref m0, .ref aS, .int (nI (v)), .int (nI (k))]) (n := 4) (Nat.le_of_ble_eq_true rfl)
  rw [lg_entry_eq]
  generalize (lg_sl ([.ref m0, .ref aS, .int (nI (v)), .int (nI (k))]) ++ List.replicate (4 - (lg_sl ([.ref m0, .ref aS, .int (nI (v)), .int (nI (k))])).length) Slot.unset).toArray = ls at hl ⊢
  have hl : lv_has ls 4 [(0, .ref m0), (1, .ref aS), (2, .int (nI (v))), (3, .int (nI (k)))] := hl
  have hw506 := hts _ (List.mem_cons_of_mem _ tw_506)
  have hw507 := hts _ (List.mem_cons_of_mem _ tw_507)
  have hsc := db_sc_le Se
  have hpc : pn ≤ db_sc Se := hok.2
  refine dw_Q (fun Q hQ => ?_)
  suffices hgo : ∀ (H : Heap) (locs : List Loc), dw_G (dC, dI) vwCl [(cI, .int), (cZ, .boolean)] A s.heap s [(m0, .inr (5, [.int (ft), .int (vl), .ref aMd, .ref aO1, .ref aT2, .int (rs), .ref aSh, .ref aMk, .ref aFa, .ref aDe, .ref aNe, .ref aBy, .ref aPi, .int (nI (pn)), .ref aNw, .ref aNs, .ref aBf, .int (rn), .int (rr)])), (aS, .inl (cZ, 768, .inl (Se))), (aPi, .inl (cI, 1600, .inl (Pi)))] H locs → W p l e (headSpec wsM_want { frames := 0, cells := 0, slots := 0, locals := 0 }).room s m [.ref m0, .ref aS, .int (nI (v)), .int (nI (k))].toArray below meth c H locs 0 0 Q (F0 m 0 ls []) from hgo _ _ hG
  clear hG
  intro H locs hG
  refine lv_aload_n hx hb dM_want_0 rfl (lv_at hl 1 rfl) ?_
  refine lv_bipush (v := 32) hx hb dM_want_1 (by decide) ?_
  refine lv_iload_n hx hb dM_want_3 rfl (lv_at hl 2 rfl) ?_
  refine lv_imul hx hb dM_want_4 ?_
  refine lv_topi (nm_r (pk_mul (32) (v)) ?_)
  refine lv_iload_n hx hb dM_want_5 rfl (lv_at hl 3 rfl) ?_
  refine lv_iadd hx hb dM_want_6 ?_
  refine lv_topi (nm_r (nI_add (32 * (v)) (k)) ?_)
  refine dw_za (x := (Se) (32 * (v) + k)) hx hb hG 1 1 rfl rfl (32 * (v) + k) rfl (by omega) (by decide) rfl dM_want_7 ?_
  refine lv_if_ne (tgt := 45) hx hb dM_want_8 (by decide) (fun h8 => ?_) (fun h8 => ?_)
  · skip
    subst hQ
    exact dw_vret hx hb hr hG ((Se, Pi, pn)) rfl (db_asked_1 hk (db_gr_refl _ _) (db_01 hok.1 (by omega) h8)) dM_want_45 hlocks
  refine lv_aload_n hx hb dM_want_11 rfl (lv_at hl 1 rfl) ?_
  refine lv_bipush (v := 32) hx hb dM_want_12 (by decide) ?_
  refine lv_iload_n hx hb dM_want_14 rfl (lv_at hl 2 rfl) ?_
  refine lv_imul hx hb dM_want_15 ?_
  refine lv_topi (nm_r (pk_mul (32) (v)) ?_)
  refine lv_iload_n hx hb dM_want_16 rfl (lv_at hl 3 rfl) ?_
  refine lv_iadd hx hb dM_want_17 ?_
  refine lv_topi (nm_r (nI_add (32 * (v)) (k)) ?_)
  refine lv_iconst (v := 1) hx hb dM_want_18 (by decide) ?_
  refine dw_zs (ws' := [(m0, .inr (5, [.int (ft), .int (vl), .ref aMd, .ref aO1, .ref aT2, .int (rs), .ref aSh, .ref aMk, .ref aFa, .ref aDe, .ref aNe, .ref aBy, .ref aPi, .int (nI (pn)), .ref aNw, .ref aNs, .ref aBf, .int (rn), .int (rr)])), (aS, .inl (cZ, 768, .inl (upd (Se) (32 * (v) + k) (1)))), (aPi, .inl (cI, 1600, .inl (Pi)))]) hx hb hG 1 1 rfl rfl (32 * (v) + k) rfl (by omega) (by decide) rfl dM_want_19 rfl (fun H locs hG => ?_)
  refine lv_aload_n hx hb dM_want_20 rfl (lv_at hl 0 rfl) ?_
  refine dw_get hx hb hts inMc hown hG 0 12 rfl rfl (by decide) hw506 rfl rfl dM_want_21 ?_
  refine lv_aload_n hx hb dM_want_24 rfl (lv_at hl 0 rfl) ?_
  refine dw_get hx hb hts inMc hown hG 0 13 rfl rfl (by decide) hw507 rfl rfl dM_want_25 ?_
  refine lv_bipush (v := 32) hx hb dM_want_28 (by decide) ?_
  refine lv_iload_n hx hb dM_want_30 rfl (lv_at hl 2 rfl) ?_
  refine lv_imul hx hb dM_want_31 ?_
  refine lv_topi (nm_r (pk_mul (32) (v)) ?_)
  refine lv_iload_n hx hb dM_want_32 rfl (lv_at hl 3 rfl) ?_
  refine lv_iadd hx hb dM_want_33 ?_
  refine lv_topi (nm_r (nI_add (32 * (v)) (k)) ?_)
  refine dw_is (ws' := [(m0, .inr (5, [.int (ft), .int (vl), .ref aMd, .ref aO1, .ref aT2, .int (rs), .ref aSh, .ref aMk, .ref aFa, .ref aDe, .ref aNe, .ref aBy, .ref aPi, .int (nI (pn)), .ref aNw, .ref aNs, .ref aBf, .int (rn), .int (rr)])), (aS, .inl (cZ, 768, .inl (upd (Se) (32 * (v) + k) (1)))), (aPi, .inl (cI, 1600, .inl (upd (Pi) (pn) (nI (32 * (v) + k)))))]) hx hb hG 2 0 rfl rfl (pn) rfl (by omega) (by decide) dM_want_34 rfl (fun H locs hG => ?_)
  refine lv_aload_n hx hb dM_want_35 rfl (lv_at hl 0 rfl) ?_
  refine lv_dup hx hb dM_want_36 rfl ?_
  refine dw_get hx hb hts inMc hown hG 0 13 rfl rfl (by decide) hw507 rfl rfl dM_want_37 ?_
  refine lv_iconst (v := 1) hx hb dM_want_40 (by decide) ?_
  refine lv_iadd hx hb dM_want_41 ?_
  refine lv_topi (nm_r (nI_add (pn) (1)) ?_)
  refine dw_put (ws' := [(m0, .inr (5, [.int (ft), .int (vl), .ref aMd, .ref aO1, .ref aT2, .int (rs), .ref aSh, .ref aMk, .ref aFa, .ref aDe, .ref aNe, .ref aBy, .ref aPi, .int (nI (pn + 1)), .ref aNw, .ref aNs, .ref aBf, .int (rn), .int (rr)])), (aS, .inl (cZ, 768, .inl (upd (Se) (32 * (v) + k) (1)))), (aPi, .inl (cI, 1600, .inl (upd (Pi) (pn) (nI (32 * (v) + k)))))]) hx hb hts inMc tyM tyM_ok nmM hown hG 0 13 rfl rfl (by decide) hw507 rfl rfl (ty := .int) (by decide +kernel) rfl rfl (Nat.le_of_ble_eq_true rfl) dM_want_42 rfl (fun H locs hG => ?_)
  subst hQ
  exact dw_vret hx hb hr hG ((upd Se (32 * v + k) 1, upd Pi pn (nI (32 * v + k)), pn + 1)) rfl (db_asked_1 hk (db_gr_new (by omega) h8) pk_us) dM_want_45 hlocks

set_option maxRecDepth 100000 in
set_option maxHeartbeats 4000000 in
theorem rf_wantUpTo (l : Launch) (dC : Nat → ClassId) (dI : Nat → Nat → Nat) (cI cZ : ClassId) (m0 aMd aO1 aT2 aSh aMk aFa aDe aNe aBy aPi aNw aNs aBf pn aS : Nat) (ft vl rs rn rr : Int32) (v k : Nat) (Se Pi : Nat → Int32) (sz : Nat) (hv : v < 24) (hk : k < 32) (hok : db_ok (Se, Pi, pn)) : Met l yM_wantUpTo wsM_wantUpTo { frames := 1, cells := 0, slots := 0, locals := 24 } (va_Pc [.ref m0, .ref aS, .int (nI (v)), .int (nI (k))] (dw_pre (dC, dI) vwCl [(m0, .inr (5, [.int (ft), .int (vl), .ref aMd, .ref aO1, .ref aT2, .int (rs), .ref aSh, .ref aMk, .ref aFa, .ref aDe, .ref aNe, .ref aBy, .ref aPi, .int (nI (pn)), .ref aNw, .ref aNs, .ref aBf, .int (rn), .int (rr)])), (aS, .inl (cZ, 768, .inl (Se))), (aPi, .inl (cI, 1600, .inl (Pi)))] [(cI, .int), (cZ, .boolean)] sz)) (va_Qv (fun (u : db_Q) => db_asked (fun w b => w = v ∧ b ≤ k) (Se, Pi, pn) u) (fun u t => dw_post (dC, dI) vwCl [(m0, .inr (5, [.int (ft), .int (vl), .ref aMd, .ref aO1, .ref aT2, .int (rs), .ref aSh, .ref aMk, .ref aFa, .ref aDe, .ref aNe, .ref aBy, .ref aPi, .int (nI u.2.2), .ref aNw, .ref aNs, .ref aBf, .int (rn), .int (rr)])), (aS, .inl (cZ, 768, .inl (u.1))), (aPi, .inl (cI, 1600, .inl (u.2.1)))] [(cI, .int), (cZ, .boolean)] (va_A [(m0, .inr (5, [.int (ft), .int (vl), .ref aMd, .ref aO1, .ref aT2, .int (rs), .ref aSh, .ref aMk, .ref aFa, .ref aDe, .ref aNe, .ref aBy, .ref aPi, .int (nI (pn)), .ref aNw, .ref aNs, .ref aBf, .int (rn), .int (rr)])), (aS, .inl (cZ, 768, .inl (Se))), (aPi, .inl (cI, 1600, .inl (Pi)))] sz) t) (va_A [(m0, .inr (5, [.int (ft), .int (vl), .ref aMd, .ref aO1, .ref aT2, .int (rs), .ref aSh, .ref aMk, .ref aFa, .ref aDe, .ref aNe, .ref aBy, .ref aPi, .int (nI (pn)), .ref aNw, .ref aNs, .ref aBf, .int (rn), .int (rr)])), (aS, .inl (cZ, 768, .inl (Se))), (aPi, .inl (cI, 1600, .inl (Pi)))] sz)) 0 0 (va_A [(m0, .inr (5, [.int (ft), .int (vl), .ref aMd, .ref aO1, .ref aT2, .int (rs), .ref aSh, .ref aMk, .ref aFa, .ref aDe, .ref aNe, .ref aBy, .ref aPi, .int (nI (pn)), .ref aNw, .ref aNs, .ref aBf, .int (rn), .int (rr)])), (aS, .inl (cZ, 768, .inl (Se))), (aPi, .inl (cI, 1600, .inl (Pi)))] sz) := by
  refine Met.ofW (cc := cM_wantUpTo) (maxL := 5) (ret := none) (by decide) rfl ?_
  intro p e s m args below meth c s₁ B hml hv0
  have hx := B.exec
  have hb := B.bytes
  have hr := B.returns
  have hts := atoms_spec (ws := wsM_wantUpTo) B.pre
  have hown : s.vm.findClass RM = some m.cls := findClass_of_methodNamed B.named
  have hlocks := B.notSynchronized
  obtain ⟨rfl, hsz, hG⟩ := dw_enter hv0
  generalize va_A [(m0, .inr (5, [.int (ft), .int (vl), .ref aMd, .ref aO1, .ref aT2, .int (rs), .ref aSh, .ref aMk, .ref aFa, .ref aDe, .ref aNe, .ref aBy, .ref aPi, .int (nI (pn)), .ref aNw, .ref aNs, .ref aBf, .int (rn), .int (rr)])), (aS, .inl (cZ, 768, .inl (Se))), (aPi, .inl (cI, 1600, .inl (Pi)))] sz = A at hG ⊢
  have hl := lv_entry ([.ref m0, .ref aS, .int (nI (v)), .int (nI (k))]) (n := 5) (Nat.le_of_ble_eq_true rfl)
  rw [lg_entry_eq]
  generalize (lg_sl ([.ref m0, .ref aS, .int (nI (v)), .int (nI (k))]) ++ List.replicate (5 - (lg_sl ([.ref m0, .ref aS, .int (nI (v)), .int (nI (k))])).length) Slot.unset).toArray = ls at hl ⊢
  have hl : lv_has ls 5 [(0, .ref m0), (1, .ref aS), (2, .int (nI (v))), (3, .int (nI (k)))] := hl
  refine dw_Q (fun Q hQ => ?_)
  suffices hgo : ∀ (H : Heap) (locs : List Loc), dw_G (dC, dI) vwCl [(cI, .int), (cZ, .boolean)] A s.heap s [(m0, .inr (5, [.int (ft), .int (vl), .ref aMd, .ref aO1, .ref aT2, .int (rs), .ref aSh, .ref aMk, .ref aFa, .ref aDe, .ref aNe, .ref aBy, .ref aPi, .int (nI (pn)), .ref aNw, .ref aNs, .ref aBf, .int (rn), .int (rr)])), (aS, .inl (cZ, 768, .inl (Se))), (aPi, .inl (cI, 1600, .inl (Pi)))] H locs → W p l e (headSpec wsM_wantUpTo { frames := 1, cells := 0, slots := 0, locals := 24 }).room s m [.ref m0, .ref aS, .int (nI (v)), .int (nI (k))].toArray below meth c H locs 0 0 Q (F0 m 0 ls []) from hgo _ _ hG
  clear hG
  intro H locs hG
  refine lv_iconst (v := 0) hx hb dM_wantUpTo_0 (by decide) ?_
  refine lv_istore (lv' := [(4, .int (0)), (0, .ref m0), (1, .ref aS), (2, .int (nI (v))), (3, .int (nI (k)))]) hx hb dM_wantUpTo_1 hl (by decide) rfl (fun ls hl => ?_)
  have L3 : ∀ (zz : Nat) (j : Nat) (q : db_Q) (ls : Array Slot) (H : Heap) (locs : List Loc), k + 1 - j < zz → j ≤ k + 1 → db_asked (fun w b => w = v ∧ b < j) (Se, Pi, pn) q → lv_has ls 5 [(0, .ref m0), (1, .ref aS), (2, .int (nI (v))), (3, .int (nI (k))), (4, .int (nI (j)))] → dw_G (dC, dI) vwCl [(cI, .int), (cZ, .boolean)] A s.heap s [(m0, .inr (5, [.int (ft), .int (vl), .ref aMd, .ref aO1, .ref aT2, .int (rs), .ref aSh, .ref aMk, .ref aFa, .ref aDe, .ref aNe, .ref aBy, .ref aPi, .int (nI (q.2.2)), .ref aNw, .ref aNs, .ref aBf, .int (rn), .int (rr)])), (aS, .inl (cZ, 768, .inl (q.1))), (aPi, .inl (cI, 1600, .inl (q.2.1)))] H locs → W p l e (headSpec wsM_wantUpTo { frames := 1, cells := 0, slots := 0, locals := 24 }).room s m [.ref m0, .ref aS, .int (nI (v)), .int (nI (k))].toArray below meth c H locs 0 0 Q (F0 m 3 ls []) := by
    intro zz
    induction zz with
    | zero => intro j q ls H locs hz; exact absurd hz (Nat.not_lt_zero _)
    | succ zz L3_ih =>
      intro j q ls H locs hz hj hq hl hG
      refine lv_iload hx hb dM_wantUpTo_3 (lv_at hl 4 rfl) ?_
      refine lv_iload_n hx hb dM_wantUpTo_5 rfl (lv_at hl 3 rfl) ?_
      refine lv_icmp_gt (tgt := 23) hx hb dM_wantUpTo_6 (by decide) (fun h6 => ?_) (fun h6 => ?_)
      · skip
        replace h6 := (nI_ltI (a := k) (b := j) (by omega) (by omega)).mp h6
        subst hQ
        exact dw_vret hx hb hr hG (q) rfl (db_asked_congr hq (fun w b _ => by omega)) dM_wantUpTo_23 hlocks
      replace h6 : ¬ k < j := fun q => h6 ((nI_ltI (a := k) (b := j) (by omega) (by omega)).mpr q)
      refine lv_aload_n hx hb dM_wantUpTo_9 rfl (lv_at hl 0 rfl) ?_
      refine lv_aload_n hx hb dM_wantUpTo_10 rfl (lv_at hl 1 rfl) ?_
      refine lv_iload_n hx hb dM_wantUpTo_11 rfl (lv_at hl 2 rfl) ?_
      refine lv_iload hx hb dM_wantUpTo_12 (lv_at hl 4 rfl) ?_
      refine dw_callv (wc := [(m0, .inr (5, [.int (ft), .int (vl), .ref aMd, .ref aO1, .ref aT2, .int (rs), .ref aSh, .ref aMk, .ref aFa, .ref aDe, .ref aNe, .ref aBy, .ref aPi, .int (nI (q.2.2)), .ref aNw, .ref aNs, .ref aBf, .int (rn), .int (rr)])), (aS, .inl (cZ, 768, .inl (q.1))), (aPi, .inl (cI, 1600, .inl (q.2.1)))]) (wr := []) hG [0, 1, 2] [] rfl rfl (by decide) (by decide) (va_runV (As := [.ref aS, .int (nI (v)), .int (nI (j))]) (rest := []) ⟨hx, hb, hml, hown, hts⟩ (rf_want l dC dI cI cZ m0 aMd aO1 aT2 aSh aMk aFa aDe aNe aBy aPi aNw aNs aBf (q.2.2) aS ft vl rs rn rr (v) (j) (q.1) (q.2.1) H.size (by omega) (by omega) (db_gr_ok hq.1 hok)) (dc_V 3 hts tw_644 tw_646 tp_M_want tw_7 tw_647 rfl rfl (by decide +kernel) ⟨Nat.le_of_ble_eq_true rfl, Nat.le_of_ble_eq_true rfl⟩) (dw_preV (ci := 5) hG [0, 1, 2] [0, 1] rfl rfl (by decide) rfl rfl (q0 := 0) rfl) rfl rfl hl.1 rfl (lv_room (Nat.le_of_ble_eq_true rfl)) dM_wantUpTo_14 ⟨Nat.le_refl _, Nat.le_refl _⟩) (fun u1 H locs hu1 hG => ?_)
      have hG : dw_G (dC, dI) vwCl [(cI, .int), (cZ, .boolean)] A s.heap s [(m0, .inr (5, [.int (ft), .int (vl), .ref aMd, .ref aO1, .ref aT2, .int (rs), .ref aSh, .ref aMk, .ref aFa, .ref aDe, .ref aNe, .ref aBy, .ref aPi, .int (nI (u1.2.2)), .ref aNw, .ref aNs, .ref aBf, .int (rn), .int (rr)])), (aS, .inl (cZ, 768, .inl (u1.1))), (aPi, .inl (cI, 1600, .inl (u1.2.1)))] H locs := hG
      refine lv_iinc (v := nI (j + 1)) (lv' := [(4, .int (nI (j + 1))), (0, .ref m0), (1, .ref aS), (2, .int (nI (v))), (3, .int (nI (k)))]) hx hb dM_wantUpTo_17 hl (k := 4) rfl (dw_inc (j)) (by decide) rfl (fun ls hl => ?_)
      refine lv_goto (tgt := 3) hx hb dM_wantUpTo_20 (by decide) ?_
      exact L3_ih (j + 1) (u1) ls H locs (by omega) (by omega) (db_asked_congr (db_asked_or hq hu1 (fun w b q => by omega)) (fun w b _ => by omega)) (lv_sub hl [1, 2, 3, 4, 0] rfl) hG
  exact L3 _ (0) ((Se, Pi, pn)) ls H locs (Nat.lt_succ_self _) (by omega) (db_asked_0 _ _ (fun w b _ q => by omega)) (lv_sub hl [1, 2, 3, 4, 0] rfl) hG

set_option maxRecDepth 100000 in
set_option maxHeartbeats 4000000 in
theorem rf_askWith0 (l : Launch) (dC : Nat → ClassId) (dI : Nat → Nat → Nat) (cI cZ : ClassId) (m0 aMd aO1 aT2 aSh aMk aFa aDe aNe aBy aPi aNw aNs aBf pn aS : Nat) (ft vl rs rn rr : Int32) (x y k : Nat) (Se Pi Fa : Nat → Int32) (sz : Nat) (hx9 : x < 24) (hy9 : y < 24) (hk : k < 32) (hok : db_ok (Se, Pi, pn)) : Met l yM_askWith wsM_askWith { frames := 1, cells := 0, slots := 0, locals := 24 } (va_Pc [.ref m0, .ref aS, .int (nI (x)), .int (nI (y)), .int (nI (k)), .int (0)] (dw_pre (dC, dI) vwCl [(m0, .inr (5, [.int (ft), .int (vl), .ref aMd, .ref aO1, .ref aT2, .int (rs), .ref aSh, .ref aMk, .ref aFa, .ref aDe, .ref aNe, .ref aBy, .ref aPi, .int (nI (pn)), .ref aNw, .ref aNs, .ref aBf, .int (rn), .int (rr)])), (aS, .inl (cZ, 768, .inl (Se))), (aPi, .inl (cI, 1600, .inl (Pi))), (aFa, .inl (cI, 768, .inl (Fa)))] [(cI, .int), (cZ, .boolean)] sz)) (va_Qv (fun (u : db_Q) => db_asked (fun w b => (w = x ∧ b = k ∧ ¬ Fa (32 * y + k) = 0) ∨ (w = y ∧ b = k ∧ (Fa (32 * y + k) = 0 ∨ ¬ Fa (32 * x + k) = 0))) (Se, Pi, pn) u) (fun u t => dw_post (dC, dI) vwCl [(m0, .inr (5, [.int (ft), .int (vl), .ref aMd, .ref aO1, .ref aT2, .int (rs), .ref aSh, .ref aMk, .ref aFa, .ref aDe, .ref aNe, .ref aBy, .ref aPi, .int (nI u.2.2), .ref aNw, .ref aNs, .ref aBf, .int (rn), .int (rr)])), (aS, .inl (cZ, 768, .inl (u.1))), (aPi, .inl (cI, 1600, .inl (u.2.1))), (aFa, .inl (cI, 768, .inl (Fa)))] [(cI, .int), (cZ, .boolean)] (va_A [(m0, .inr (5, [.int (ft), .int (vl), .ref aMd, .ref aO1, .ref aT2, .int (rs), .ref aSh, .ref aMk, .ref aFa, .ref aDe, .ref aNe, .ref aBy, .ref aPi, .int (nI (pn)), .ref aNw, .ref aNs, .ref aBf, .int (rn), .int (rr)])), (aS, .inl (cZ, 768, .inl (Se))), (aPi, .inl (cI, 1600, .inl (Pi))), (aFa, .inl (cI, 768, .inl (Fa)))] sz) t) (va_A [(m0, .inr (5, [.int (ft), .int (vl), .ref aMd, .ref aO1, .ref aT2, .int (rs), .ref aSh, .ref aMk, .ref aFa, .ref aDe, .ref aNe, .ref aBy, .ref aPi, .int (nI (pn)), .ref aNw, .ref aNs, .ref aBf, .int (rn), .int (rr)])), (aS, .inl (cZ, 768, .inl (Se))), (aPi, .inl (cI, 1600, .inl (Pi))), (aFa, .inl (cI, 768, .inl (Fa)))] sz)) 0 0 (va_A [(m0, .inr (5, [.int (ft), .int (vl), .ref aMd, .ref aO1, .ref aT2, .int (rs), .ref aSh, .ref aMk, .ref aFa, .ref aDe, .ref aNe, .ref aBy, .ref aPi, .int (nI (pn)), .ref aNw, .ref aNs, .ref aBf, .int (rn), .int (rr)])), (aS, .inl (cZ, 768, .inl (Se))), (aPi, .inl (cI, 1600, .inl (Pi))), (aFa, .inl (cI, 768, .inl (Fa)))] sz) := by
  refine Met.ofW (cc := cM_askWith) (maxL := 8) (ret := none) (by decide) rfl ?_
  intro p e s m args below meth c s₁ B hml hv0
  have hx := B.exec
  have hb := B.bytes
  have hr := B.returns
  have hts := atoms_spec (ws := wsM_askWith) B.pre
  have hown : s.vm.findClass RM = some m.cls := findClass_of_methodNamed B.named
  have hlocks := B.notSynchronized
  obtain ⟨rfl, hsz, hG⟩ := dw_enter hv0
  generalize va_A [(m0, .inr (5, [.int (ft), .int (vl), .ref aMd, .ref aO1, .ref aT2, .int (rs), .ref aSh, .ref aMk, .ref aFa, .ref aDe, .ref aNe, .ref aBy, .ref aPi, .int (nI (pn)), .ref aNw, .ref aNs, .ref aBf, .int (rn), .int (rr)])), (aS, .inl (cZ, 768, .inl (Se))), (aPi, .inl (cI, 1600, .inl (Pi))), (aFa, .inl (cI, 768, .inl (Fa)))] sz = A at hG ⊢
  have hl := lv_entry ([.ref m0, .ref aS, .int (nI (x)), .int (nI (y)), .int (nI (k)), .int (0)]) (n := 8) (Nat.le_of_ble_eq_true rfl)
  rw [lg_entry_eq]
  generalize (lg_sl ([.ref m0, .ref aS, .int (nI (x)), .int (nI (y)), .int (nI (k)), .int (0)]) ++ List.replicate (8 - (lg_sl ([.ref m0, .ref aS, .int (nI (x)), .int (nI (y)), .int (nI (k)), .int (0)])).length) Slot.unset).toArray = ls at hl ⊢
  have hl : lv_has ls 8 [(0, .ref m0), (1, .ref aS), (2, .int (nI (x))), (3, .int (nI (y))), (4, .int (nI (k))), (5, .int (0))] := hl
  have hw502 := hts _ (List.mem_cons_of_mem _ tw_502)
  refine dw_Q (fun Q hQ => ?_)
  suffices hgo : ∀ (H : Heap) (locs : List Loc), dw_G (dC, dI) vwCl [(cI, .int), (cZ, .boolean)] A s.heap s [(m0, .inr (5, [.int (ft), .int (vl), .ref aMd, .ref aO1, .ref aT2, .int (rs), .ref aSh, .ref aMk, .ref aFa, .ref aDe, .ref aNe, .ref aBy, .ref aPi, .int (nI (pn)), .ref aNw, .ref aNs, .ref aBf, .int (rn), .int (rr)])), (aS, .inl (cZ, 768, .inl (Se))), (aPi, .inl (cI, 1600, .inl (Pi))), (aFa, .inl (cI, 768, .inl (Fa)))] H locs → W p l e (headSpec wsM_askWith { frames := 1, cells := 0, slots := 0, locals := 24 }).room s m [.ref m0, .ref aS, .int (nI (x)), .int (nI (y)), .int (nI (k)), .int (0)].toArray below meth c H locs 0 0 Q (F0 m 0 ls []) from hgo _ _ hG
  clear hG
  intro H locs hG
  refine lv_aload_n hx hb dM_askWith_0 rfl (lv_at hl 0 rfl) ?_
  refine dw_get hx hb hts inMc hown hG 0 8 rfl rfl (by decide) hw502 rfl rfl dM_askWith_1 ?_
  refine lv_bipush (v := 32) hx hb dM_askWith_4 (by decide) ?_
  refine lv_iload_n hx hb dM_askWith_6 rfl (lv_at hl 3 rfl) ?_
  refine lv_imul hx hb dM_askWith_7 ?_
  refine lv_topi (nm_r (pk_mul (32) (y)) ?_)
  refine lv_iload hx hb dM_askWith_8 (lv_at hl 4 rfl) ?_
  refine lv_iadd hx hb dM_askWith_10 ?_
  refine lv_topi (nm_r (nI_add (32 * (y)) (k)) ?_)
  refine dw_ia (x := (Fa) (32 * (y) + k)) hx hb hG 3 0 rfl rfl (32 * (y) + k) rfl (by omega) (by decide) rfl dM_askWith_11 ?_
  refine lv_iload hx hb dM_askWith_12 (lv_at hl 5 rfl) ?_
  refine lv_icmp_ne (tgt := 21) hx hb dM_askWith_14 (by decide) (fun h14 => ?_) (fun h14 => ?_)
  · skip
    refine lv_iconst (v := 0) hx hb dM_askWith_21 (by decide) ?_
    refine lv_istore (lv' := [(6, .int (0)), (0, .ref m0), (1, .ref aS), (2, .int (nI (x))), (3, .int (nI (y))), (4, .int (nI (k))), (5, .int (0))]) hx hb dM_askWith_22 hl (by decide) rfl (fun ls hl => ?_)
    refine lv_aload_n hx hb dM_askWith_24 rfl (lv_at hl 1 rfl) ?_
    refine dw_get hx hb hts inMc hown hG 0 8 rfl rfl (by decide) hw502 rfl rfl dM_askWith_25 ?_
    refine lv_bipush (v := 32) hx hb dM_askWith_28 (by decide) ?_
    refine lv_iload_n hx hb dM_askWith_30 rfl (lv_at hl 3 rfl) ?_
    refine lv_imul hx hb dM_askWith_31 ?_
    refine lv_topi (nm_r (pk_mul (32) (x)) ?_)
    refine lv_iload hx hb dM_askWith_32 (lv_at hl 5 rfl) ?_
    refine lv_iadd hx hb dM_askWith_34 ?_
    refine lv_topi (nm_r (nI_add (32 * (x)) (k)) ?_)
    refine dw_ia (x := (Fa) (32 * (x) + k)) hx hb hG 3 0 rfl rfl (32 * (x) + k) rfl (by omega) (by decide) rfl dM_askWith_35 ?_
    refine lv_iload hx hb dM_askWith_36 (lv_at hl 6 rfl) ?_
    refine lv_icmp_ne (tgt := 45) hx hb dM_askWith_38 (by decide) (fun h38 => ?_) (fun h38 => ?_)
    · skip
      refine lv_iconst (v := 0) hx hb dM_askWith_45 (by decide) ?_
      refine lv_istore (lv' := [(7, .int (0)), (6, .int (0)), (0, .ref m0), (1, .ref aS), (2, .int (nI (x))), (3, .int (nI (y))), (4, .int (nI (k))), (5, .int (0))]) hx hb dM_askWith_46 hl (by decide) rfl (fun ls hl => ?_)
      refine lv_iload hx hb dM_askWith_48 (lv_at hl 1 rfl) ?_
      refine lv_if_ne (tgt := 61) hx hb dM_askWith_50 (by decide) (fun h50 => ?_) (fun h50 => ?_)
      · skip
        replace h50 : ¬ 0 = 0 := fun q => h50 ((nI_eq (a := 0) (b := 0) (by omega) (by omega)).mpr q)
        (exfalso; omega)
      replace h50 := (nI_eq (a := 0) (b := 0) (by omega) (by omega)).mp h50
      refine lv_aload_n hx hb dM_askWith_53 rfl (lv_at hl 2 rfl) ?_
      refine lv_aload_n hx hb dM_askWith_54 rfl (lv_at hl 3 rfl) ?_
      refine lv_iload_n hx hb dM_askWith_55 rfl (lv_at hl 4 rfl) ?_
      refine lv_iload hx hb dM_askWith_56 (lv_at hl 6 rfl) ?_
      refine dw_callv (wc := [(m0, .inr (5, [.int (ft), .int (vl), .ref aMd, .ref aO1, .ref aT2, .int (rs), .ref aSh, .ref aMk, .ref aFa, .ref aDe, .ref aNe, .ref aBy, .ref aPi, .int (nI (pn)), .ref aNw, .ref aNs, .ref aBf, .int (rn), .int (rr)])), (aS, .inl (cZ, 768, .inl (Se))), (aPi, .inl (cI, 1600, .inl (Pi)))]) (wr := [(aFa, .inl (cI, 768, .inl (Fa)))]) hG [0, 1, 2] [3] rfl rfl (by decide) (by decide) (va_runV (As := [.ref aS, .int (nI (x)), .int (nI (k))]) (rest := []) ⟨hx, hb, hml, hown, hts⟩ (rf_want l dC dI cI cZ m0 aMd aO1 aT2 aSh aMk aFa aDe aNe aBy aPi aNw aNs aBf (pn) aS ft vl rs rn rr (x) (k) (Se) (Pi) H.size (by omega) (by omega) hok) (dc_V 3 hts tw_644 tw_646 tp_M_want tw_7 tw_647 rfl rfl (by decide +kernel) ⟨Nat.le_of_ble_eq_true rfl, Nat.le_of_ble_eq_true rfl⟩) (dw_preV (ci := 5) hG [0, 1, 2] [0, 1] rfl rfl (by decide) rfl rfl (q0 := 0) rfl) rfl rfl hl.1 rfl (lv_room (Nat.le_of_ble_eq_true rfl)) dM_askWith_58 ⟨Nat.le_refl _, Nat.le_refl _⟩) (fun u2 H locs hu2 hG => ?_)
      have hG : dw_G (dC, dI) vwCl [(cI, .int), (cZ, .boolean)] A s.heap s [(aFa, .inl (cI, 768, .inl (Fa))), (m0, .inr (5, [.int (ft), .int (vl), .ref aMd, .ref aO1, .ref aT2, .int (rs), .ref aSh, .ref aMk, .ref aFa, .ref aDe, .ref aNe, .ref aBy, .ref aPi, .int (nI (u2.2.2)), .ref aNw, .ref aNs, .ref aBf, .int (rn), .int (rr)])), (aS, .inl (cZ, 768, .inl (u2.1))), (aPi, .inl (cI, 1600, .inl (u2.2.1)))] H locs := hG
      refine lv_iload hx hb dM_askWith_61 (lv_at hl 1 rfl) ?_
      refine lv_if_ne (tgt := 71) hx hb dM_askWith_63 (by decide) (fun h63 => ?_) (fun h63 => ?_)
      · skip
        replace h63 : ¬ 0 = 0 := fun q => h63 ((nI_eq (a := 0) (b := 0) (by omega) (by omega)).mpr q)
        (exfalso; omega)
      replace h63 := (nI_eq (a := 0) (b := 0) (by omega) (by omega)).mp h63
      refine lv_iload hx hb dM_askWith_66 (lv_at hl 0 rfl) ?_
      refine lv_if_ne (tgt := 79) hx hb dM_askWith_68 (by decide) (fun h68 => ?_) (fun h68 => ?_)
      · skip
        replace h68 : ¬ 0 = 0 := fun q => h68 ((nI_eq (a := 0) (b := 0) (by omega) (by omega)).mpr q)
        (exfalso; omega)
      replace h68 := (nI_eq (a := 0) (b := 0) (by omega) (by omega)).mp h68
      refine lv_aload_n hx hb dM_askWith_71 rfl (lv_at hl 2 rfl) ?_
      refine lv_aload_n hx hb dM_askWith_72 rfl (lv_at hl 3 rfl) ?_
      refine lv_iload_n hx hb dM_askWith_73 rfl (lv_at hl 5 rfl) ?_
      refine lv_iload hx hb dM_askWith_74 (lv_at hl 6 rfl) ?_
      refine dw_callv (wc := [(m0, .inr (5, [.int (ft), .int (vl), .ref aMd, .ref aO1, .ref aT2, .int (rs), .ref aSh, .ref aMk, .ref aFa, .ref aDe, .ref aNe, .ref aBy, .ref aPi, .int (nI (u2.2.2)), .ref aNw, .ref aNs, .ref aBf, .int (rn), .int (rr)])), (aS, .inl (cZ, 768, .inl (u2.1))), (aPi, .inl (cI, 1600, .inl (u2.2.1)))]) (wr := [(aFa, .inl (cI, 768, .inl (Fa)))]) hG [1, 2, 3] [0] rfl rfl (by decide) (by decide) (va_runV (As := [.ref aS, .int (nI (y)), .int (nI (k))]) (rest := []) ⟨hx, hb, hml, hown, hts⟩ (rf_want l dC dI cI cZ m0 aMd aO1 aT2 aSh aMk aFa aDe aNe aBy aPi aNw aNs aBf (u2.2.2) aS ft vl rs rn rr (y) (k) (u2.1) (u2.2.1) H.size (by omega) (by omega) (db_gr_ok hu2.1 hok)) (dc_V 3 hts tw_644 tw_646 tp_M_want tw_7 tw_647 rfl rfl (by decide +kernel) ⟨Nat.le_of_ble_eq_true rfl, Nat.le_of_ble_eq_true rfl⟩) (dw_preV (ci := 5) hG [1, 2, 3] [0, 1] rfl rfl (by decide) rfl rfl (q0 := 1) rfl) rfl rfl hl.1 rfl (lv_room (Nat.le_of_ble_eq_true rfl)) dM_askWith_76 ⟨Nat.le_refl _, Nat.le_refl _⟩) (fun u3 H locs hu3 hG => ?_)
      have hG : dw_G (dC, dI) vwCl [(cI, .int), (cZ, .boolean)] A s.heap s [(aFa, .inl (cI, 768, .inl (Fa))), (m0, .inr (5, [.int (ft), .int (vl), .ref aMd, .ref aO1, .ref aT2, .int (rs), .ref aSh, .ref aMk, .ref aFa, .ref aDe, .ref aNe, .ref aBy, .ref aPi, .int (nI (u3.2.2)), .ref aNw, .ref aNs, .ref aBf, .int (rn), .int (rr)])), (aS, .inl (cZ, 768, .inl (u3.1))), (aPi, .inl (cI, 1600, .inl (u3.2.1)))] H locs := hG
      subst hQ
      exact dw_vret hx hb hr (dw_perm hG [1, 2, 3, 0] (by decide) rfl rfl) (u3) rfl (db_asked_congr (db_asked_or hu2 hu3 (fun w b q => by omega)) (fun w b _ => by simp only [h14, h38, not_true, not_false_iff, true_or, or_true, false_or, or_false, and_true, and_false])) dM_askWith_79 hlocks
    refine lv_iconst (v := 1) hx hb dM_askWith_41 (by decide) ?_
    refine lv_goto (tgt := 46) hx hb dM_askWith_42 (by decide) ?_
    refine lv_istore (lv' := [(7, .int (1)), (6, .int (0)), (0, .ref m0), (1, .ref aS), (2, .int (nI (x))), (3, .int (nI (y))), (4, .int (nI (k))), (5, .int (0))]) hx hb dM_askWith_46 hl (by decide) rfl (fun ls hl => ?_)
    refine lv_iload hx hb dM_askWith_48 (lv_at hl 1 rfl) ?_
    refine lv_if_ne (tgt := 61) hx hb dM_askWith_50 (by decide) (fun h50 => ?_) (fun h50 => ?_)
    · skip
      replace h50 : ¬ 0 = 0 := fun q => h50 ((nI_eq (a := 0) (b := 0) (by omega) (by omega)).mpr q)
      (exfalso; omega)
    replace h50 := (nI_eq (a := 0) (b := 0) (by omega) (by omega)).mp h50
    refine lv_aload_n hx hb dM_askWith_53 rfl (lv_at hl 2 rfl) ?_
    refine lv_aload_n hx hb dM_askWith_54 rfl (lv_at hl 3 rfl) ?_
    refine lv_iload_n hx hb dM_askWith_55 rfl (lv_at hl 4 rfl) ?_
    refine lv_iload hx hb dM_askWith_56 (lv_at hl 6 rfl) ?_
    refine dw_callv (wc := [(m0, .inr (5, [.int (ft), .int (vl), .ref aMd, .ref aO1, .ref aT2, .int (rs), .ref aSh, .ref aMk, .ref aFa, .ref aDe, .ref aNe, .ref aBy, .ref aPi, .int (nI (pn)), .ref aNw, .ref aNs, .ref aBf, .int (rn), .int (rr)])), (aS, .inl (cZ, 768, .inl (Se))), (aPi, .inl (cI, 1600, .inl (Pi)))]) (wr := [(aFa, .inl (cI, 768, .inl (Fa)))]) hG [0, 1, 2] [3] rfl rfl (by decide) (by decide) (va_runV (As := [.ref aS, .int (nI (x)), .int (nI (k))]) (rest := []) ⟨hx, hb, hml, hown, hts⟩ (rf_want l dC dI cI cZ m0 aMd aO1 aT2 aSh aMk aFa aDe aNe aBy aPi aNw aNs aBf (pn) aS ft vl rs rn rr (x) (k) (Se) (Pi) H.size (by omega) (by omega) hok) (dc_V 3 hts tw_644 tw_646 tp_M_want tw_7 tw_647 rfl rfl (by decide +kernel) ⟨Nat.le_of_ble_eq_true rfl, Nat.le_of_ble_eq_true rfl⟩) (dw_preV (ci := 5) hG [0, 1, 2] [0, 1] rfl rfl (by decide) rfl rfl (q0 := 0) rfl) rfl rfl hl.1 rfl (lv_room (Nat.le_of_ble_eq_true rfl)) dM_askWith_58 ⟨Nat.le_refl _, Nat.le_refl _⟩) (fun u4 H locs hu4 hG => ?_)
    have hG : dw_G (dC, dI) vwCl [(cI, .int), (cZ, .boolean)] A s.heap s [(aFa, .inl (cI, 768, .inl (Fa))), (m0, .inr (5, [.int (ft), .int (vl), .ref aMd, .ref aO1, .ref aT2, .int (rs), .ref aSh, .ref aMk, .ref aFa, .ref aDe, .ref aNe, .ref aBy, .ref aPi, .int (nI (u4.2.2)), .ref aNw, .ref aNs, .ref aBf, .int (rn), .int (rr)])), (aS, .inl (cZ, 768, .inl (u4.1))), (aPi, .inl (cI, 1600, .inl (u4.2.1)))] H locs := hG
    refine lv_iload hx hb dM_askWith_61 (lv_at hl 1 rfl) ?_
    refine lv_if_ne (tgt := 71) hx hb dM_askWith_63 (by decide) (fun h63 => ?_) (fun h63 => ?_)
    · skip
      replace h63 : ¬ 0 = 0 := fun q => h63 ((nI_eq (a := 0) (b := 0) (by omega) (by omega)).mpr q)
      (exfalso; omega)
    replace h63 := (nI_eq (a := 0) (b := 0) (by omega) (by omega)).mp h63
    refine lv_iload hx hb dM_askWith_66 (lv_at hl 0 rfl) ?_
    refine lv_if_ne (tgt := 79) hx hb dM_askWith_68 (by decide) (fun h68 => ?_) (fun h68 => ?_)
    · skip
      replace h68 : ¬ 1 = 0 := fun q => h68 ((nI_eq (a := 1) (b := 0) (by omega) (by omega)).mpr q)
      subst hQ
      exact dw_vret hx hb hr (dw_perm hG [1, 2, 3, 0] (by decide) rfl rfl) (u4) rfl (db_asked_congr hu4 (fun w b _ => by simp only [h14, h38, not_true, not_false_iff, true_or, or_true, false_or, or_false, and_true, and_false])) dM_askWith_79 hlocks
    replace h68 := (nI_eq (a := 1) (b := 0) (by omega) (by omega)).mp h68
    (exfalso; omega)
  refine lv_iconst (v := 1) hx hb dM_askWith_17 (by decide) ?_
  refine lv_goto (tgt := 22) hx hb dM_askWith_18 (by decide) ?_
  refine lv_istore (lv' := [(6, .int (1)), (0, .ref m0), (1, .ref aS), (2, .int (nI (x))), (3, .int (nI (y))), (4, .int (nI (k))), (5, .int (0))]) hx hb dM_askWith_22 hl (by decide) rfl (fun ls hl => ?_)
  refine lv_aload_n hx hb dM_askWith_24 rfl (lv_at hl 1 rfl) ?_
  refine dw_get hx hb hts inMc hown hG 0 8 rfl rfl (by decide) hw502 rfl rfl dM_askWith_25 ?_
  refine lv_bipush (v := 32) hx hb dM_askWith_28 (by decide) ?_
  refine lv_iload_n hx hb dM_askWith_30 rfl (lv_at hl 3 rfl) ?_
  refine lv_imul hx hb dM_askWith_31 ?_
  refine lv_topi (nm_r (pk_mul (32) (x)) ?_)
  refine lv_iload hx hb dM_askWith_32 (lv_at hl 5 rfl) ?_
  refine lv_iadd hx hb dM_askWith_34 ?_
  refine lv_topi (nm_r (nI_add (32 * (x)) (k)) ?_)
  refine dw_ia (x := (Fa) (32 * (x) + k)) hx hb hG 3 0 rfl rfl (32 * (x) + k) rfl (by omega) (by decide) rfl dM_askWith_35 ?_
  refine lv_iload hx hb dM_askWith_36 (lv_at hl 6 rfl) ?_
  refine lv_icmp_ne (tgt := 45) hx hb dM_askWith_38 (by decide) (fun h38 => ?_) (fun h38 => ?_)
  · skip
    refine lv_iconst (v := 0) hx hb dM_askWith_45 (by decide) ?_
    refine lv_istore (lv' := [(7, .int (0)), (6, .int (1)), (0, .ref m0), (1, .ref aS), (2, .int (nI (x))), (3, .int (nI (y))), (4, .int (nI (k))), (5, .int (0))]) hx hb dM_askWith_46 hl (by decide) rfl (fun ls hl => ?_)
    refine lv_iload hx hb dM_askWith_48 (lv_at hl 1 rfl) ?_
    refine lv_if_ne (tgt := 61) hx hb dM_askWith_50 (by decide) (fun h50 => ?_) (fun h50 => ?_)
    · skip
      replace h50 : ¬ 1 = 0 := fun q => h50 ((nI_eq (a := 1) (b := 0) (by omega) (by omega)).mpr q)
      refine lv_iload hx hb dM_askWith_61 (lv_at hl 1 rfl) ?_
      refine lv_if_ne (tgt := 71) hx hb dM_askWith_63 (by decide) (fun h63 => ?_) (fun h63 => ?_)
      · skip
        replace h63 : ¬ 1 = 0 := fun q => h63 ((nI_eq (a := 1) (b := 0) (by omega) (by omega)).mpr q)
        refine lv_aload_n hx hb dM_askWith_71 rfl (lv_at hl 2 rfl) ?_
        refine lv_aload_n hx hb dM_askWith_72 rfl (lv_at hl 3 rfl) ?_
        refine lv_iload_n hx hb dM_askWith_73 rfl (lv_at hl 5 rfl) ?_
        refine lv_iload hx hb dM_askWith_74 (lv_at hl 6 rfl) ?_
        refine dw_callv (wc := [(m0, .inr (5, [.int (ft), .int (vl), .ref aMd, .ref aO1, .ref aT2, .int (rs), .ref aSh, .ref aMk, .ref aFa, .ref aDe, .ref aNe, .ref aBy, .ref aPi, .int (nI (pn)), .ref aNw, .ref aNs, .ref aBf, .int (rn), .int (rr)])), (aS, .inl (cZ, 768, .inl (Se))), (aPi, .inl (cI, 1600, .inl (Pi)))]) (wr := [(aFa, .inl (cI, 768, .inl (Fa)))]) hG [0, 1, 2] [3] rfl rfl (by decide) (by decide) (va_runV (As := [.ref aS, .int (nI (y)), .int (nI (k))]) (rest := []) ⟨hx, hb, hml, hown, hts⟩ (rf_want l dC dI cI cZ m0 aMd aO1 aT2 aSh aMk aFa aDe aNe aBy aPi aNw aNs aBf (pn) aS ft vl rs rn rr (y) (k) (Se) (Pi) H.size (by omega) (by omega) hok) (dc_V 3 hts tw_644 tw_646 tp_M_want tw_7 tw_647 rfl rfl (by decide +kernel) ⟨Nat.le_of_ble_eq_true rfl, Nat.le_of_ble_eq_true rfl⟩) (dw_preV (ci := 5) hG [0, 1, 2] [0, 1] rfl rfl (by decide) rfl rfl (q0 := 0) rfl) rfl rfl hl.1 rfl (lv_room (Nat.le_of_ble_eq_true rfl)) dM_askWith_76 ⟨Nat.le_refl _, Nat.le_refl _⟩) (fun u5 H locs hu5 hG => ?_)
        have hG : dw_G (dC, dI) vwCl [(cI, .int), (cZ, .boolean)] A s.heap s [(aFa, .inl (cI, 768, .inl (Fa))), (m0, .inr (5, [.int (ft), .int (vl), .ref aMd, .ref aO1, .ref aT2, .int (rs), .ref aSh, .ref aMk, .ref aFa, .ref aDe, .ref aNe, .ref aBy, .ref aPi, .int (nI (u5.2.2)), .ref aNw, .ref aNs, .ref aBf, .int (rn), .int (rr)])), (aS, .inl (cZ, 768, .inl (u5.1))), (aPi, .inl (cI, 1600, .inl (u5.2.1)))] H locs := hG
        subst hQ
        exact dw_vret hx hb hr (dw_perm hG [1, 2, 3, 0] (by decide) rfl rfl) (u5) rfl (db_asked_congr hu5 (fun w b _ => by simp only [h14, h38, not_true, not_false_iff, true_or, or_true, false_or, or_false, and_true, and_false])) dM_askWith_79 hlocks
      replace h63 := (nI_eq (a := 1) (b := 0) (by omega) (by omega)).mp h63
      (exfalso; omega)
    replace h50 := (nI_eq (a := 1) (b := 0) (by omega) (by omega)).mp h50
    (exfalso; omega)
  refine lv_iconst (v := 1) hx hb dM_askWith_41 (by decide) ?_
  refine lv_goto (tgt := 46) hx hb dM_askWith_42 (by decide) ?_
  refine lv_istore (lv' := [(7, .int (1)), (6, .int (1)), (0, .ref m0), (1, .ref aS), (2, .int (nI (x))), (3, .int (nI (y))), (4, .int (nI (k))), (5, .int (0))]) hx hb dM_askWith_46 hl (by decide) rfl (fun ls hl => ?_)
  refine lv_iload hx hb dM_askWith_48 (lv_at hl 1 rfl) ?_
  refine lv_if_ne (tgt := 61) hx hb dM_askWith_50 (by decide) (fun h50 => ?_) (fun h50 => ?_)
  · skip
    replace h50 : ¬ 1 = 0 := fun q => h50 ((nI_eq (a := 1) (b := 0) (by omega) (by omega)).mpr q)
    refine lv_iload hx hb dM_askWith_61 (lv_at hl 1 rfl) ?_
    refine lv_if_ne (tgt := 71) hx hb dM_askWith_63 (by decide) (fun h63 => ?_) (fun h63 => ?_)
    · skip
      replace h63 : ¬ 1 = 0 := fun q => h63 ((nI_eq (a := 1) (b := 0) (by omega) (by omega)).mpr q)
      refine lv_aload_n hx hb dM_askWith_71 rfl (lv_at hl 2 rfl) ?_
      refine lv_aload_n hx hb dM_askWith_72 rfl (lv_at hl 3 rfl) ?_
      refine lv_iload_n hx hb dM_askWith_73 rfl (lv_at hl 5 rfl) ?_
      refine lv_iload hx hb dM_askWith_74 (lv_at hl 6 rfl) ?_
      refine dw_callv (wc := [(m0, .inr (5, [.int (ft), .int (vl), .ref aMd, .ref aO1, .ref aT2, .int (rs), .ref aSh, .ref aMk, .ref aFa, .ref aDe, .ref aNe, .ref aBy, .ref aPi, .int (nI (pn)), .ref aNw, .ref aNs, .ref aBf, .int (rn), .int (rr)])), (aS, .inl (cZ, 768, .inl (Se))), (aPi, .inl (cI, 1600, .inl (Pi)))]) (wr := [(aFa, .inl (cI, 768, .inl (Fa)))]) hG [0, 1, 2] [3] rfl rfl (by decide) (by decide) (va_runV (As := [.ref aS, .int (nI (y)), .int (nI (k))]) (rest := []) ⟨hx, hb, hml, hown, hts⟩ (rf_want l dC dI cI cZ m0 aMd aO1 aT2 aSh aMk aFa aDe aNe aBy aPi aNw aNs aBf (pn) aS ft vl rs rn rr (y) (k) (Se) (Pi) H.size (by omega) (by omega) hok) (dc_V 3 hts tw_644 tw_646 tp_M_want tw_7 tw_647 rfl rfl (by decide +kernel) ⟨Nat.le_of_ble_eq_true rfl, Nat.le_of_ble_eq_true rfl⟩) (dw_preV (ci := 5) hG [0, 1, 2] [0, 1] rfl rfl (by decide) rfl rfl (q0 := 0) rfl) rfl rfl hl.1 rfl (lv_room (Nat.le_of_ble_eq_true rfl)) dM_askWith_76 ⟨Nat.le_refl _, Nat.le_refl _⟩) (fun u6 H locs hu6 hG => ?_)
      have hG : dw_G (dC, dI) vwCl [(cI, .int), (cZ, .boolean)] A s.heap s [(aFa, .inl (cI, 768, .inl (Fa))), (m0, .inr (5, [.int (ft), .int (vl), .ref aMd, .ref aO1, .ref aT2, .int (rs), .ref aSh, .ref aMk, .ref aFa, .ref aDe, .ref aNe, .ref aBy, .ref aPi, .int (nI (u6.2.2)), .ref aNw, .ref aNs, .ref aBf, .int (rn), .int (rr)])), (aS, .inl (cZ, 768, .inl (u6.1))), (aPi, .inl (cI, 1600, .inl (u6.2.1)))] H locs := hG
      subst hQ
      exact dw_vret hx hb hr (dw_perm hG [1, 2, 3, 0] (by decide) rfl rfl) (u6) rfl (db_asked_congr hu6 (fun w b _ => by simp only [h14, h38, not_true, not_false_iff, true_or, or_true, false_or, or_false, and_true, and_false])) dM_askWith_79 hlocks
    replace h63 := (nI_eq (a := 1) (b := 0) (by omega) (by omega)).mp h63
    (exfalso; omega)
  replace h50 := (nI_eq (a := 1) (b := 0) (by omega) (by omega)).mp h50
  (exfalso; omega)

set_option maxRecDepth 100000 in
set_option maxHeartbeats 4000000 in
theorem rf_askWith1 (l : Launch) (dC : Nat → ClassId) (dI : Nat → Nat → Nat) (cI cZ : ClassId) (m0 aMd aO1 aT2 aSh aMk aFa aDe aNe aBy aPi aNw aNs aBf pn aS : Nat) (ft vl rs rn rr : Int32) (x y k : Nat) (Se Pi Fa : Nat → Int32) (sz : Nat) (hx9 : x < 24) (hy9 : y < 24) (hk : k < 32) (hok : db_ok (Se, Pi, pn)) : Met l yM_askWith wsM_askWith { frames := 1, cells := 0, slots := 0, locals := 24 } (va_Pc [.ref m0, .ref aS, .int (nI (x)), .int (nI (y)), .int (nI (k)), .int (1)] (dw_pre (dC, dI) vwCl [(m0, .inr (5, [.int (ft), .int (vl), .ref aMd, .ref aO1, .ref aT2, .int (rs), .ref aSh, .ref aMk, .ref aFa, .ref aDe, .ref aNe, .ref aBy, .ref aPi, .int (nI (pn)), .ref aNw, .ref aNs, .ref aBf, .int (rn), .int (rr)])), (aS, .inl (cZ, 768, .inl (Se))), (aPi, .inl (cI, 1600, .inl (Pi))), (aFa, .inl (cI, 768, .inl (Fa)))] [(cI, .int), (cZ, .boolean)] sz)) (va_Qv (fun (u : db_Q) => db_asked (fun w b => (w = x ∧ b = k ∧ ¬ Fa (32 * y + k) = 1) ∨ (w = y ∧ b = k ∧ (Fa (32 * y + k) = 1 ∨ ¬ Fa (32 * x + k) = 1))) (Se, Pi, pn) u) (fun u t => dw_post (dC, dI) vwCl [(m0, .inr (5, [.int (ft), .int (vl), .ref aMd, .ref aO1, .ref aT2, .int (rs), .ref aSh, .ref aMk, .ref aFa, .ref aDe, .ref aNe, .ref aBy, .ref aPi, .int (nI u.2.2), .ref aNw, .ref aNs, .ref aBf, .int (rn), .int (rr)])), (aS, .inl (cZ, 768, .inl (u.1))), (aPi, .inl (cI, 1600, .inl (u.2.1))), (aFa, .inl (cI, 768, .inl (Fa)))] [(cI, .int), (cZ, .boolean)] (va_A [(m0, .inr (5, [.int (ft), .int (vl), .ref aMd, .ref aO1, .ref aT2, .int (rs), .ref aSh, .ref aMk, .ref aFa, .ref aDe, .ref aNe, .ref aBy, .ref aPi, .int (nI (pn)), .ref aNw, .ref aNs, .ref aBf, .int (rn), .int (rr)])), (aS, .inl (cZ, 768, .inl (Se))), (aPi, .inl (cI, 1600, .inl (Pi))), (aFa, .inl (cI, 768, .inl (Fa)))] sz) t) (va_A [(m0, .inr (5, [.int (ft), .int (vl), .ref aMd, .ref aO1, .ref aT2, .int (rs), .ref aSh, .ref aMk, .ref aFa, .ref aDe, .ref aNe, .ref aBy, .ref aPi, .int (nI (pn)), .ref aNw, .ref aNs, .ref aBf, .int (rn), .int (rr)])), (aS, .inl (cZ, 768, .inl (Se))), (aPi, .inl (cI, 1600, .inl (Pi))), (aFa, .inl (cI, 768, .inl (Fa)))] sz)) 0 0 (va_A [(m0, .inr (5, [.int (ft), .int (vl), .ref aMd, .ref aO1, .ref aT2, .int (rs), .ref aSh, .ref aMk, .ref aFa, .ref aDe, .ref aNe, .ref aBy, .ref aPi, .int (nI (pn)), .ref aNw, .ref aNs, .ref aBf, .int (rn), .int (rr)])), (aS, .inl (cZ, 768, .inl (Se))), (aPi, .inl (cI, 1600, .inl (Pi))), (aFa, .inl (cI, 768, .inl (Fa)))] sz) := by
  refine Met.ofW (cc := cM_askWith) (maxL := 8) (ret := none) (by decide) rfl ?_
  intro p e s m args below meth c s₁ B hml hv0
  have hx := B.exec
  have hb := B.bytes
  have hr := B.returns
  have hts := atoms_spec (ws := wsM_askWith) B.pre
  have hown : s.vm.findClass RM = some m.cls := findClass_of_methodNamed B.named
  have hlocks := B.notSynchronized
  obtain ⟨rfl, hsz, hG⟩ := dw_enter hv0
  generalize va_A [(m0, .inr (5, [.int (ft), .int (vl), .ref aMd, .ref aO1, .ref aT2, .int (rs), .ref aSh, .ref aMk, .ref aFa, .ref aDe, .ref aNe, .ref aBy, .ref aPi, .int (nI (pn)), .ref aNw, .ref aNs, .ref aBf, .int (rn), .int (rr)])), (aS, .inl (cZ, 768, .inl (Se))), (aPi, .inl (cI, 1600, .inl (Pi))), (aFa, .inl (cI, 768, .inl (Fa)))] sz = A at hG ⊢
  have hl := lv_entry ([.ref m0, .ref aS, .int (nI (x)), .int (nI (y)), .int (nI (k)), .int (1)]) (n := 8) (Nat.le_of_ble_eq_true rfl)
  rw [lg_entry_eq]
  generalize (lg_sl ([.ref m0, .ref aS, .int (nI (x)), .int (nI (y)), .int (nI (k)), .int (1)]) ++ List.replicate (8 - (lg_sl ([.ref m0, .ref aS, .int (nI (x)), .int (nI (y)), .int (nI (k)), .int (1)])).length) Slot.unset).toArray = ls at hl ⊢
  have hl : lv_has ls 8 [(0, .ref m0), (1, .ref aS), (2, .int (nI (x))), (3, .int (nI (y))), (4, .int (nI (k))), (5, .int (1))] := hl
  have hw502 := hts _ (List.mem_cons_of_mem _ tw_502)
  refine dw_Q (fun Q hQ => ?_)
  suffices hgo : ∀ (H : Heap) (locs : List Loc), dw_G (dC, dI) vwCl [(cI, .int), (cZ, .boolean)] A s.heap s [(m0, .inr (5, [.int (ft), .int (vl), .ref aMd, .ref aO1, .ref aT2, .int (rs), .ref aSh, .ref aMk, .ref aFa, .ref aDe, .ref aNe, .ref aBy, .ref aPi, .int (nI (pn)), .ref aNw, .ref aNs, .ref aBf, .int (rn), .int (rr)])), (aS, .inl (cZ, 768, .inl (Se))), (aPi, .inl (cI, 1600, .inl (Pi))), (aFa, .inl (cI, 768, .inl (Fa)))] H locs → W p l e (headSpec wsM_askWith { frames := 1, cells := 0, slots := 0, locals := 24 }).room s m [.ref m0, .ref aS, .int (nI (x)), .int (nI (y)), .int (nI (k)), .int (1)].toArray below meth c H locs 0 0 Q (F0 m 0 ls []) from hgo _ _ hG
  clear hG
  intro H locs hG
  refine lv_aload_n hx hb dM_askWith_0 rfl (lv_at hl 0 rfl) ?_
  refine dw_get hx hb hts inMc hown hG 0 8 rfl rfl (by decide) hw502 rfl rfl dM_askWith_1 ?_
  refine lv_bipush (v := 32) hx hb dM_askWith_4 (by decide) ?_
  refine lv_iload_n hx hb dM_askWith_6 rfl (lv_at hl 3 rfl) ?_
  refine lv_imul hx hb dM_askWith_7 ?_
  refine lv_topi (nm_r (pk_mul (32) (y)) ?_)
  refine lv_iload hx hb dM_askWith_8 (lv_at hl 4 rfl) ?_
  refine lv_iadd hx hb dM_askWith_10 ?_
  refine lv_topi (nm_r (nI_add (32 * (y)) (k)) ?_)
  refine dw_ia (x := (Fa) (32 * (y) + k)) hx hb hG 3 0 rfl rfl (32 * (y) + k) rfl (by omega) (by decide) rfl dM_askWith_11 ?_
  refine lv_iload hx hb dM_askWith_12 (lv_at hl 5 rfl) ?_
  refine lv_icmp_ne (tgt := 21) hx hb dM_askWith_14 (by decide) (fun h14 => ?_) (fun h14 => ?_)
  · skip
    refine lv_iconst (v := 0) hx hb dM_askWith_21 (by decide) ?_
    refine lv_istore (lv' := [(6, .int (0)), (0, .ref m0), (1, .ref aS), (2, .int (nI (x))), (3, .int (nI (y))), (4, .int (nI (k))), (5, .int (1))]) hx hb dM_askWith_22 hl (by decide) rfl (fun ls hl => ?_)
    refine lv_aload_n hx hb dM_askWith_24 rfl (lv_at hl 1 rfl) ?_
    refine dw_get hx hb hts inMc hown hG 0 8 rfl rfl (by decide) hw502 rfl rfl dM_askWith_25 ?_
    refine lv_bipush (v := 32) hx hb dM_askWith_28 (by decide) ?_
    refine lv_iload_n hx hb dM_askWith_30 rfl (lv_at hl 3 rfl) ?_
    refine lv_imul hx hb dM_askWith_31 ?_
    refine lv_topi (nm_r (pk_mul (32) (x)) ?_)
    refine lv_iload hx hb dM_askWith_32 (lv_at hl 5 rfl) ?_
    refine lv_iadd hx hb dM_askWith_34 ?_
    refine lv_topi (nm_r (nI_add (32 * (x)) (k)) ?_)
    refine dw_ia (x := (Fa) (32 * (x) + k)) hx hb hG 3 0 rfl rfl (32 * (x) + k) rfl (by omega) (by decide) rfl dM_askWith_35 ?_
    refine lv_iload hx hb dM_askWith_36 (lv_at hl 6 rfl) ?_
    refine lv_icmp_ne (tgt := 45) hx hb dM_askWith_38 (by decide) (fun h38 => ?_) (fun h38 => ?_)
    · skip
      refine lv_iconst (v := 0) hx hb dM_askWith_45 (by decide) ?_
      refine lv_istore (lv' := [(7, .int (0)), (6, .int (0)), (0, .ref m0), (1, .ref aS), (2, .int (nI (x))), (3, .int (nI (y))), (4, .int (nI (k))), (5, .int (1))]) hx hb dM_askWith_46 hl (by decide) rfl (fun ls hl => ?_)
      refine lv_iload hx hb dM_askWith_48 (lv_at hl 1 rfl) ?_
      refine lv_if_ne (tgt := 61) hx hb dM_askWith_50 (by decide) (fun h50 => ?_) (fun h50 => ?_)
      · skip
        replace h50 : ¬ 0 = 0 := fun q => h50 ((nI_eq (a := 0) (b := 0) (by omega) (by omega)).mpr q)
        (exfalso; omega)
      replace h50 := (nI_eq (a := 0) (b := 0) (by omega) (by omega)).mp h50
      refine lv_aload_n hx hb dM_askWith_53 rfl (lv_at hl 2 rfl) ?_
      refine lv_aload_n hx hb dM_askWith_54 rfl (lv_at hl 3 rfl) ?_
      refine lv_iload_n hx hb dM_askWith_55 rfl (lv_at hl 4 rfl) ?_
      refine lv_iload hx hb dM_askWith_56 (lv_at hl 6 rfl) ?_
      refine dw_callv (wc := [(m0, .inr (5, [.int (ft), .int (vl), .ref aMd, .ref aO1, .ref aT2, .int (rs), .ref aSh, .ref aMk, .ref aFa, .ref aDe, .ref aNe, .ref aBy, .ref aPi, .int (nI (pn)), .ref aNw, .ref aNs, .ref aBf, .int (rn), .int (rr)])), (aS, .inl (cZ, 768, .inl (Se))), (aPi, .inl (cI, 1600, .inl (Pi)))]) (wr := [(aFa, .inl (cI, 768, .inl (Fa)))]) hG [0, 1, 2] [3] rfl rfl (by decide) (by decide) (va_runV (As := [.ref aS, .int (nI (x)), .int (nI (k))]) (rest := []) ⟨hx, hb, hml, hown, hts⟩ (rf_want l dC dI cI cZ m0 aMd aO1 aT2 aSh aMk aFa aDe aNe aBy aPi aNw aNs aBf (pn) aS ft vl rs rn rr (x) (k) (Se) (Pi) H.size (by omega) (by omega) hok) (dc_V 3 hts tw_644 tw_646 tp_M_want tw_7 tw_647 rfl rfl (by decide +kernel) ⟨Nat.le_of_ble_eq_true rfl, Nat.le_of_ble_eq_true rfl⟩) (dw_preV (ci := 5) hG [0, 1, 2] [0, 1] rfl rfl (by decide) rfl rfl (q0 := 0) rfl) rfl rfl hl.1 rfl (lv_room (Nat.le_of_ble_eq_true rfl)) dM_askWith_58 ⟨Nat.le_refl _, Nat.le_refl _⟩) (fun u7 H locs hu7 hG => ?_)
      have hG : dw_G (dC, dI) vwCl [(cI, .int), (cZ, .boolean)] A s.heap s [(aFa, .inl (cI, 768, .inl (Fa))), (m0, .inr (5, [.int (ft), .int (vl), .ref aMd, .ref aO1, .ref aT2, .int (rs), .ref aSh, .ref aMk, .ref aFa, .ref aDe, .ref aNe, .ref aBy, .ref aPi, .int (nI (u7.2.2)), .ref aNw, .ref aNs, .ref aBf, .int (rn), .int (rr)])), (aS, .inl (cZ, 768, .inl (u7.1))), (aPi, .inl (cI, 1600, .inl (u7.2.1)))] H locs := hG
      refine lv_iload hx hb dM_askWith_61 (lv_at hl 1 rfl) ?_
      refine lv_if_ne (tgt := 71) hx hb dM_askWith_63 (by decide) (fun h63 => ?_) (fun h63 => ?_)
      · skip
        replace h63 : ¬ 0 = 0 := fun q => h63 ((nI_eq (a := 0) (b := 0) (by omega) (by omega)).mpr q)
        (exfalso; omega)
      replace h63 := (nI_eq (a := 0) (b := 0) (by omega) (by omega)).mp h63
      refine lv_iload hx hb dM_askWith_66 (lv_at hl 0 rfl) ?_
      refine lv_if_ne (tgt := 79) hx hb dM_askWith_68 (by decide) (fun h68 => ?_) (fun h68 => ?_)
      · skip
        replace h68 : ¬ 0 = 0 := fun q => h68 ((nI_eq (a := 0) (b := 0) (by omega) (by omega)).mpr q)
        (exfalso; omega)
      replace h68 := (nI_eq (a := 0) (b := 0) (by omega) (by omega)).mp h68
      refine lv_aload_n hx hb dM_askWith_71 rfl (lv_at hl 2 rfl) ?_
      refine lv_aload_n hx hb dM_askWith_72 rfl (lv_at hl 3 rfl) ?_
      refine lv_iload_n hx hb dM_askWith_73 rfl (lv_at hl 5 rfl) ?_
      refine lv_iload hx hb dM_askWith_74 (lv_at hl 6 rfl) ?_
      refine dw_callv (wc := [(m0, .inr (5, [.int (ft), .int (vl), .ref aMd, .ref aO1, .ref aT2, .int (rs), .ref aSh, .ref aMk, .ref aFa, .ref aDe, .ref aNe, .ref aBy, .ref aPi, .int (nI (u7.2.2)), .ref aNw, .ref aNs, .ref aBf, .int (rn), .int (rr)])), (aS, .inl (cZ, 768, .inl (u7.1))), (aPi, .inl (cI, 1600, .inl (u7.2.1)))]) (wr := [(aFa, .inl (cI, 768, .inl (Fa)))]) hG [1, 2, 3] [0] rfl rfl (by decide) (by decide) (va_runV (As := [.ref aS, .int (nI (y)), .int (nI (k))]) (rest := []) ⟨hx, hb, hml, hown, hts⟩ (rf_want l dC dI cI cZ m0 aMd aO1 aT2 aSh aMk aFa aDe aNe aBy aPi aNw aNs aBf (u7.2.2) aS ft vl rs rn rr (y) (k) (u7.1) (u7.2.1) H.size (by omega) (by omega) (db_gr_ok hu7.1 hok)) (dc_V 3 hts tw_644 tw_646 tp_M_want tw_7 tw_647 rfl rfl (by decide +kernel) ⟨Nat.le_of_ble_eq_true rfl, Nat.le_of_ble_eq_true rfl⟩) (dw_preV (ci := 5) hG [1, 2, 3] [0, 1] rfl rfl (by decide) rfl rfl (q0 := 1) rfl) rfl rfl hl.1 rfl (lv_room (Nat.le_of_ble_eq_true rfl)) dM_askWith_76 ⟨Nat.le_refl _, Nat.le_refl _⟩) (fun u8 H locs hu8 hG => ?_)
      have hG : dw_G (dC, dI) vwCl [(cI, .int), (cZ, .boolean)] A s.heap s [(aFa, .inl (cI, 768, .inl (Fa))), (m0, .inr (5, [.int (ft), .int (vl), .ref aMd, .ref aO1, .ref aT2, .int (rs), .ref aSh, .ref aMk, .ref aFa, .ref aDe, .ref aNe, .ref aBy, .ref aPi, .int (nI (u8.2.2)), .ref aNw, .ref aNs, .ref aBf, .int (rn), .int (rr)])), (aS, .inl (cZ, 768, .inl (u8.1))), (aPi, .inl (cI, 1600, .inl (u8.2.1)))] H locs := hG
      subst hQ
      exact dw_vret hx hb hr (dw_perm hG [1, 2, 3, 0] (by decide) rfl rfl) (u8) rfl (db_asked_congr (db_asked_or hu7 hu8 (fun w b q => by omega)) (fun w b _ => by simp only [h14, h38, not_true, not_false_iff, true_or, or_true, false_or, or_false, and_true, and_false])) dM_askWith_79 hlocks
    refine lv_iconst (v := 1) hx hb dM_askWith_41 (by decide) ?_
    refine lv_goto (tgt := 46) hx hb dM_askWith_42 (by decide) ?_
    refine lv_istore (lv' := [(7, .int (1)), (6, .int (0)), (0, .ref m0), (1, .ref aS), (2, .int (nI (x))), (3, .int (nI (y))), (4, .int (nI (k))), (5, .int (1))]) hx hb dM_askWith_46 hl (by decide) rfl (fun ls hl => ?_)
    refine lv_iload hx hb dM_askWith_48 (lv_at hl 1 rfl) ?_
    refine lv_if_ne (tgt := 61) hx hb dM_askWith_50 (by decide) (fun h50 => ?_) (fun h50 => ?_)
    · skip
      replace h50 : ¬ 0 = 0 := fun q => h50 ((nI_eq (a := 0) (b := 0) (by omega) (by omega)).mpr q)
      (exfalso; omega)
    replace h50 := (nI_eq (a := 0) (b := 0) (by omega) (by omega)).mp h50
    refine lv_aload_n hx hb dM_askWith_53 rfl (lv_at hl 2 rfl) ?_
    refine lv_aload_n hx hb dM_askWith_54 rfl (lv_at hl 3 rfl) ?_
    refine lv_iload_n hx hb dM_askWith_55 rfl (lv_at hl 4 rfl) ?_
    refine lv_iload hx hb dM_askWith_56 (lv_at hl 6 rfl) ?_
    refine dw_callv (wc := [(m0, .inr (5, [.int (ft), .int (vl), .ref aMd, .ref aO1, .ref aT2, .int (rs), .ref aSh, .ref aMk, .ref aFa, .ref aDe, .ref aNe, .ref aBy, .ref aPi, .int (nI (pn)), .ref aNw, .ref aNs, .ref aBf, .int (rn), .int (rr)])), (aS, .inl (cZ, 768, .inl (Se))), (aPi, .inl (cI, 1600, .inl (Pi)))]) (wr := [(aFa, .inl (cI, 768, .inl (Fa)))]) hG [0, 1, 2] [3] rfl rfl (by decide) (by decide) (va_runV (As := [.ref aS, .int (nI (x)), .int (nI (k))]) (rest := []) ⟨hx, hb, hml, hown, hts⟩ (rf_want l dC dI cI cZ m0 aMd aO1 aT2 aSh aMk aFa aDe aNe aBy aPi aNw aNs aBf (pn) aS ft vl rs rn rr (x) (k) (Se) (Pi) H.size (by omega) (by omega) hok) (dc_V 3 hts tw_644 tw_646 tp_M_want tw_7 tw_647 rfl rfl (by decide +kernel) ⟨Nat.le_of_ble_eq_true rfl, Nat.le_of_ble_eq_true rfl⟩) (dw_preV (ci := 5) hG [0, 1, 2] [0, 1] rfl rfl (by decide) rfl rfl (q0 := 0) rfl) rfl rfl hl.1 rfl (lv_room (Nat.le_of_ble_eq_true rfl)) dM_askWith_58 ⟨Nat.le_refl _, Nat.le_refl _⟩) (fun u9 H locs hu9 hG => ?_)
    have hG : dw_G (dC, dI) vwCl [(cI, .int), (cZ, .boolean)] A s.heap s [(aFa, .inl (cI, 768, .inl (Fa))), (m0, .inr (5, [.int (ft), .int (vl), .ref aMd, .ref aO1, .ref aT2, .int (rs), .ref aSh, .ref aMk, .ref aFa, .ref aDe, .ref aNe, .ref aBy, .ref aPi, .int (nI (u9.2.2)), .ref aNw, .ref aNs, .ref aBf, .int (rn), .int (rr)])), (aS, .inl (cZ, 768, .inl (u9.1))), (aPi, .inl (cI, 1600, .inl (u9.2.1)))] H locs := hG
    refine lv_iload hx hb dM_askWith_61 (lv_at hl 1 rfl) ?_
    refine lv_if_ne (tgt := 71) hx hb dM_askWith_63 (by decide) (fun h63 => ?_) (fun h63 => ?_)
    · skip
      replace h63 : ¬ 0 = 0 := fun q => h63 ((nI_eq (a := 0) (b := 0) (by omega) (by omega)).mpr q)
      (exfalso; omega)
    replace h63 := (nI_eq (a := 0) (b := 0) (by omega) (by omega)).mp h63
    refine lv_iload hx hb dM_askWith_66 (lv_at hl 0 rfl) ?_
    refine lv_if_ne (tgt := 79) hx hb dM_askWith_68 (by decide) (fun h68 => ?_) (fun h68 => ?_)
    · skip
      replace h68 : ¬ 1 = 0 := fun q => h68 ((nI_eq (a := 1) (b := 0) (by omega) (by omega)).mpr q)
      subst hQ
      exact dw_vret hx hb hr (dw_perm hG [1, 2, 3, 0] (by decide) rfl rfl) (u9) rfl (db_asked_congr hu9 (fun w b _ => by simp only [h14, h38, not_true, not_false_iff, true_or, or_true, false_or, or_false, and_true, and_false])) dM_askWith_79 hlocks
    replace h68 := (nI_eq (a := 1) (b := 0) (by omega) (by omega)).mp h68
    (exfalso; omega)
  refine lv_iconst (v := 1) hx hb dM_askWith_17 (by decide) ?_
  refine lv_goto (tgt := 22) hx hb dM_askWith_18 (by decide) ?_
  refine lv_istore (lv' := [(6, .int (1)), (0, .ref m0), (1, .ref aS), (2, .int (nI (x))), (3, .int (nI (y))), (4, .int (nI (k))), (5, .int (1))]) hx hb dM_askWith_22 hl (by decide) rfl (fun ls hl => ?_)
  refine lv_aload_n hx hb dM_askWith_24 rfl (lv_at hl 1 rfl) ?_
  refine dw_get hx hb hts inMc hown hG 0 8 rfl rfl (by decide) hw502 rfl rfl dM_askWith_25 ?_
  refine lv_bipush (v := 32) hx hb dM_askWith_28 (by decide) ?_
  refine lv_iload_n hx hb dM_askWith_30 rfl (lv_at hl 3 rfl) ?_
  refine lv_imul hx hb dM_askWith_31 ?_
  refine lv_topi (nm_r (pk_mul (32) (x)) ?_)
  refine lv_iload hx hb dM_askWith_32 (lv_at hl 5 rfl) ?_
  refine lv_iadd hx hb dM_askWith_34 ?_
  refine lv_topi (nm_r (nI_add (32 * (x)) (k)) ?_)
  refine dw_ia (x := (Fa) (32 * (x) + k)) hx hb hG 3 0 rfl rfl (32 * (x) + k) rfl (by omega) (by decide) rfl dM_askWith_35 ?_
  refine lv_iload hx hb dM_askWith_36 (lv_at hl 6 rfl) ?_
  refine lv_icmp_ne (tgt := 45) hx hb dM_askWith_38 (by decide) (fun h38 => ?_) (fun h38 => ?_)
  · skip
    refine lv_iconst (v := 0) hx hb dM_askWith_45 (by decide) ?_
    refine lv_istore (lv' := [(7, .int (0)), (6, .int (1)), (0, .ref m0), (1, .ref aS), (2, .int (nI (x))), (3, .int (nI (y))), (4, .int (nI (k))), (5, .int (1))]) hx hb dM_askWith_46 hl (by decide) rfl (fun ls hl => ?_)
    refine lv_iload hx hb dM_askWith_48 (lv_at hl 1 rfl) ?_
    refine lv_if_ne (tgt := 61) hx hb dM_askWith_50 (by decide) (fun h50 => ?_) (fun h50 => ?_)
    · skip
      replace h50 : ¬ 1 = 0 := fun q => h50 ((nI_eq (a := 1) (b := 0) (by omega) (by omega)).mpr q)
      refine lv_iload hx hb dM_askWith_61 (lv_at hl 1 rfl) ?_
      refine lv_if_ne (tgt := 71) hx hb dM_askWith_63 (by decide) (fun h63 => ?_) (fun h63 => ?_)
      · skip
        replace h63 : ¬ 1 = 0 := fun q => h63 ((nI_eq (a := 1) (b := 0) (by omega) (by omega)).mpr q)
        refine lv_aload_n hx hb dM_askWith_71 rfl (lv_at hl 2 rfl) ?_
        refine lv_aload_n hx hb dM_askWith_72 rfl (lv_at hl 3 rfl) ?_
        refine lv_iload_n hx hb dM_askWith_73 rfl (lv_at hl 5 rfl) ?_
        refine lv_iload hx hb dM_askWith_74 (lv_at hl 6 rfl) ?_
        refine dw_callv (wc := [(m0, .inr (5, [.int (ft), .int (vl), .ref aMd, .ref aO1, .ref aT2, .int (rs), .ref aSh, .ref aMk, .ref aFa, .ref aDe, .ref aNe, .ref aBy, .ref aPi, .int (nI (pn)), .ref aNw, .ref aNs, .ref aBf, .int (rn), .int (rr)])), (aS, .inl (cZ, 768, .inl (Se))), (aPi, .inl (cI, 1600, .inl (Pi)))]) (wr := [(aFa, .inl (cI, 768, .inl (Fa)))]) hG [0, 1, 2] [3] rfl rfl (by decide) (by decide) (va_runV (As := [.ref aS, .int (nI (y)), .int (nI (k))]) (rest := []) ⟨hx, hb, hml, hown, hts⟩ (rf_want l dC dI cI cZ m0 aMd aO1 aT2 aSh aMk aFa aDe aNe aBy aPi aNw aNs aBf (pn) aS ft vl rs rn rr (y) (k) (Se) (Pi) H.size (by omega) (by omega) hok) (dc_V 3 hts tw_644 tw_646 tp_M_want tw_7 tw_647 rfl rfl (by decide +kernel) ⟨Nat.le_of_ble_eq_true rfl, Nat.le_of_ble_eq_true rfl⟩) (dw_preV (ci := 5) hG [0, 1, 2] [0, 1] rfl rfl (by decide) rfl rfl (q0 := 0) rfl) rfl rfl hl.1 rfl (lv_room (Nat.le_of_ble_eq_true rfl)) dM_askWith_76 ⟨Nat.le_refl _, Nat.le_refl _⟩) (fun u10 H locs hu10 hG => ?_)
        have hG : dw_G (dC, dI) vwCl [(cI, .int), (cZ, .boolean)] A s.heap s [(aFa, .inl (cI, 768, .inl (Fa))), (m0, .inr (5, [.int (ft), .int (vl), .ref aMd, .ref aO1, .ref aT2, .int (rs), .ref aSh, .ref aMk, .ref aFa, .ref aDe, .ref aNe, .ref aBy, .ref aPi, .int (nI (u10.2.2)), .ref aNw, .ref aNs, .ref aBf, .int (rn), .int (rr)])), (aS, .inl (cZ, 768, .inl (u10.1))), (aPi, .inl (cI, 1600, .inl (u10.2.1)))] H locs := hG
        subst hQ
        exact dw_vret hx hb hr (dw_perm hG [1, 2, 3, 0] (by decide) rfl rfl) (u10) rfl (db_asked_congr hu10 (fun w b _ => by simp only [h14, h38, not_true, not_false_iff, true_or, or_true, false_or, or_false, and_true, and_false])) dM_askWith_79 hlocks
      replace h63 := (nI_eq (a := 1) (b := 0) (by omega) (by omega)).mp h63
      (exfalso; omega)
    replace h50 := (nI_eq (a := 1) (b := 0) (by omega) (by omega)).mp h50
    (exfalso; omega)
  refine lv_iconst (v := 1) hx hb dM_askWith_41 (by decide) ?_
  refine lv_goto (tgt := 46) hx hb dM_askWith_42 (by decide) ?_
  refine lv_istore (lv' := [(7, .int (1)), (6, .int (1)), (0, .ref m0), (1, .ref aS), (2, .int (nI (x))), (3, .int (nI (y))), (4, .int (nI (k))), (5, .int (1))]) hx hb dM_askWith_46 hl (by decide) rfl (fun ls hl => ?_)
  refine lv_iload hx hb dM_askWith_48 (lv_at hl 1 rfl) ?_
  refine lv_if_ne (tgt := 61) hx hb dM_askWith_50 (by decide) (fun h50 => ?_) (fun h50 => ?_)
  · skip
    replace h50 : ¬ 1 = 0 := fun q => h50 ((nI_eq (a := 1) (b := 0) (by omega) (by omega)).mpr q)
    refine lv_iload hx hb dM_askWith_61 (lv_at hl 1 rfl) ?_
    refine lv_if_ne (tgt := 71) hx hb dM_askWith_63 (by decide) (fun h63 => ?_) (fun h63 => ?_)
    · skip
      replace h63 : ¬ 1 = 0 := fun q => h63 ((nI_eq (a := 1) (b := 0) (by omega) (by omega)).mpr q)
      refine lv_aload_n hx hb dM_askWith_71 rfl (lv_at hl 2 rfl) ?_
      refine lv_aload_n hx hb dM_askWith_72 rfl (lv_at hl 3 rfl) ?_
      refine lv_iload_n hx hb dM_askWith_73 rfl (lv_at hl 5 rfl) ?_
      refine lv_iload hx hb dM_askWith_74 (lv_at hl 6 rfl) ?_
      refine dw_callv (wc := [(m0, .inr (5, [.int (ft), .int (vl), .ref aMd, .ref aO1, .ref aT2, .int (rs), .ref aSh, .ref aMk, .ref aFa, .ref aDe, .ref aNe, .ref aBy, .ref aPi, .int (nI (pn)), .ref aNw, .ref aNs, .ref aBf, .int (rn), .int (rr)])), (aS, .inl (cZ, 768, .inl (Se))), (aPi, .inl (cI, 1600, .inl (Pi)))]) (wr := [(aFa, .inl (cI, 768, .inl (Fa)))]) hG [0, 1, 2] [3] rfl rfl (by decide) (by decide) (va_runV (As := [.ref aS, .int (nI (y)), .int (nI (k))]) (rest := []) ⟨hx, hb, hml, hown, hts⟩ (rf_want l dC dI cI cZ m0 aMd aO1 aT2 aSh aMk aFa aDe aNe aBy aPi aNw aNs aBf (pn) aS ft vl rs rn rr (y) (k) (Se) (Pi) H.size (by omega) (by omega) hok) (dc_V 3 hts tw_644 tw_646 tp_M_want tw_7 tw_647 rfl rfl (by decide +kernel) ⟨Nat.le_of_ble_eq_true rfl, Nat.le_of_ble_eq_true rfl⟩) (dw_preV (ci := 5) hG [0, 1, 2] [0, 1] rfl rfl (by decide) rfl rfl (q0 := 0) rfl) rfl rfl hl.1 rfl (lv_room (Nat.le_of_ble_eq_true rfl)) dM_askWith_76 ⟨Nat.le_refl _, Nat.le_refl _⟩) (fun u11 H locs hu11 hG => ?_)
      have hG : dw_G (dC, dI) vwCl [(cI, .int), (cZ, .boolean)] A s.heap s [(aFa, .inl (cI, 768, .inl (Fa))), (m0, .inr (5, [.int (ft), .int (vl), .ref aMd, .ref aO1, .ref aT2, .int (rs), .ref aSh, .ref aMk, .ref aFa, .ref aDe, .ref aNe, .ref aBy, .ref aPi, .int (nI (u11.2.2)), .ref aNw, .ref aNs, .ref aBf, .int (rn), .int (rr)])), (aS, .inl (cZ, 768, .inl (u11.1))), (aPi, .inl (cI, 1600, .inl (u11.2.1)))] H locs := hG
      subst hQ
      exact dw_vret hx hb hr (dw_perm hG [1, 2, 3, 0] (by decide) rfl rfl) (u11) rfl (db_asked_congr hu11 (fun w b _ => by simp only [h14, h38, not_true, not_false_iff, true_or, or_true, false_or, or_false, and_true, and_false])) dM_askWith_79 hlocks
    replace h63 := (nI_eq (a := 1) (b := 0) (by omega) (by omega)).mp h63
    (exfalso; omega)
  replace h50 := (nI_eq (a := 1) (b := 0) (by omega) (by omega)).mp h50
  (exfalso; omega)

