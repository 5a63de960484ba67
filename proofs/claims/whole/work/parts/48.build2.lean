set_option maxRecDepth 100000 in
set_option maxHeartbeats 4000000 in
theorem rf_extend0_0 (l : Launch) (dC : Nat → ClassId) (dI : Nat → Nat → Nat) (cI cZ : ClassId) (m0 aMd aO1 aT2 aSh aMk aFa aDe aNe aBy aPi aNw aNs aBf n : Nat) (ft rs pd rn rr : Int32) (K X Y : Nat → Nat) (Nm : Nat → Int32) (x : Nat) (sz : Nat) (hx9 : x < n) (hn : n < 24) : Met l yM_extend wsM_extend { frames := 1, cells := 0, slots := 0, locals := 30 } (va_Pc [.ref m0, .int (nI (x)), .int (0)] (dw_pre (dC, dI) vwCl [(m0, .inr (5, [.int (ft), .int (nI (n)), .ref aMd, .ref aO1, .ref aT2, .int (rs), .ref aSh, .ref aMk, .ref aFa, .ref aDe, .ref aNe, .ref aBy, .ref aPi, .int (pd), .ref aNw, .ref aNs, .ref aBf, .int (rn), .int (rr)])), (aMd, .inl (cI, 24, .inl (fun w => nI (db_rk (K w))))), (aO1, .inl (cI, 24, .inl (db_one1 K X Nm))), (aT2, .inl (cI, 24, .inl (db_two2 K Y Nm)))] [(cI, .int), (cZ, .boolean)] sz)) (va_Qi (fun (r : Int32) (u : Unit) => r = nI n) (fun u t => dw_post (dC, dI) vwCl [(m0, .inr (5, [.int (0), .int (nI (n + 1)), .ref aMd, .ref aO1, .ref aT2, .int (rs), .ref aSh, .ref aMk, .ref aFa, .ref aDe, .ref aNe, .ref aBy, .ref aPi, .int (pd), .ref aNw, .ref aNs, .ref aBf, .int (rn), .int (rr)])), (aMd, .inl (cI, 24, .inl (fun w => nI (db_rk ((db_upN K n 11) w))))), (aO1, .inl (cI, 24, .inl (db_one1 (db_upN K n 11) (db_upN X n x) (upd Nm n 0)))), (aT2, .inl (cI, 24, .inl (db_two2 (db_upN K n 11) (db_upN Y n 0) (upd Nm n 0))))] [(cI, .int), (cZ, .boolean)] (va_A [(m0, .inr (5, [.int (ft), .int (nI (n)), .ref aMd, .ref aO1, .ref aT2, .int (rs), .ref aSh, .ref aMk, .ref aFa, .ref aDe, .ref aNe, .ref aBy, .ref aPi, .int (pd), .ref aNw, .ref aNs, .ref aBf, .int (rn), .int (rr)])), (aMd, .inl (cI, 24, .inl (fun w => nI (db_rk (K w))))), (aO1, .inl (cI, 24, .inl (db_one1 K X Nm))), (aT2, .inl (cI, 24, .inl (db_two2 K Y Nm)))] sz) t) (va_A [(m0, .inr (5, [.int (ft), .int (nI (n)), .ref aMd, .ref aO1, .ref aT2, .int (rs), .ref aSh, .ref aMk, .ref aFa, .ref aDe, .ref aNe, .ref aBy, .ref aPi, .int (pd), .ref aNw, .ref aNs, .ref aBf, .int (rn), .int (rr)])), (aMd, .inl (cI, 24, .inl (fun w => nI (db_rk (K w))))), (aO1, .inl (cI, 24, .inl (db_one1 K X Nm))), (aT2, .inl (cI, 24, .inl (db_two2 K Y Nm)))] sz)) 0 0 (va_A [(m0, .inr (5, [.int (ft), .int (nI (n)), .ref aMd, .ref aO1, .ref aT2, .int (rs), .ref aSh, .ref aMk, .ref aFa, .ref aDe, .ref aNe, .ref aBy, .ref aPi, .int (pd), .ref aNw, .ref aNs, .ref aBf, .int (rn), .int (rr)])), (aMd, .inl (cI, 24, .inl (fun w => nI (db_rk (K w))))), (aO1, .inl (cI, 24, .inl (db_one1 K X Nm))), (aT2, .inl (cI, 24, .inl (db_two2 K Y Nm)))] sz) := by
  refine Met.ofW (cc := cM_extend) (maxL := 3) (ret := (some .int)) (by decide) rfl ?_
  intro p e s m args below meth c s₁ B hml hv0
  have hx := B.exec
  have hb := B.bytes
  have hr := B.returns
  have hts := atoms_spec (ws := wsM_extend) B.pre
  have hown : s.vm.findClass RM = some m.cls := findClass_of_methodNamed B.named
  have hlocks := B.notSynchronized
  obtain ⟨rfl, hsz, hG⟩ := dw_enter hv0
  generalize va_A [(m0, .inr (5, [.int (ft), .int (nI (n)), .ref aMd, .ref aO1, .ref aT2, .int (rs), .ref aSh, .ref aMk, .ref aFa, .ref aDe, .ref aNe, .ref aBy, .ref aPi, .int (pd), .ref aNw, .ref aNs, .ref aBf, .int (rn), .int (rr)])), (aMd, .inl (cI, 24, .inl (fun w => nI (db_rk (K w))))), (aO1, .inl (cI, 24, .inl (db_one1 K X Nm))), (aT2, .inl (cI, 24, .inl (db_two2 K Y Nm)))] sz = A at hG ⊢
  have hl := lv_entry ([.ref m0, .int (nI (x)), .int (0)]) (n := 3) (Nat.le_of_ble_eq_true rfl)
  rw [lg_entry_eq]
  generalize (lg_sl ([.ref m0, .int (nI (x)), .int (0)]) ++ List.replicate (3 - (lg_sl ([.ref m0, .int (nI (x)), .int (0)])).length) Slot.unset).toArray = ls at hl ⊢
  have hl : lv_has ls 3 [(0, .ref m0), (1, .int (nI (x))), (2, .int (0))] := hl
  have hw495 := hts _ (List.mem_cons_of_mem _ tw_495)
  refine dw_Q (fun Q hQ => ?_)
  suffices hgo : ∀ (H : Heap) (locs : List Loc), dw_G (dC, dI) vwCl [(cI, .int), (cZ, .boolean)] A s.heap s [(m0, .inr (5, [.int (ft), .int (nI (n)), .ref aMd, .ref aO1, .ref aT2, .int (rs), .ref aSh, .ref aMk, .ref aFa, .ref aDe, .ref aNe, .ref aBy, .ref aPi, .int (pd), .ref aNw, .ref aNs, .ref aBf, .int (rn), .int (rr)])), (aMd, .inl (cI, 24, .inl (fun w => nI (db_rk (K w))))), (aO1, .inl (cI, 24, .inl (db_one1 K X Nm))), (aT2, .inl (cI, 24, .inl (db_two2 K Y Nm)))] H locs → W p l e (headSpec wsM_extend { frames := 1, cells := 0, slots := 0, locals := 30 }).room s m [.ref m0, .int (nI (x)), .int (0)].toArray below meth c H locs 0 0 Q (F0 m 0 ls []) from hgo _ _ hG
  clear hG
  intro H locs hG
  refine lv_aload_n hx hb dM_extend_0 rfl (lv_at hl 0 rfl) ?_
  refine lv_aload_n hx hb dM_extend_1 rfl (lv_at hl 0 rfl) ?_
  refine lv_iload_n hx hb dM_extend_2 rfl (lv_at hl 1 rfl) ?_
  refine dw_calli (wc := [(m0, .inr (5, [.int (ft), .int (nI (n)), .ref aMd, .ref aO1, .ref aT2, .int (rs), .ref aSh, .ref aMk, .ref aFa, .ref aDe, .ref aNe, .ref aBy, .ref aPi, .int (pd), .ref aNw, .ref aNs, .ref aBf, .int (rn), .int (rr)]))]) (wr := [(aMd, .inl (cI, 24, .inl (fun w => nI (db_rk (K w))))), (aO1, .inl (cI, 24, .inl (db_one1 K X Nm))), (aT2, .inl (cI, 24, .inl (db_two2 K Y Nm)))]) hG [0] [1, 2, 3] rfl rfl (by decide) (by decide) (va_runV (As := [.int (nI (x))]) (rest := [.ref m0]) ⟨hx, hb, hml, hown, hts⟩ (rf_isValue l dC dI cI cZ m0 aMd aO1 aT2 aSh aMk aFa aDe aNe aBy aPi aNw aNs aBf ft (nI n) rs pd rn rr (nI (x)) H.size ) (dc_V 1 hts tw_573 tw_575 tp_M_isValue tw_7 tw_576 rfl rfl (by decide +kernel) ⟨Nat.le_of_ble_eq_true rfl, Nat.le_of_ble_eq_true rfl⟩) (dw_preV (ci := 5) hG [0] [0, 1] rfl rfl (by decide) rfl rfl (q0 := 0) rfl) rfl rfl hl.1 rfl (lv_room (Nat.le_of_ble_eq_true rfl)) dM_extend_3 ⟨Nat.le_refl _, Nat.le_refl _⟩) (fun r u H locs hp hG => ?_)
  subst hp
  have hG : dw_G (dC, dI) vwCl [(cI, .int), (cZ, .boolean)] A s.heap s [(aMd, .inl (cI, 24, .inl (fun w => nI (db_rk (K w))))), (aO1, .inl (cI, 24, .inl (db_one1 K X Nm))), (aT2, .inl (cI, 24, .inl (db_two2 K Y Nm))), (m0, .inr (5, [.int (ft), .int (nI (n)), .ref aMd, .ref aO1, .ref aT2, .int (rs), .ref aSh, .ref aMk, .ref aFa, .ref aDe, .ref aNe, .ref aBy, .ref aPi, .int (pd), .ref aNw, .ref aNs, .ref aBf, .int (rn), .int (rr)]))] H locs := hG
  refine lv_topi (nm_r (show (db_isv (nI (x)) (nI n) : Int32) = 1 from (db_isv_y (by omega) (by omega))) ?_)
  refine lv_if_ne (tgt := 13) hx hb dM_extend_6 (by decide) (fun h6 => ?_) (fun h6 => ?_)
  · skip
    replace h6 : ¬ 1 = 0 := fun hq0 => h6 ((nI_eq (a := 1) (b := 0) (by omega) (by omega)).mpr hq0)
    refine lv_aload_n hx hb dM_extend_13 rfl (lv_at hl 0 rfl) ?_
    refine dw_get hx hb hts inMc hown hG 3 1 rfl rfl (by decide) hw495 rfl rfl dM_extend_14 ?_
    refine lv_bipush (v := 24) hx hb dM_extend_17 (by decide) ?_
    refine lv_icmp_ne (tgt := 26) hx hb dM_extend_19 (by decide) (fun h19 => ?_) (fun h19 => ?_)
    · skip
      replace h19 : ¬ n = 24 := fun hq0 => h19 ((nI_eq (a := n) (b := 24) (by omega) (by omega)).mpr hq0)
      refine lv_iconst (v := 0) hx hb dM_extend_26 (by decide) ?_
      refine lv_iload_n hx hb dM_extend_27 rfl (lv_at hl 2 rfl) ?_
      refine lv_if_eq (tgt := 36) hx hb dM_extend_28 (by decide) (fun h28 => ?_) (fun h28 => ?_)
      · skip
        replace h28 := (nI_eq (a := 0) (b := 0) (by omega) (by omega)).mp h28
        refine lv_bipush (v := 9) hx hb dM_extend_36 (by decide) ?_
        refine lv_iload_n hx hb dM_extend_38 rfl (lv_at hl 1 rfl) ?_
        refine lv_iconst (v := 0) hx hb dM_extend_39 (by decide) ?_
        refine dw_calli (wc := [(m0, .inr (5, [.int (ft), .int (nI (n)), .ref aMd, .ref aO1, .ref aT2, .int (rs), .ref aSh, .ref aMk, .ref aFa, .ref aDe, .ref aNe, .ref aBy, .ref aPi, .int (pd), .ref aNw, .ref aNs, .ref aBf, .int (rn), .int (rr)])), (aMd, .inl (cI, 24, .inl (fun w => nI (db_rk (K w))))), (aO1, .inl (cI, 24, .inl (db_one1 K X Nm))), (aT2, .inl (cI, 24, .inl (db_two2 K Y Nm)))]) (wr := []) hG [3, 0, 1, 2] [] rfl rfl (by decide) (by decide) (va_runV (As := [.int (0), .int (9), .int (nI (x)), .int (0)]) (rest := []) ⟨hx, hb, hml, hown, hts⟩ (rf_make0 l dC dI cI cZ m0 aMd aO1 aT2 aSh aMk aFa aDe aNe aBy aPi aNw aNs aBf n ft rs pd rn rr (fun w => nI (db_rk (K w))) (db_one1 K X Nm) (db_two2 K Y Nm) (9) (nI (x)) (0) H.size (by omega)) (dc_V 4 hts tw_561 tw_563 tp_M_make tw_7 tw_564 rfl rfl (by decide +kernel) ⟨Nat.le_of_ble_eq_true rfl, Nat.le_of_ble_eq_true rfl⟩) (dw_preV (ci := 5) hG [3, 0, 1, 2] [0, 1] rfl rfl (by decide) rfl rfl (q0 := 3) rfl) rfl rfl hl.1 rfl (lv_room (Nat.le_of_ble_eq_true rfl)) dM_extend_40 ⟨Nat.le_refl _, Nat.le_refl _⟩) (fun r u H locs hp hG => ?_)
        subst hp
        have hG : dw_G (dC, dI) vwCl [(cI, .int), (cZ, .boolean)] A s.heap s [(m0, .inr (5, [.int (0), .int (nI (n + 1)), .ref aMd, .ref aO1, .ref aT2, .int (rs), .ref aSh, .ref aMk, .ref aFa, .ref aDe, .ref aNe, .ref aBy, .ref aPi, .int (pd), .ref aNw, .ref aNs, .ref aBf, .int (rn), .int (rr)])), (aMd, .inl (cI, 24, .inl (upd (fun w => nI (db_rk (K w))) n (9)))), (aO1, .inl (cI, 24, .inl (upd (db_one1 K X Nm) n (nI (x))))), (aT2, .inl (cI, 24, .inl (upd (db_two2 K Y Nm) n (0))))] H locs := hG
        subst hQ
        exact dw_iret hx hb hr hG (()) (by rw [db_md_up K n 11 (9) rfl, db_o1_up K X Nm n 11 x 0 (nI (x)) rfl, db_t2_up K Y Nm n 11 0 0 (0) rfl]) rfl dM_extend_43 hlocks
      replace h28 : ¬ 0 = 0 := fun hq0 => h28 ((nI_eq (a := 0) (b := 0) (by omega) (by omega)).mpr hq0)
      (exfalso; omega)
    replace h19 := (nI_eq (a := n) (b := 24) (by omega) (by omega)).mp h19
    (exfalso; omega)
  replace h6 := (nI_eq (a := 1) (b := 0) (by omega) (by omega)).mp h6
  (exfalso; omega)

set_option maxRecDepth 100000 in
set_option maxHeartbeats 4000000 in
theorem rf_extend0_1 (l : Launch) (dC : Nat → ClassId) (dI : Nat → Nat → Nat) (cI cZ : ClassId) (m0 aMd aO1 aT2 aSh aMk aFa aDe aNe aBy aPi aNw aNs aBf n : Nat) (ft rs pd rn rr : Int32) (K X Y : Nat → Nat) (Nm : Nat → Int32) (x : Int32) (sz : Nat) (hn : n ≤ 24) (hinv : db_isv x (nI n) = 0) : Met l yM_extend wsM_extend { frames := 1, cells := 0, slots := 0, locals := 30 } (va_Pc [.ref m0, .int (x), .int (0)] (dw_pre (dC, dI) vwCl [(m0, .inr (5, [.int (ft), .int (nI (n)), .ref aMd, .ref aO1, .ref aT2, .int (rs), .ref aSh, .ref aMk, .ref aFa, .ref aDe, .ref aNe, .ref aBy, .ref aPi, .int (pd), .ref aNw, .ref aNs, .ref aBf, .int (rn), .int (rr)])), (aMd, .inl (cI, 24, .inl (fun w => nI (db_rk (K w))))), (aO1, .inl (cI, 24, .inl (db_one1 K X Nm))), (aT2, .inl (cI, 24, .inl (db_two2 K Y Nm)))] [(cI, .int), (cZ, .boolean)] sz)) (va_Qi (fun (r : Int32) (u : Unit) => r = 0) (fun u t => dw_post (dC, dI) vwCl [(m0, .inr (5, [.int (1), .int (nI (n)), .ref aMd, .ref aO1, .ref aT2, .int (rs), .ref aSh, .ref aMk, .ref aFa, .ref aDe, .ref aNe, .ref aBy, .ref aPi, .int (pd), .ref aNw, .ref aNs, .ref aBf, .int (rn), .int (rr)])), (aMd, .inl (cI, 24, .inl (fun w => nI (db_rk (K w))))), (aO1, .inl (cI, 24, .inl (db_one1 K X Nm))), (aT2, .inl (cI, 24, .inl (db_two2 K Y Nm)))] [(cI, .int), (cZ, .boolean)] (va_A [(m0, .inr (5, [.int (ft), .int (nI (n)), .ref aMd, .ref aO1, .ref aT2, .int (rs), .ref aSh, .ref aMk, .ref aFa, .ref aDe, .ref aNe, .ref aBy, .ref aPi, .int (pd), .ref aNw, .ref aNs, .ref aBf, .int (rn), .int (rr)])), (aMd, .inl (cI, 24, .inl (fun w => nI (db_rk (K w))))), (aO1, .inl (cI, 24, .inl (db_one1 K X Nm))), (aT2, .inl (cI, 24, .inl (db_two2 K Y Nm)))] sz) t) (va_A [(m0, .inr (5, [.int (ft), .int (nI (n)), .ref aMd, .ref aO1, .ref aT2, .int (rs), .ref aSh, .ref aMk, .ref aFa, .ref aDe, .ref aNe, .ref aBy, .ref aPi, .int (pd), .ref aNw, .ref aNs, .ref aBf, .int (rn), .int (rr)])), (aMd, .inl (cI, 24, .inl (fun w => nI (db_rk (K w))))), (aO1, .inl (cI, 24, .inl (db_one1 K X Nm))), (aT2, .inl (cI, 24, .inl (db_two2 K Y Nm)))] sz)) 0 0 (va_A [(m0, .inr (5, [.int (ft), .int (nI (n)), .ref aMd, .ref aO1, .ref aT2, .int (rs), .ref aSh, .ref aMk, .ref aFa, .ref aDe, .ref aNe, .ref aBy, .ref aPi, .int (pd), .ref aNw, .ref aNs, .ref aBf, .int (rn), .int (rr)])), (aMd, .inl (cI, 24, .inl (fun w => nI (db_rk (K w))))), (aO1, .inl (cI, 24, .inl (db_one1 K X Nm))), (aT2, .inl (cI, 24, .inl (db_two2 K Y Nm)))] sz) := by
  refine Met.ofW (cc := cM_extend) (maxL := 3) (ret := (some .int)) (by decide) rfl ?_
  intro p e s m args below meth c s₁ B hml hv0
  have hx := B.exec
  have hb := B.bytes
  have hr := B.returns
  have hts := atoms_spec (ws := wsM_extend) B.pre
  have hown : s.vm.findClass RM = some m.cls := findClass_of_methodNamed B.named
  have hlocks := B.notSynchronized
  obtain ⟨rfl, hsz, hG⟩ := dw_enter hv0
  generalize va_A [(m0, .inr (5, [.int (ft), .int (nI (n)), .ref aMd, .ref aO1, .ref aT2, .int (rs), .ref aSh, .ref aMk, .ref aFa, .ref aDe, .ref aNe, .ref aBy, .ref aPi, .int (pd), .ref aNw, .ref aNs, .ref aBf, .int (rn), .int (rr)])), (aMd, .inl (cI, 24, .inl (fun w => nI (db_rk (K w))))), (aO1, .inl (cI, 24, .inl (db_one1 K X Nm))), (aT2, .inl (cI, 24, .inl (db_two2 K Y Nm)))] sz = A at hG ⊢
  have hl := lv_entry ([.ref m0, .int (x), .int (0)]) (n := 3) (Nat.le_of_ble_eq_true rfl)
  rw [lg_entry_eq]
  generalize (lg_sl ([.ref m0, .int (x), .int (0)]) ++ List.replicate (3 - (lg_sl ([.ref m0, .int (x), .int (0)])).length) Slot.unset).toArray = ls at hl ⊢
  have hl : lv_has ls 3 [(0, .ref m0), (1, .int (x)), (2, .int (0))] := hl
  refine dw_Q (fun Q hQ => ?_)
  suffices hgo : ∀ (H : Heap) (locs : List Loc), dw_G (dC, dI) vwCl [(cI, .int), (cZ, .boolean)] A s.heap s [(m0, .inr (5, [.int (ft), .int (nI (n)), .ref aMd, .ref aO1, .ref aT2, .int (rs), .ref aSh, .ref aMk, .ref aFa, .ref aDe, .ref aNe, .ref aBy, .ref aPi, .int (pd), .ref aNw, .ref aNs, .ref aBf, .int (rn), .int (rr)])), (aMd, .inl (cI, 24, .inl (fun w => nI (db_rk (K w))))), (aO1, .inl (cI, 24, .inl (db_one1 K X Nm))), (aT2, .inl (cI, 24, .inl (db_two2 K Y Nm)))] H locs → W p l e (headSpec wsM_extend { frames := 1, cells := 0, slots := 0, locals := 30 }).room s m [.ref m0, .int (x), .int (0)].toArray below meth c H locs 0 0 Q (F0 m 0 ls []) from hgo _ _ hG
  clear hG
  intro H locs hG
  refine lv_aload_n hx hb dM_extend_0 rfl (lv_at hl 0 rfl) ?_
  refine lv_aload_n hx hb dM_extend_1 rfl (lv_at hl 0 rfl) ?_
  refine lv_iload_n hx hb dM_extend_2 rfl (lv_at hl 1 rfl) ?_
  refine dw_calli (wc := [(m0, .inr (5, [.int (ft), .int (nI (n)), .ref aMd, .ref aO1, .ref aT2, .int (rs), .ref aSh, .ref aMk, .ref aFa, .ref aDe, .ref aNe, .ref aBy, .ref aPi, .int (pd), .ref aNw, .ref aNs, .ref aBf, .int (rn), .int (rr)]))]) (wr := [(aMd, .inl (cI, 24, .inl (fun w => nI (db_rk (K w))))), (aO1, .inl (cI, 24, .inl (db_one1 K X Nm))), (aT2, .inl (cI, 24, .inl (db_two2 K Y Nm)))]) hG [0] [1, 2, 3] rfl rfl (by decide) (by decide) (va_runV (As := [.int (x)]) (rest := [.ref m0]) ⟨hx, hb, hml, hown, hts⟩ (rf_isValue l dC dI cI cZ m0 aMd aO1 aT2 aSh aMk aFa aDe aNe aBy aPi aNw aNs aBf ft (nI n) rs pd rn rr (x) H.size ) (dc_V 1 hts tw_573 tw_575 tp_M_isValue tw_7 tw_576 rfl rfl (by decide +kernel) ⟨Nat.le_of_ble_eq_true rfl, Nat.le_of_ble_eq_true rfl⟩) (dw_preV (ci := 5) hG [0] [0, 1] rfl rfl (by decide) rfl rfl (q0 := 0) rfl) rfl rfl hl.1 rfl (lv_room (Nat.le_of_ble_eq_true rfl)) dM_extend_3 ⟨Nat.le_refl _, Nat.le_refl _⟩) (fun r u H locs hp hG => ?_)
  subst hp
  have hG : dw_G (dC, dI) vwCl [(cI, .int), (cZ, .boolean)] A s.heap s [(aMd, .inl (cI, 24, .inl (fun w => nI (db_rk (K w))))), (aO1, .inl (cI, 24, .inl (db_one1 K X Nm))), (aT2, .inl (cI, 24, .inl (db_two2 K Y Nm))), (m0, .inr (5, [.int (ft), .int (nI (n)), .ref aMd, .ref aO1, .ref aT2, .int (rs), .ref aSh, .ref aMk, .ref aFa, .ref aDe, .ref aNe, .ref aBy, .ref aPi, .int (pd), .ref aNw, .ref aNs, .ref aBf, .int (rn), .int (rr)]))] H locs := hG
  refine lv_topi (nm_r (show (db_isv (x) (nI n) : Int32) = 0 from hinv) ?_)
  refine lv_if_ne (tgt := 13) hx hb dM_extend_6 (by decide) (fun h6 => ?_) (fun h6 => ?_)
  · skip
    replace h6 : ¬ 0 = 0 := fun hq0 => h6 ((nI_eq (a := 0) (b := 0) (by omega) (by omega)).mpr hq0)
    (exfalso; omega)
  replace h6 := (nI_eq (a := 0) (b := 0) (by omega) (by omega)).mp h6
  refine lv_iconst (v := 1) hx hb dM_extend_9 (by decide) ?_
  refine lv_goto (tgt := 27) hx hb dM_extend_10 (by decide) ?_
  refine lv_iload_n hx hb dM_extend_27 rfl (lv_at hl 2 rfl) ?_
  refine lv_if_eq (tgt := 36) hx hb dM_extend_28 (by decide) (fun h28 => ?_) (fun h28 => ?_)
  · skip
    replace h28 := (nI_eq (a := 0) (b := 0) (by omega) (by omega)).mp h28
    refine lv_bipush (v := 9) hx hb dM_extend_36 (by decide) ?_
    refine lv_iload_n hx hb dM_extend_38 rfl (lv_at hl 1 rfl) ?_
    refine lv_iconst (v := 0) hx hb dM_extend_39 (by decide) ?_
    refine dw_calli (wc := [(m0, .inr (5, [.int (ft), .int (nI (n)), .ref aMd, .ref aO1, .ref aT2, .int (rs), .ref aSh, .ref aMk, .ref aFa, .ref aDe, .ref aNe, .ref aBy, .ref aPi, .int (pd), .ref aNw, .ref aNs, .ref aBf, .int (rn), .int (rr)])), (aMd, .inl (cI, 24, .inl (fun w => nI (db_rk (K w))))), (aO1, .inl (cI, 24, .inl (db_one1 K X Nm))), (aT2, .inl (cI, 24, .inl (db_two2 K Y Nm)))]) (wr := []) hG [3, 0, 1, 2] [] rfl rfl (by decide) (by decide) (va_runV (As := [.int (1), .int (9), .int (x), .int (0)]) (rest := []) ⟨hx, hb, hml, hown, hts⟩ (rf_makeW1 l dC dI cI cZ m0 aMd aO1 aT2 aSh aMk aFa aDe aNe aBy aPi aNw aNs aBf n ft rs pd rn rr (fun w => nI (db_rk (K w))) (db_one1 K X Nm) (db_two2 K Y Nm) (9) (x) (0) H.size ) (dc_V 4 hts tw_561 tw_563 tp_M_make tw_7 tw_564 rfl rfl (by decide +kernel) ⟨Nat.le_of_ble_eq_true rfl, Nat.le_of_ble_eq_true rfl⟩) (dw_preV (ci := 5) hG [3, 0, 1, 2] [0, 1] rfl rfl (by decide) rfl rfl (q0 := 3) rfl) rfl rfl hl.1 rfl (lv_room (Nat.le_of_ble_eq_true rfl)) dM_extend_40 ⟨Nat.le_refl _, Nat.le_refl _⟩) (fun r u H locs hp hG => ?_)
    subst hp
    have hG : dw_G (dC, dI) vwCl [(cI, .int), (cZ, .boolean)] A s.heap s [(m0, .inr (5, [.int (1), .int (nI (n)), .ref aMd, .ref aO1, .ref aT2, .int (rs), .ref aSh, .ref aMk, .ref aFa, .ref aDe, .ref aNe, .ref aBy, .ref aPi, .int (pd), .ref aNw, .ref aNs, .ref aBf, .int (rn), .int (rr)])), (aMd, .inl (cI, 24, .inl (fun w => nI (db_rk (K w))))), (aO1, .inl (cI, 24, .inl (db_one1 K X Nm))), (aT2, .inl (cI, 24, .inl (db_two2 K Y Nm)))] H locs := hG
    subst hQ
    exact dw_iret hx hb hr hG (()) rfl rfl dM_extend_43 hlocks
  replace h28 : ¬ 0 = 0 := fun hq0 => h28 ((nI_eq (a := 0) (b := 0) (by omega) (by omega)).mpr hq0)
  (exfalso; omega)

set_option maxRecDepth 100000 in
set_option maxHeartbeats 4000000 in
theorem rf_extend0_2 (l : Launch) (dC : Nat → ClassId) (dI : Nat → Nat → Nat) (cI cZ : ClassId) (m0 aMd aO1 aT2 aSh aMk aFa aDe aNe aBy aPi aNw aNs aBf n : Nat) (ft rs pd rn rr : Int32) (K X Y : Nat → Nat) (Nm : Nat → Int32) (x : Nat) (sz : Nat) (hx9 : x < n) (hn : n = 24) : Met l yM_extend wsM_extend { frames := 1, cells := 0, slots := 0, locals := 30 } (va_Pc [.ref m0, .int (nI (x)), .int (0)] (dw_pre (dC, dI) vwCl [(m0, .inr (5, [.int (ft), .int (nI (n)), .ref aMd, .ref aO1, .ref aT2, .int (rs), .ref aSh, .ref aMk, .ref aFa, .ref aDe, .ref aNe, .ref aBy, .ref aPi, .int (pd), .ref aNw, .ref aNs, .ref aBf, .int (rn), .int (rr)])), (aMd, .inl (cI, 24, .inl (fun w => nI (db_rk (K w))))), (aO1, .inl (cI, 24, .inl (db_one1 K X Nm))), (aT2, .inl (cI, 24, .inl (db_two2 K Y Nm)))] [(cI, .int), (cZ, .boolean)] sz)) (va_Qi (fun (r : Int32) (u : Unit) => r = 0) (fun u t => dw_post (dC, dI) vwCl [(m0, .inr (5, [.int (2), .int (nI (n)), .ref aMd, .ref aO1, .ref aT2, .int (rs), .ref aSh, .ref aMk, .ref aFa, .ref aDe, .ref aNe, .ref aBy, .ref aPi, .int (pd), .ref aNw, .ref aNs, .ref aBf, .int (rn), .int (rr)])), (aMd, .inl (cI, 24, .inl (fun w => nI (db_rk (K w))))), (aO1, .inl (cI, 24, .inl (db_one1 K X Nm))), (aT2, .inl (cI, 24, .inl (db_two2 K Y Nm)))] [(cI, .int), (cZ, .boolean)] (va_A [(m0, .inr (5, [.int (ft), .int (nI (n)), .ref aMd, .ref aO1, .ref aT2, .int (rs), .ref aSh, .ref aMk, .ref aFa, .ref aDe, .ref aNe, .ref aBy, .ref aPi, .int (pd), .ref aNw, .ref aNs, .ref aBf, .int (rn), .int (rr)])), (aMd, .inl (cI, 24, .inl (fun w => nI (db_rk (K w))))), (aO1, .inl (cI, 24, .inl (db_one1 K X Nm))), (aT2, .inl (cI, 24, .inl (db_two2 K Y Nm)))] sz) t) (va_A [(m0, .inr (5, [.int (ft), .int (nI (n)), .ref aMd, .ref aO1, .ref aT2, .int (rs), .ref aSh, .ref aMk, .ref aFa, .ref aDe, .ref aNe, .ref aBy, .ref aPi, .int (pd), .ref aNw, .ref aNs, .ref aBf, .int (rn), .int (rr)])), (aMd, .inl (cI, 24, .inl (fun w => nI (db_rk (K w))))), (aO1, .inl (cI, 24, .inl (db_one1 K X Nm))), (aT2, .inl (cI, 24, .inl (db_two2 K Y Nm)))] sz)) 0 0 (va_A [(m0, .inr (5, [.int (ft), .int (nI (n)), .ref aMd, .ref aO1, .ref aT2, .int (rs), .ref aSh, .ref aMk, .ref aFa, .ref aDe, .ref aNe, .ref aBy, .ref aPi, .int (pd), .ref aNw, .ref aNs, .ref aBf, .int (rn), .int (rr)])), (aMd, .inl (cI, 24, .inl (fun w => nI (db_rk (K w))))), (aO1, .inl (cI, 24, .inl (db_one1 K X Nm))), (aT2, .inl (cI, 24, .inl (db_two2 K Y Nm)))] sz) := by
  refine Met.ofW (cc := cM_extend) (maxL := 3) (ret := (some .int)) (by decide) rfl ?_
  intro p e s m args below meth c s₁ B hml hv0
  have hx := B.exec
  have hb := B.bytes
  have hr := B.returns
  have hts := atoms_spec (ws := wsM_extend) B.pre
  have hown : s.vm.findClass RM = some m.cls := findClass_of_methodNamed B.named
  have hlocks := B.notSynchronized
  obtain ⟨rfl, hsz, hG⟩ := dw_enter hv0
  generalize va_A [(m0, .inr (5, [.int (ft), .int (nI (n)), .ref aMd, .ref aO1, .ref aT2, .int (rs), .ref aSh, .ref aMk, .ref aFa, .ref aDe, .ref aNe, .ref aBy, .ref aPi, .int (pd), .ref aNw, .ref aNs, .ref aBf, .int (rn), .int (rr)])), (aMd, .inl (cI, 24, .inl (fun w => nI (db_rk (K w))))), (aO1, .inl (cI, 24, .inl (db_one1 K X Nm))), (aT2, .inl (cI, 24, .inl (db_two2 K Y Nm)))] sz = A at hG ⊢
  have hl := lv_entry ([.ref m0, .int (nI (x)), .int (0)]) (n := 3) (Nat.le_of_ble_eq_true rfl)
  rw [lg_entry_eq]
  generalize (lg_sl ([.ref m0, .int (nI (x)), .int (0)]) ++ List.replicate (3 - (lg_sl ([.ref m0, .int (nI (x)), .int (0)])).length) Slot.unset).toArray = ls at hl ⊢
  have hl : lv_has ls 3 [(0, .ref m0), (1, .int (nI (x))), (2, .int (0))] := hl
  have hw495 := hts _ (List.mem_cons_of_mem _ tw_495)
  refine dw_Q (fun Q hQ => ?_)
  suffices hgo : ∀ (H : Heap) (locs : List Loc), dw_G (dC, dI) vwCl [(cI, .int), (cZ, .boolean)] A s.heap s [(m0, .inr (5, [.int (ft), .int (nI (n)), .ref aMd, .ref aO1, .ref aT2, .int (rs), .ref aSh, .ref aMk, .ref aFa, .ref aDe, .ref aNe, .ref aBy, .ref aPi, .int (pd), .ref aNw, .ref aNs, .ref aBf, .int (rn), .int (rr)])), (aMd, .inl (cI, 24, .inl (fun w => nI (db_rk (K w))))), (aO1, .inl (cI, 24, .inl (db_one1 K X Nm))), (aT2, .inl (cI, 24, .inl (db_two2 K Y Nm)))] H locs → W p l e (headSpec wsM_extend { frames := 1, cells := 0, slots := 0, locals := 30 }).room s m [.ref m0, .int (nI (x)), .int (0)].toArray below meth c H locs 0 0 Q (F0 m 0 ls []) from hgo _ _ hG
  clear hG
  intro H locs hG
  refine lv_aload_n hx hb dM_extend_0 rfl (lv_at hl 0 rfl) ?_
  refine lv_aload_n hx hb dM_extend_1 rfl (lv_at hl 0 rfl) ?_
  refine lv_iload_n hx hb dM_extend_2 rfl (lv_at hl 1 rfl) ?_
  refine dw_calli (wc := [(m0, .inr (5, [.int (ft), .int (nI (n)), .ref aMd, .ref aO1, .ref aT2, .int (rs), .ref aSh, .ref aMk, .ref aFa, .ref aDe, .ref aNe, .ref aBy, .ref aPi, .int (pd), .ref aNw, .ref aNs, .ref aBf, .int (rn), .int (rr)]))]) (wr := [(aMd, .inl (cI, 24, .inl (fun w => nI (db_rk (K w))))), (aO1, .inl (cI, 24, .inl (db_one1 K X Nm))), (aT2, .inl (cI, 24, .inl (db_two2 K Y Nm)))]) hG [0] [1, 2, 3] rfl rfl (by decide) (by decide) (va_runV (As := [.int (nI (x))]) (rest := [.ref m0]) ⟨hx, hb, hml, hown, hts⟩ (rf_isValue l dC dI cI cZ m0 aMd aO1 aT2 aSh aMk aFa aDe aNe aBy aPi aNw aNs aBf ft (nI n) rs pd rn rr (nI (x)) H.size ) (dc_V 1 hts tw_573 tw_575 tp_M_isValue tw_7 tw_576 rfl rfl (by decide +kernel) ⟨Nat.le_of_ble_eq_true rfl, Nat.le_of_ble_eq_true rfl⟩) (dw_preV (ci := 5) hG [0] [0, 1] rfl rfl (by decide) rfl rfl (q0 := 0) rfl) rfl rfl hl.1 rfl (lv_room (Nat.le_of_ble_eq_true rfl)) dM_extend_3 ⟨Nat.le_refl _, Nat.le_refl _⟩) (fun r u H locs hp hG => ?_)
  subst hp
  have hG : dw_G (dC, dI) vwCl [(cI, .int), (cZ, .boolean)] A s.heap s [(aMd, .inl (cI, 24, .inl (fun w => nI (db_rk (K w))))), (aO1, .inl (cI, 24, .inl (db_one1 K X Nm))), (aT2, .inl (cI, 24, .inl (db_two2 K Y Nm))), (m0, .inr (5, [.int (ft), .int (nI (n)), .ref aMd, .ref aO1, .ref aT2, .int (rs), .ref aSh, .ref aMk, .ref aFa, .ref aDe, .ref aNe, .ref aBy, .ref aPi, .int (pd), .ref aNw, .ref aNs, .ref aBf, .int (rn), .int (rr)]))] H locs := hG
  refine lv_topi (nm_r (show (db_isv (nI (x)) (nI n) : Int32) = 1 from (db_isv_y (by omega) (by omega))) ?_)
  refine lv_if_ne (tgt := 13) hx hb dM_extend_6 (by decide) (fun h6 => ?_) (fun h6 => ?_)
  · skip
    replace h6 : ¬ 1 = 0 := fun hq0 => h6 ((nI_eq (a := 1) (b := 0) (by omega) (by omega)).mpr hq0)
    refine lv_aload_n hx hb dM_extend_13 rfl (lv_at hl 0 rfl) ?_
    refine dw_get hx hb hts inMc hown hG 3 1 rfl rfl (by decide) hw495 rfl rfl dM_extend_14 ?_
    refine lv_bipush (v := 24) hx hb dM_extend_17 (by decide) ?_
    refine lv_icmp_ne (tgt := 26) hx hb dM_extend_19 (by decide) (fun h19 => ?_) (fun h19 => ?_)
    · skip
      replace h19 : ¬ n = 24 := fun hq0 => h19 ((nI_eq (a := n) (b := 24) (by omega) (by omega)).mpr hq0)
      (exfalso; omega)
    replace h19 := (nI_eq (a := n) (b := 24) (by omega) (by omega)).mp h19
    refine lv_iconst (v := 2) hx hb dM_extend_22 (by decide) ?_
    refine lv_goto (tgt := 27) hx hb dM_extend_23 (by decide) ?_
    refine lv_iload_n hx hb dM_extend_27 rfl (lv_at hl 2 rfl) ?_
    refine lv_if_eq (tgt := 36) hx hb dM_extend_28 (by decide) (fun h28 => ?_) (fun h28 => ?_)
    · skip
      replace h28 := (nI_eq (a := 0) (b := 0) (by omega) (by omega)).mp h28
      refine lv_bipush (v := 9) hx hb dM_extend_36 (by decide) ?_
      refine lv_iload_n hx hb dM_extend_38 rfl (lv_at hl 1 rfl) ?_
      refine lv_iconst (v := 0) hx hb dM_extend_39 (by decide) ?_
      refine dw_calli (wc := [(m0, .inr (5, [.int (ft), .int (nI (n)), .ref aMd, .ref aO1, .ref aT2, .int (rs), .ref aSh, .ref aMk, .ref aFa, .ref aDe, .ref aNe, .ref aBy, .ref aPi, .int (pd), .ref aNw, .ref aNs, .ref aBf, .int (rn), .int (rr)])), (aMd, .inl (cI, 24, .inl (fun w => nI (db_rk (K w))))), (aO1, .inl (cI, 24, .inl (db_one1 K X Nm))), (aT2, .inl (cI, 24, .inl (db_two2 K Y Nm)))]) (wr := []) hG [3, 0, 1, 2] [] rfl rfl (by decide) (by decide) (va_runV (As := [.int (2), .int (9), .int (nI (x)), .int (0)]) (rest := []) ⟨hx, hb, hml, hown, hts⟩ (rf_makeW2 l dC dI cI cZ m0 aMd aO1 aT2 aSh aMk aFa aDe aNe aBy aPi aNw aNs aBf n ft rs pd rn rr (fun w => nI (db_rk (K w))) (db_one1 K X Nm) (db_two2 K Y Nm) (9) (nI (x)) (0) H.size ) (dc_V 4 hts tw_561 tw_563 tp_M_make tw_7 tw_564 rfl rfl (by decide +kernel) ⟨Nat.le_of_ble_eq_true rfl, Nat.le_of_ble_eq_true rfl⟩) (dw_preV (ci := 5) hG [3, 0, 1, 2] [0, 1] rfl rfl (by decide) rfl rfl (q0 := 3) rfl) rfl rfl hl.1 rfl (lv_room (Nat.le_of_ble_eq_true rfl)) dM_extend_40 ⟨Nat.le_refl _, Nat.le_refl _⟩) (fun r u H locs hp hG => ?_)
      subst hp
      have hG : dw_G (dC, dI) vwCl [(cI, .int), (cZ, .boolean)] A s.heap s [(m0, .inr (5, [.int (2), .int (nI (n)), .ref aMd, .ref aO1, .ref aT2, .int (rs), .ref aSh, .ref aMk, .ref aFa, .ref aDe, .ref aNe, .ref aBy, .ref aPi, .int (pd), .ref aNw, .ref aNs, .ref aBf, .int (rn), .int (rr)])), (aMd, .inl (cI, 24, .inl (fun w => nI (db_rk (K w))))), (aO1, .inl (cI, 24, .inl (db_one1 K X Nm))), (aT2, .inl (cI, 24, .inl (db_two2 K Y Nm)))] H locs := hG
      subst hQ
      exact dw_iret hx hb hr hG (()) rfl rfl dM_extend_43 hlocks
    replace h28 : ¬ 0 = 0 := fun hq0 => h28 ((nI_eq (a := 0) (b := 0) (by omega) (by omega)).mpr hq0)
    (exfalso; omega)
  replace h6 := (nI_eq (a := 1) (b := 0) (by omega) (by omega)).mp h6
  (exfalso; omega)

set_option maxRecDepth 100000 in
set_option maxHeartbeats 4000000 in
theorem rf_extend1_0 (l : Launch) (dC : Nat → ClassId) (dI : Nat → Nat → Nat) (cI cZ : ClassId) (m0 aMd aO1 aT2 aSh aMk aFa aDe aNe aBy aPi aNw aNs aBf n : Nat) (ft rs pd rn rr : Int32) (K X Y : Nat → Nat) (Nm : Nat → Int32) (x : Nat) (sz : Nat) (hx9 : x < n) (hn : n < 24) : Met l yM_extend wsM_extend { frames := 1, cells := 0, slots := 0, locals := 30 } (va_Pc [.ref m0, .int (nI (x)), .int (1)] (dw_pre (dC, dI) vwCl [(m0, .inr (5, [.int (ft), .int (nI (n)), .ref aMd, .ref aO1, .ref aT2, .int (rs), .ref aSh, .ref aMk, .ref aFa, .ref aDe, .ref aNe, .ref aBy, .ref aPi, .int (pd), .ref aNw, .ref aNs, .ref aBf, .int (rn), .int (rr)])), (aMd, .inl (cI, 24, .inl (fun w => nI (db_rk (K w))))), (aO1, .inl (cI, 24, .inl (db_one1 K X Nm))), (aT2, .inl (cI, 24, .inl (db_two2 K Y Nm)))] [(cI, .int), (cZ, .boolean)] sz)) (va_Qi (fun (r : Int32) (u : Unit) => r = nI n) (fun u t => dw_post (dC, dI) vwCl [(m0, .inr (5, [.int (0), .int (nI (n + 1)), .ref aMd, .ref aO1, .ref aT2, .int (rs), .ref aSh, .ref aMk, .ref aFa, .ref aDe, .ref aNe, .ref aBy, .ref aPi, .int (pd), .ref aNw, .ref aNs, .ref aBf, .int (rn), .int (rr)])), (aMd, .inl (cI, 24, .inl (fun w => nI (db_rk ((db_upN K n 12) w))))), (aO1, .inl (cI, 24, .inl (db_one1 (db_upN K n 12) (db_upN X n x) (upd Nm n 0)))), (aT2, .inl (cI, 24, .inl (db_two2 (db_upN K n 12) (db_upN Y n 0) (upd Nm n 0))))] [(cI, .int), (cZ, .boolean)] (va_A [(m0, .inr (5, [.int (ft), .int (nI (n)), .ref aMd, .ref aO1, .ref aT2, .int (rs), .ref aSh, .ref aMk, .ref aFa, .ref aDe, .ref aNe, .ref aBy, .ref aPi, .int (pd), .ref aNw, .ref aNs, .ref aBf, .int (rn), .int (rr)])), (aMd, .inl (cI, 24, .inl (fun w => nI (db_rk (K w))))), (aO1, .inl (cI, 24, .inl (db_one1 K X Nm))), (aT2, .inl (cI, 24, .inl (db_two2 K Y Nm)))] sz) t) (va_A [(m0, .inr (5, [.int (ft), .int (nI (n)), .ref aMd, .ref aO1, .ref aT2, .int (rs), .ref aSh, .ref aMk, .ref aFa, .ref aDe, .ref aNe, .ref aBy, .ref aPi, .int (pd), .ref aNw, .ref aNs, .ref aBf, .int (rn), .int (rr)])), (aMd, .inl (cI, 24, .inl (fun w => nI (db_rk (K w))))), (aO1, .inl (cI, 24, .inl (db_one1 K X Nm))), (aT2, .inl (cI, 24, .inl (db_two2 K Y Nm)))] sz)) 0 0 (va_A [(m0, .inr (5, [.int (ft), .int (nI (n)), .ref aMd, .ref aO1, .ref aT2, .int (rs), .ref aSh, .ref aMk, .ref aFa, .ref aDe, .ref aNe, .ref aBy, .ref aPi, .int (pd), .ref aNw, .ref aNs, .ref aBf, .int (rn), .int (rr)])), (aMd, .inl (cI, 24, .inl (fun w => nI (db_rk (K w))))), (aO1, .inl (cI, 24, .inl (db_one1 K X Nm))), (aT2, .inl (cI, 24, .inl (db_two2 K Y Nm)))] sz) := by
  refine Met.ofW (cc := cM_extend) (maxL := 3) (ret := (some .int)) (by decide) rfl ?_
  intro p e s m args below meth c s₁ B hml hv0
  have hx := B.exec
  have hb := B.bytes
  have hr := B.returns
  have hts := atoms_spec (ws := wsM_extend) B.pre
  have hown : s.vm.findClass RM = some m.cls := findClass_of_methodNamed B.named
  have hlocks := B.notSynchronized
  obtain ⟨rfl, hsz, hG⟩ := dw_enter hv0
  generalize va_A [(m0, .inr (5, [.int (ft), .int (nI (n)), .ref aMd, .ref aO1, .ref aT2, .int (rs), .ref aSh, .ref aMk, .ref aFa, .ref aDe, .ref aNe, .ref aBy, .ref aPi, .int (pd), .ref aNw, .ref aNs, .ref aBf, .int (rn), .int (rr)])), (aMd, .inl (cI, 24, .inl (fun w => nI (db_rk (K w))))), (aO1, .inl (cI, 24, .inl (db_one1 K X Nm))), (aT2, .inl (cI, 24, .inl (db_two2 K Y Nm)))] sz = A at hG ⊢
  have hl := lv_entry ([.ref m0, .int (nI (x)), .int (1)]) (n := 3) (Nat.le_of_ble_eq_true rfl)
  rw [lg_entry_eq]
  generalize (lg_sl ([.ref m0, .int (nI (x)), .int (1)]) ++ List.replicate (3 - (lg_sl ([.ref m0, .int (nI (x)), .int (1)])).length) Slot.unset).toArray = ls at hl ⊢
  have hl : lv_has ls 3 [(0, .ref m0), (1, .int (nI (x))), (2, .int (1))] := hl
  have hw495 := hts _ (List.mem_cons_of_mem _ tw_495)
  refine dw_Q (fun Q hQ => ?_)
  suffices hgo : ∀ (H : Heap) (locs : List Loc), dw_G (dC, dI) vwCl [(cI, .int), (cZ, .boolean)] A s.heap s [(m0, .inr (5, [.int (ft), .int (nI (n)), .ref aMd, .ref aO1, .ref aT2, .int (rs), .ref aSh, .ref aMk, .ref aFa, .ref aDe, .ref aNe, .ref aBy, .ref aPi, .int (pd), .ref aNw, .ref aNs, .ref aBf, .int (rn), .int (rr)])), (aMd, .inl (cI, 24, .inl (fun w => nI (db_rk (K w))))), (aO1, .inl (cI, 24, .inl (db_one1 K X Nm))), (aT2, .inl (cI, 24, .inl (db_two2 K Y Nm)))] H locs → W p l e (headSpec wsM_extend { frames := 1, cells := 0, slots := 0, locals := 30 }).room s m [.ref m0, .int (nI (x)), .int (1)].toArray below meth c H locs 0 0 Q (F0 m 0 ls []) from hgo _ _ hG
  clear hG
  intro H locs hG
  refine lv_aload_n hx hb dM_extend_0 rfl (lv_at hl 0 rfl) ?_
  refine lv_aload_n hx hb dM_extend_1 rfl (lv_at hl 0 rfl) ?_
  refine lv_iload_n hx hb dM_extend_2 rfl (lv_at hl 1 rfl) ?_
  refine dw_calli (wc := [(m0, .inr (5, [.int (ft), .int (nI (n)), .ref aMd, .ref aO1, .ref aT2, .int (rs), .ref aSh, .ref aMk, .ref aFa, .ref aDe, .ref aNe, .ref aBy, .ref aPi, .int (pd), .ref aNw, .ref aNs, .ref aBf, .int (rn), .int (rr)]))]) (wr := [(aMd, .inl (cI, 24, .inl (fun w => nI (db_rk (K w))))), (aO1, .inl (cI, 24, .inl (db_one1 K X Nm))), (aT2, .inl (cI, 24, .inl (db_two2 K Y Nm)))]) hG [0] [1, 2, 3] rfl rfl (by decide) (by decide) (va_runV (As := [.int (nI (x))]) (rest := [.ref m0]) ⟨hx, hb, hml, hown, hts⟩ (rf_isValue l dC dI cI cZ m0 aMd aO1 aT2 aSh aMk aFa aDe aNe aBy aPi aNw aNs aBf ft (nI n) rs pd rn rr (nI (x)) H.size ) (dc_V 1 hts tw_573 tw_575 tp_M_isValue tw_7 tw_576 rfl rfl (by decide +kernel) ⟨Nat.le_of_ble_eq_true rfl, Nat.le_of_ble_eq_true rfl⟩) (dw_preV (ci := 5) hG [0] [0, 1] rfl rfl (by decide) rfl rfl (q0 := 0) rfl) rfl rfl hl.1 rfl (lv_room (Nat.le_of_ble_eq_true rfl)) dM_extend_3 ⟨Nat.le_refl _, Nat.le_refl _⟩) (fun r u H locs hp hG => ?_)
  subst hp
  have hG : dw_G (dC, dI) vwCl [(cI, .int), (cZ, .boolean)] A s.heap s [(aMd, .inl (cI, 24, .inl (fun w => nI (db_rk (K w))))), (aO1, .inl (cI, 24, .inl (db_one1 K X Nm))), (aT2, .inl (cI, 24, .inl (db_two2 K Y Nm))), (m0, .inr (5, [.int (ft), .int (nI (n)), .ref aMd, .ref aO1, .ref aT2, .int (rs), .ref aSh, .ref aMk, .ref aFa, .ref aDe, .ref aNe, .ref aBy, .ref aPi, .int (pd), .ref aNw, .ref aNs, .ref aBf, .int (rn), .int (rr)]))] H locs := hG
  refine lv_topi (nm_r (show (db_isv (nI (x)) (nI n) : Int32) = 1 from (db_isv_y (by omega) (by omega))) ?_)
  refine lv_if_ne (tgt := 13) hx hb dM_extend_6 (by decide) (fun h6 => ?_) (fun h6 => ?_)
  · skip
    replace h6 : ¬ 1 = 0 := fun hq0 => h6 ((nI_eq (a := 1) (b := 0) (by omega) (by omega)).mpr hq0)
    refine lv_aload_n hx hb dM_extend_13 rfl (lv_at hl 0 rfl) ?_
    refine dw_get hx hb hts inMc hown hG 3 1 rfl rfl (by decide) hw495 rfl rfl dM_extend_14 ?_
    refine lv_bipush (v := 24) hx hb dM_extend_17 (by decide) ?_
    refine lv_icmp_ne (tgt := 26) hx hb dM_extend_19 (by decide) (fun h19 => ?_) (fun h19 => ?_)
    · skip
      replace h19 : ¬ n = 24 := fun hq0 => h19 ((nI_eq (a := n) (b := 24) (by omega) (by omega)).mpr hq0)
      refine lv_iconst (v := 0) hx hb dM_extend_26 (by decide) ?_
      refine lv_iload_n hx hb dM_extend_27 rfl (lv_at hl 2 rfl) ?_
      refine lv_if_eq (tgt := 36) hx hb dM_extend_28 (by decide) (fun h28 => ?_) (fun h28 => ?_)
      · skip
        replace h28 := (nI_eq (a := 1) (b := 0) (by omega) (by omega)).mp h28
        (exfalso; omega)
      replace h28 : ¬ 1 = 0 := fun hq0 => h28 ((nI_eq (a := 1) (b := 0) (by omega) (by omega)).mpr hq0)
      refine lv_bipush (v := 10) hx hb dM_extend_31 (by decide) ?_
      refine lv_goto (tgt := 38) hx hb dM_extend_33 (by decide) ?_
      refine lv_iload_n hx hb dM_extend_38 rfl (lv_at hl 1 rfl) ?_
      refine lv_iconst (v := 0) hx hb dM_extend_39 (by decide) ?_
      refine dw_calli (wc := [(m0, .inr (5, [.int (ft), .int (nI (n)), .ref aMd, .ref aO1, .ref aT2, .int (rs), .ref aSh, .ref aMk, .ref aFa, .ref aDe, .ref aNe, .ref aBy, .ref aPi, .int (pd), .ref aNw, .ref aNs, .ref aBf, .int (rn), .int (rr)])), (aMd, .inl (cI, 24, .inl (fun w => nI (db_rk (K w))))), (aO1, .inl (cI, 24, .inl (db_one1 K X Nm))), (aT2, .inl (cI, 24, .inl (db_two2 K Y Nm)))]) (wr := []) hG [3, 0, 1, 2] [] rfl rfl (by decide) (by decide) (va_runV (As := [.int (0), .int (10), .int (nI (x)), .int (0)]) (rest := []) ⟨hx, hb, hml, hown, hts⟩ (rf_make0 l dC dI cI cZ m0 aMd aO1 aT2 aSh aMk aFa aDe aNe aBy aPi aNw aNs aBf n ft rs pd rn rr (fun w => nI (db_rk (K w))) (db_one1 K X Nm) (db_two2 K Y Nm) (10) (nI (x)) (0) H.size (by omega)) (dc_V 4 hts tw_561 tw_563 tp_M_make tw_7 tw_564 rfl rfl (by decide +kernel) ⟨Nat.le_of_ble_eq_true rfl, Nat.le_of_ble_eq_true rfl⟩) (dw_preV (ci := 5) hG [3, 0, 1, 2] [0, 1] rfl rfl (by decide) rfl rfl (q0 := 3) rfl) rfl rfl hl.1 rfl (lv_room (Nat.le_of_ble_eq_true rfl)) dM_extend_40 ⟨Nat.le_refl _, Nat.le_refl _⟩) (fun r u H locs hp hG => ?_)
      subst hp
      have hG : dw_G (dC, dI) vwCl [(cI, .int), (cZ, .boolean)] A s.heap s [(m0, .inr (5, [.int (0), .int (nI (n + 1)), .ref aMd, .ref aO1, .ref aT2, .int (rs), .ref aSh, .ref aMk, .ref aFa, .ref aDe, .ref aNe, .ref aBy, .ref aPi, .int (pd), .ref aNw, .ref aNs, .ref aBf, .int (rn), .int (rr)])), (aMd, .inl (cI, 24, .inl (upd (fun w => nI (db_rk (K w))) n (10)))), (aO1, .inl (cI, 24, .inl (upd (db_one1 K X Nm) n (nI (x))))), (aT2, .inl (cI, 24, .inl (upd (db_two2 K Y Nm) n (0))))] H locs := hG
      subst hQ
      exact dw_iret hx hb hr hG (()) (by rw [db_md_up K n 12 (10) rfl, db_o1_up K X Nm n 12 x 0 (nI (x)) rfl, db_t2_up K Y Nm n 12 0 0 (0) rfl]) rfl dM_extend_43 hlocks
    replace h19 := (nI_eq (a := n) (b := 24) (by omega) (by omega)).mp h19
    (exfalso; omega)
  replace h6 := (nI_eq (a := 1) (b := 0) (by omega) (by omega)).mp h6
  (exfalso; omega)

set_option maxRecDepth 100000 in
set_option maxHeartbeats 4000000 in
theorem rf_extend1_1 (l : Launch) (dC : Nat → ClassId) (dI : Nat → Nat → Nat) (cI cZ : ClassId) (m0 aMd aO1 aT2 aSh aMk aFa aDe aNe aBy aPi aNw aNs aBf n : Nat) (ft rs pd rn rr : Int32) (K X Y : Nat → Nat) (Nm : Nat → Int32) (x : Int32) (sz : Nat) (hn : n ≤ 24) (hinv : db_isv x (nI n) = 0) : Met l yM_extend wsM_extend { frames := 1, cells := 0, slots := 0, locals := 30 } (va_Pc [.ref m0, .int (x), .int (1)] (dw_pre (dC, dI) vwCl [(m0, .inr (5, [.int (ft), .int (nI (n)), .ref aMd, .ref aO1, .ref aT2, .int (rs), .ref aSh, .ref aMk, .ref aFa, .ref aDe, .ref aNe, .ref aBy, .ref aPi, .int (pd), .ref aNw, .ref aNs, .ref aBf, .int (rn), .int (rr)])), (aMd, .inl (cI, 24, .inl (fun w => nI (db_rk (K w))))), (aO1, .inl (cI, 24, .inl (db_one1 K X Nm))), (aT2, .inl (cI, 24, .inl (db_two2 K Y Nm)))] [(cI, .int), (cZ, .boolean)] sz)) (va_Qi (fun (r : Int32) (u : Unit) => r = 0) (fun u t => dw_post (dC, dI) vwCl [(m0, .inr (5, [.int (1), .int (nI (n)), .ref aMd, .ref aO1, .ref aT2, .int (rs), .ref aSh, .ref aMk, .ref aFa, .ref aDe, .ref aNe, .ref aBy, .ref aPi, .int (pd), .ref aNw, .ref aNs, .ref aBf, .int (rn), .int (rr)])), (aMd, .inl (cI, 24, .inl (fun w => nI (db_rk (K w))))), (aO1, .inl (cI, 24, .inl (db_one1 K X Nm))), (aT2, .inl (cI, 24, .inl (db_two2 K Y Nm)))] [(cI, .int), (cZ, .boolean)] (va_A [(m0, .inr (5, [.int (ft), .int (nI (n)), .ref aMd, .ref aO1, .ref aT2, .int (rs), .ref aSh, .ref aMk, .ref aFa, .ref aDe, .ref aNe, .ref aBy, .ref aPi, .int (pd), .ref aNw, .ref aNs, .ref aBf, .int (rn), .int (rr)])), (aMd, .inl (cI, 24, .inl (fun w => nI (db_rk (K w))))), (aO1, .inl (cI, 24, .inl (db_one1 K X Nm))), (aT2, .inl (cI, 24, .inl (db_two2 K Y Nm)))] sz) t) (va_A [(m0, .inr (5, [.int (ft), .int (nI (n)), .ref aMd, .ref aO1, .ref aT2, .int (rs), .ref aSh, .ref aMk, .ref aFa, .ref aDe, .ref aNe, .ref aBy, .ref aPi, .int (pd), .ref aNw, .ref aNs, .ref aBf, .int (rn), .int (rr)])), (aMd, .inl (cI, 24, .inl (fun w => nI (db_rk (K w))))), (aO1, .inl (cI, 24, .inl (db_one1 K X Nm))), (aT2, .inl (cI, 24, .inl (db_two2 K Y Nm)))] sz)) 0 0 (va_A [(m0, .inr (5, [.int (ft), .int (nI (n)), .ref aMd, .ref aO1, .ref aT2, .int (rs), .ref aSh, .ref aMk, .ref aFa, .ref aDe, .ref aNe, .ref aBy, .ref aPi, .int (pd), .ref aNw, .ref aNs, .ref aBf, .int (rn), .int (rr)])), (aMd, .inl (cI, 24, .inl (fun w => nI (db_rk (K w))))), (aO1, .inl (cI, 24, .inl (db_one1 K X Nm))), (aT2, .inl (cI, 24, .inl (db_two2 K Y Nm)))] sz) := by
  refine Met.ofW (cc := cM_extend) (maxL := 3) (ret := (some .int)) (by decide) rfl ?_
  intro p e s m args below meth c s₁ B hml hv0
  have hx := B.exec
  have hb := B.bytes
  have hr := B.returns
  have hts := atoms_spec (ws := wsM_extend) B.pre
  have hown : s.vm.findClass RM = some m.cls := findClass_of_methodNamed B.named
  have hlocks := B.notSynchronized
  obtain ⟨rfl, hsz, hG⟩ := dw_enter hv0
  generalize va_A [(m0, .inr (5, [.int (ft), .int (nI (n)), .ref aMd, .ref aO1, .ref aT2, .int (rs), .ref aSh, .ref aMk, .ref aFa, .ref aDe, .ref aNe, .ref aBy, .ref aPi, .int (pd), .ref aNw, .ref aNs, .ref aBf, .int (rn), .int (rr)])), (aMd, .inl (cI, 24, .inl (fun w => nI (db_rk (K w))))), (aO1, .inl (cI, 24, .inl (db_one1 K X Nm))), (aT2, .inl (cI, 24, .inl (db_two2 K Y Nm)))] sz = A at hG ⊢
  have hl := lv_entry ([.ref m0, .int (x), .int (1)]) (n := 3) (Nat.le_of_ble_eq_true rfl)
  rw [lg_entry_eq]
  generalize (lg_sl ([.ref m0, .int (x), .int (1)]) ++ List.replicate (3 - (lg_sl ([.ref m0, .int (x), .int (1)])).length) Slot.unset).toArray = ls at hl ⊢
  have hl : lv_has ls 3 [(0, .ref m0), (1, .int (x)), (2, .int (1))] := hl
  refine dw_Q (fun Q hQ => ?_)
  suffices hgo : ∀ (H : Heap) (locs : List Loc), dw_G (dC, dI) vwCl [(cI, .int), (cZ, .boolean)] A s.heap s [(m0, .inr (5, [.int (ft), .int (nI (n)), .ref aMd, .ref aO1, .ref aT2, .int (rs), .ref aSh, .ref aMk, .ref aFa, .ref aDe, .ref aNe, .ref aBy, .ref aPi, .int (pd), .ref aNw, .ref aNs, .ref aBf, .int (rn), .int (rr)])), (aMd, .inl (cI, 24, .inl (fun w => nI (db_rk (K w))))), (aO1, .inl (cI, 24, .inl (db_one1 K X Nm))), (aT2, .inl (cI, 24, .inl (db_two2 K Y Nm)))] H locs → W p l e (headSpec wsM_extend { frames := 1, cells := 0, slots := 0, locals := 30 }).room s m [.ref m0, .int (x), .int (1)].toArray below meth c H locs 0 0 Q (F0 m 0 ls []) from hgo _ _ hG
  clear hG
  intro H locs hG
  refine lv_aload_n hx hb dM_extend_0 rfl (lv_at hl 0 rfl) ?_
  refine lv_aload_n hx hb dM_extend_1 rfl (lv_at hl 0 rfl) ?_
  refine lv_iload_n hx hb dM_extend_2 rfl (lv_at hl 1 rfl) ?_
  refine dw_calli (wc := [(m0, .inr (5, [.int (ft), .int (nI (n)), .ref aMd, .ref aO1, .ref aT2, .int (rs), .ref aSh, .ref aMk, .ref aFa, .ref aDe, .ref aNe, .ref aBy, .ref aPi, .int (pd), .ref aNw, .ref aNs, .ref aBf, .int (rn), .int (rr)]))]) (wr := [(aMd, .inl (cI, 24, .inl (fun w => nI (db_rk (K w))))), (aO1, .inl (cI, 24, .inl (db_one1 K X Nm))), (aT2, .inl (cI, 24, .inl (db_two2 K Y Nm)))]) hG [0] [1, 2, 3] rfl rfl (by decide) (by decide) (va_runV (As := [.int (x)]) (rest := [.ref m0]) ⟨hx, hb, hml, hown, hts⟩ (rf_isValue l dC dI cI cZ m0 aMd aO1 aT2 aSh aMk aFa aDe aNe aBy aPi aNw aNs aBf ft (nI n) rs pd rn rr (x) H.size ) (dc_V 1 hts tw_573 tw_575 tp_M_isValue tw_7 tw_576 rfl rfl (by decide +kernel) ⟨Nat.le_of_ble_eq_true rfl, Nat.le_of_ble_eq_true rfl⟩) (dw_preV (ci := 5) hG [0] [0, 1] rfl rfl (by decide) rfl rfl (q0 := 0) rfl) rfl rfl hl.1 rfl (lv_room (Nat.le_of_ble_eq_true rfl)) dM_extend_3 ⟨Nat.le_refl _, Nat.le_refl _⟩) (fun r u H locs hp hG => ?_)
  subst hp
  have hG : dw_G (dC, dI) vwCl [(cI, .int), (cZ, .boolean)] A s.heap s [(aMd, .inl (cI, 24, .inl (fun w => nI (db_rk (K w))))), (aO1, .inl (cI, 24, .inl (db_one1 K X Nm))), (aT2, .inl (cI, 24, .inl (db_two2 K Y Nm))), (m0, .inr (5, [.int (ft), .int (nI (n)), .ref aMd, .ref aO1, .ref aT2, .int (rs), .ref aSh, .ref aMk, .ref aFa, .ref aDe, .ref aNe, .ref aBy, .ref aPi, .int (pd), .ref aNw, .ref aNs, .ref aBf, .int (rn), .int (rr)]))] H locs := hG
  refine lv_topi (nm_r (show (db_isv (x) (nI n) : Int32) = 0 from hinv) ?_)
  refine lv_if_ne (tgt := 13) hx hb dM_extend_6 (by decide) (fun h6 => ?_) (fun h6 => ?_)
  · skip
    replace h6 : ¬ 0 = 0 := fun hq0 => h6 ((nI_eq (a := 0) (b := 0) (by omega) (by omega)).mpr hq0)
    (exfalso; omega)
  replace h6 := (nI_eq (a := 0) (b := 0) (by omega) (by omega)).mp h6
  refine lv_iconst (v := 1) hx hb dM_extend_9 (by decide) ?_
  refine lv_goto (tgt := 27) hx hb dM_extend_10 (by decide) ?_
  refine lv_iload_n hx hb dM_extend_27 rfl (lv_at hl 2 rfl) ?_
  refine lv_if_eq (tgt := 36) hx hb dM_extend_28 (by decide) (fun h28 => ?_) (fun h28 => ?_)
  · skip
    replace h28 := (nI_eq (a := 1) (b := 0) (by omega) (by omega)).mp h28
    (exfalso; omega)
  replace h28 : ¬ 1 = 0 := fun hq0 => h28 ((nI_eq (a := 1) (b := 0) (by omega) (by omega)).mpr hq0)
  refine lv_bipush (v := 10) hx hb dM_extend_31 (by decide) ?_
  refine lv_goto (tgt := 38) hx hb dM_extend_33 (by decide) ?_
  refine lv_iload_n hx hb dM_extend_38 rfl (lv_at hl 1 rfl) ?_
  refine lv_iconst (v := 0) hx hb dM_extend_39 (by decide) ?_
  refine dw_calli (wc := [(m0, .inr (5, [.int (ft), .int (nI (n)), .ref aMd, .ref aO1, .ref aT2, .int (rs), .ref aSh, .ref aMk, .ref aFa, .ref aDe, .ref aNe, .ref aBy, .ref aPi, .int (pd), .ref aNw, .ref aNs, .ref aBf, .int (rn), .int (rr)])), (aMd, .inl (cI, 24, .inl (fun w => nI (db_rk (K w))))), (aO1, .inl (cI, 24, .inl (db_one1 K X Nm))), (aT2, .inl (cI, 24, .inl (db_two2 K Y Nm)))]) (wr := []) hG [3, 0, 1, 2] [] rfl rfl (by decide) (by decide) (va_runV (As := [.int (1), .int (10), .int (x), .int (0)]) (rest := []) ⟨hx, hb, hml, hown, hts⟩ (rf_makeW1 l dC dI cI cZ m0 aMd aO1 aT2 aSh aMk aFa aDe aNe aBy aPi aNw aNs aBf n ft rs pd rn rr (fun w => nI (db_rk (K w))) (db_one1 K X Nm) (db_two2 K Y Nm) (10) (x) (0) H.size ) (dc_V 4 hts tw_561 tw_563 tp_M_make tw_7 tw_564 rfl rfl (by decide +kernel) ⟨Nat.le_of_ble_eq_true rfl, Nat.le_of_ble_eq_true rfl⟩) (dw_preV (ci := 5) hG [3, 0, 1, 2] [0, 1] rfl rfl (by decide) rfl rfl (q0 := 3) rfl) rfl rfl hl.1 rfl (lv_room (Nat.le_of_ble_eq_true rfl)) dM_extend_40 ⟨Nat.le_refl _, Nat.le_refl _⟩) (fun r u H locs hp hG => ?_)
  subst hp
  have hG : dw_G (dC, dI) vwCl [(cI, .int), (cZ, .boolean)] A s.heap s [(m0, .inr (5, [.int (1), .int (nI (n)), .ref aMd, .ref aO1, .ref aT2, .int (rs), .ref aSh, .ref aMk, .ref aFa, .ref aDe, .ref aNe, .ref aBy, .ref aPi, .int (pd), .ref aNw, .ref aNs, .ref aBf, .int (rn), .int (rr)])), (aMd, .inl (cI, 24, .inl (fun w => nI (db_rk (K w))))), (aO1, .inl (cI, 24, .inl (db_one1 K X Nm))), (aT2, .inl (cI, 24, .inl (db_two2 K Y Nm)))] H locs := hG
  subst hQ
  exact dw_iret hx hb hr hG (()) rfl rfl dM_extend_43 hlocks

set_option maxRecDepth 100000 in
set_option maxHeartbeats 4000000 in
theorem rf_extend1_2 (l : Launch) (dC : Nat → ClassId) (dI : Nat → Nat → Nat) (cI cZ : ClassId) (m0 aMd aO1 aT2 aSh aMk aFa aDe aNe aBy aPi aNw aNs aBf n : Nat) (ft rs pd rn rr : Int32) (K X Y : Nat → Nat) (Nm : Nat → Int32) (x : Nat) (sz : Nat) (hx9 : x < n) (hn : n = 24) : Met l yM_extend wsM_extend { frames := 1, cells := 0, slots := 0, locals := 30 } (va_Pc [.ref m0, .int (nI (x)), .int (1)] (dw_pre (dC, dI) vwCl [(m0, .inr (5, [.int (ft), .int (nI (n)), .ref aMd, .ref aO1, .ref aT2, .int (rs), .ref aSh, .ref aMk, .ref aFa, .ref aDe, .ref aNe, .ref aBy, .ref aPi, .int (pd), .ref aNw, .ref aNs, .ref aBf, .int (rn), .int (rr)])), (aMd, .inl (cI, 24, .inl (fun w => nI (db_rk (K w))))), (aO1, .inl (cI, 24, .inl (db_one1 K X Nm))), (aT2, .inl (cI, 24, .inl (db_two2 K Y Nm)))] [(cI, .int), (cZ, .boolean)] sz)) (va_Qi (fun (r : Int32) (u : Unit) => r = 0) (fun u t => dw_post (dC, dI) vwCl [(m0, .inr (5, [.int (2), .int (nI (n)), .ref aMd, .ref aO1, .ref aT2, .int (rs), .ref aSh, .ref aMk, .ref aFa, .ref aDe, .ref aNe, .ref aBy, .ref aPi, .int (pd), .ref aNw, .ref aNs, .ref aBf, .int (rn), .int (rr)])), (aMd, .inl (cI, 24, .inl (fun w => nI (db_rk (K w))))), (aO1, .inl (cI, 24, .inl (db_one1 K X Nm))), (aT2, .inl (cI, 24, .inl (db_two2 K Y Nm)))] [(cI, .int), (cZ, .boolean)] (va_A [(m0, .inr (5, [.int (ft), .int (nI (n)), .ref aMd, .ref aO1, .ref aT2, .int (rs), .ref aSh, .ref aMk, .ref aFa, .ref aDe, .ref aNe, .ref aBy, .ref aPi, .int (pd), .ref aNw, .ref aNs, .ref aBf, .int (rn), .int (rr)])), (aMd, .inl (cI, 24, .inl (fun w => nI (db_rk (K w))))), (aO1, .inl (cI, 24, .inl (db_one1 K X Nm))), (aT2, .inl (cI, 24, .inl (db_two2 K Y Nm)))] sz) t) (va_A [(m0, .inr (5, [.int (ft), .int (nI (n)), .ref aMd, .ref aO1, .ref aT2, .int (rs), .ref aSh, .ref aMk, .ref aFa, .ref aDe, .ref aNe, .ref aBy, .ref aPi, .int (pd), .ref aNw, .ref aNs, .ref aBf, .int (rn), .int (rr)])), (aMd, .inl (cI, 24, .inl (fun w => nI (db_rk (K w))))), (aO1, .inl (cI, 24, .inl (db_one1 K X Nm))), (aT2, .inl (cI, 24, .inl (db_two2 K Y Nm)))] sz)) 0 0 (va_A [(m0, .inr (5, [.int (ft), .int (nI (n)), .ref aMd, .ref aO1, .ref aT2, .int (rs), .ref aSh, .ref aMk, .ref aFa, .ref aDe, .ref aNe, .ref aBy, .ref aPi, .int (pd), .ref aNw, .ref aNs, .ref aBf, .int (rn), .int (rr)])), (aMd, .inl (cI, 24, .inl (fun w => nI (db_rk (K w))))), (aO1, .inl (cI, 24, .inl (db_one1 K X Nm))), (aT2, .inl (cI, 24, .inl (db_two2 K Y Nm)))] sz) := by
  refine Met.ofW (cc := cM_extend) (maxL := 3) (ret := (some .int)) (by decide) rfl ?_
  intro p e s m args below meth c s₁ B hml hv0
  have hx := B.exec
  have hb := B.bytes
  have hr := B.returns
  have hts := atoms_spec (ws := wsM_extend) B.pre
  have hown : s.vm.findClass RM = some m.cls := findClass_of_methodNamed B.named
  have hlocks := B.notSynchronized
  obtain ⟨rfl, hsz, hG⟩ := dw_enter hv0
  generalize va_A [(m0, .inr (5, [.int (ft), .int (nI (n)), .ref aMd, .ref aO1, .ref aT2, .int (rs), .ref aSh, .ref aMk, .ref aFa, .ref aDe, .ref aNe, .ref aBy, .ref aPi, .int (pd), .ref aNw, .ref aNs, .ref aBf, .int (rn), .int (rr)])), (aMd, .inl (cI, 24, .inl (fun w => nI (db_rk (K w))))), (aO1, .inl (cI, 24, .inl (db_one1 K X Nm))), (aT2, .inl (cI, 24, .inl (db_two2 K Y Nm)))] sz = A at hG ⊢
  have hl := lv_entry ([.ref m0, .int (nI (x)), .int (1)]) (n := 3) (Nat.le_of_ble_eq_true rfl)
  rw [lg_entry_eq]
  generalize (lg_sl ([.ref m0, .int (nI (x)), .int (1)]) ++ List.replicate (3 - (lg_sl ([.ref m0, .int (nI (x)), .int (1)])).length) Slot.unset).toArray = ls at hl ⊢
  have hl : lv_has ls 3 [(0, .ref m0), (1, .int (nI (x))), (2, .int (1))] := hl
  have hw495 := hts _ (List.mem_cons_of_mem _ tw_495)
  refine dw_Q (fun Q hQ => ?_)
  suffices hgo : ∀ (H : Heap) (locs : List Loc), dw_G (dC, dI) vwCl [(cI, .int), (cZ, .boolean)] A s.heap s [(m0, .inr (5, [.int (ft), .int (nI (n)), .ref aMd, .ref aO1, .ref aT2, .int (rs), .ref aSh, .ref aMk, .ref aFa, .ref aDe, .ref aNe, .ref aBy, .ref aPi, .int (pd), .ref aNw, .ref aNs, .ref aBf, .int (rn), .int (rr)])), (aMd, .inl (cI, 24, .inl (fun w => nI (db_rk (K w))))), (aO1, .inl (cI, 24, .inl (db_one1 K X Nm))), (aT2, .inl (cI, 24, .inl (db_two2 K Y Nm)))] H locs → W p l e (headSpec wsM_extend { frames := 1, cells := 0, slots := 0, locals := 30 }).room s m [.ref m0, .int (nI (x)), .int (1)].toArray below meth c H locs 0 0 Q (F0 m 0 ls []) from hgo _ _ hG
  clear hG
  intro H locs hG
  refine lv_aload_n hx hb dM_extend_0 rfl (lv_at hl 0 rfl) ?_
  refine lv_aload_n hx hb dM_extend_1 rfl (lv_at hl 0 rfl) ?_
  refine lv_iload_n hx hb dM_extend_2 rfl (lv_at hl 1 rfl) ?_
  refine dw_calli (wc := [(m0, .inr (5, [.int (ft), .int (nI (n)), .ref aMd, .ref aO1, .ref aT2, .int (rs), .ref aSh, .ref aMk, .ref aFa, .ref aDe, .ref aNe, .ref aBy, .ref aPi, .int (pd), .ref aNw, .ref aNs, .ref aBf, .int (rn), .int (rr)]))]) (wr := [(aMd, .inl (cI, 24, .inl (fun w => nI (db_rk (K w))))), (aO1, .inl (cI, 24, .inl (db_one1 K X Nm))), (aT2, .inl (cI, 24, .inl (db_two2 K Y Nm)))]) hG [0] [1, 2, 3] rfl rfl (by decide) (by decide) (va_runV (As := [.int (nI (x))]) (rest := [.ref m0]) ⟨hx, hb, hml, hown, hts⟩ (rf_isValue l dC dI cI cZ m0 aMd aO1 aT2 aSh aMk aFa aDe aNe aBy aPi aNw aNs aBf ft (nI n) rs pd rn rr (nI (x)) H.size ) (dc_V 1 hts tw_573 tw_575 tp_M_isValue tw_7 tw_576 rfl rfl (by decide +kernel) ⟨Nat.le_of_ble_eq_true rfl, Nat.le_of_ble_eq_true rfl⟩) (dw_preV (ci := 5) hG [0] [0, 1] rfl rfl (by decide) rfl rfl (q0 := 0) rfl) rfl rfl hl.1 rfl (lv_room (Nat.le_of_ble_eq_true rfl)) dM_extend_3 ⟨Nat.le_refl _, Nat.le_refl _⟩) (fun r u H locs hp hG => ?_)
  subst hp
  have hG : dw_G (dC, dI) vwCl [(cI, .int), (cZ, .boolean)] A s.heap s [(aMd, .inl (cI, 24, .inl (fun w => nI (db_rk (K w))))), (aO1, .inl (cI, 24, .inl (db_one1 K X Nm))), (aT2, .inl (cI, 24, .inl (db_two2 K Y Nm))), (m0, .inr (5, [.int (ft), .int (nI (n)), .ref aMd, .ref aO1, .ref aT2, .int (rs), .ref aSh, .ref aMk, .ref aFa, .ref aDe, .ref aNe, .ref aBy, .ref aPi, .int (pd), .ref aNw, .ref aNs, .ref aBf, .int (rn), .int (rr)]))] H locs := hG
  refine lv_topi (nm_r (show (db_isv (nI (x)) (nI n) : Int32) = 1 from (db_isv_y (by omega) (by omega))) ?_)
  refine lv_if_ne (tgt := 13) hx hb dM_extend_6 (by decide) (fun h6 => ?_) (fun h6 => ?_)
  · skip
    replace h6 : ¬ 1 = 0 := fun hq0 => h6 ((nI_eq (a := 1) (b := 0) (by omega) (by omega)).mpr hq0)
    refine lv_aload_n hx hb dM_extend_13 rfl (lv_at hl 0 rfl) ?_
    refine dw_get hx hb hts inMc hown hG 3 1 rfl rfl (by decide) hw495 rfl rfl dM_extend_14 ?_
    refine lv_bipush (v := 24) hx hb dM_extend_17 (by decide) ?_
    refine lv_icmp_ne (tgt := 26) hx hb dM_extend_19 (by decide) (fun h19 => ?_) (fun h19 => ?_)
    · skip
      replace h19 : ¬ n = 24 := fun hq0 => h19 ((nI_eq (a := n) (b := 24) (by omega) (by omega)).mpr hq0)
      (exfalso; omega)
    replace h19 := (nI_eq (a := n) (b := 24) (by omega) (by omega)).mp h19
    refine lv_iconst (v := 2) hx hb dM_extend_22 (by decide) ?_
    refine lv_goto (tgt := 27) hx hb dM_extend_23 (by decide) ?_
    refine lv_iload_n hx hb dM_extend_27 rfl (lv_at hl 2 rfl) ?_
    refine lv_if_eq (tgt := 36) hx hb dM_extend_28 (by decide) (fun h28 => ?_) (fun h28 => ?_)
    · skip
      replace h28 := (nI_eq (a := 1) (b := 0) (by omega) (by omega)).mp h28
      (exfalso; omega)
    replace h28 : ¬ 1 = 0 := fun hq0 => h28 ((nI_eq (a := 1) (b := 0) (by omega) (by omega)).mpr hq0)
    refine lv_bipush (v := 10) hx hb dM_extend_31 (by decide) ?_
    refine lv_goto (tgt := 38) hx hb dM_extend_33 (by decide) ?_
    refine lv_iload_n hx hb dM_extend_38 rfl (lv_at hl 1 rfl) ?_
    refine lv_iconst (v := 0) hx hb dM_extend_39 (by decide) ?_
    refine dw_calli (wc := [(m0, .inr (5, [.int (ft), .int (nI (n)), .ref aMd, .ref aO1, .ref aT2, .int (rs), .ref aSh, .ref aMk, .ref aFa, .ref aDe, .ref aNe, .ref aBy, .ref aPi, .int (pd), .ref aNw, .ref aNs, .ref aBf, .int (rn), .int (rr)])), (aMd, .inl (cI, 24, .inl (fun w => nI (db_rk (K w))))), (aO1, .inl (cI, 24, .inl (db_one1 K X Nm))), (aT2, .inl (cI, 24, .inl (db_two2 K Y Nm)))]) (wr := []) hG [3, 0, 1, 2] [] rfl rfl (by decide) (by decide) (va_runV (As := [.int (2), .int (10), .int (nI (x)), .int (0)]) (rest := []) ⟨hx, hb, hml, hown, hts⟩ (rf_makeW2 l dC dI cI cZ m0 aMd aO1 aT2 aSh aMk aFa aDe aNe aBy aPi aNw aNs aBf n ft rs pd rn rr (fun w => nI (db_rk (K w))) (db_one1 K X Nm) (db_two2 K Y Nm) (10) (nI (x)) (0) H.size ) (dc_V 4 hts tw_561 tw_563 tp_M_make tw_7 tw_564 rfl rfl (by decide +kernel) ⟨Nat.le_of_ble_eq_true rfl, Nat.le_of_ble_eq_true rfl⟩) (dw_preV (ci := 5) hG [3, 0, 1, 2] [0, 1] rfl rfl (by decide) rfl rfl (q0 := 3) rfl) rfl rfl hl.1 rfl (lv_room (Nat.le_of_ble_eq_true rfl)) dM_extend_40 ⟨Nat.le_refl _, Nat.le_refl _⟩) (fun r u H locs hp hG => ?_)
    subst hp
    have hG : dw_G (dC, dI) vwCl [(cI, .int), (cZ, .boolean)] A s.heap s [(m0, .inr (5, [.int (2), .int (nI (n)), .ref aMd, .ref aO1, .ref aT2, .int (rs), .ref aSh, .ref aMk, .ref aFa, .ref aDe, .ref aNe, .ref aBy, .ref aPi, .int (pd), .ref aNw, .ref aNs, .ref aBf, .int (rn), .int (rr)])), (aMd, .inl (cI, 24, .inl (fun w => nI (db_rk (K w))))), (aO1, .inl (cI, 24, .inl (db_one1 K X Nm))), (aT2, .inl (cI, 24, .inl (db_two2 K Y Nm)))] H locs := hG
    subst hQ
    exact dw_iret hx hb hr hG (()) rfl rfl dM_extend_43 hlocks
  replace h6 := (nI_eq (a := 1) (b := 0) (by omega) (by omega)).mp h6
  (exfalso; omega)

set_option maxRecDepth 100000 in
set_option maxHeartbeats 4000000 in
theorem rf_loop_0 (l : Launch) (dC : Nat → ClassId) (dI : Nat → Nat → Nat) (cI cZ : ClassId) (m0 aMd aO1 aT2 aSh aMk aFa aDe aNe aBy aPi aNw aNs aBf n : Nat) (ft rs pd rn rr : Int32) (K X Y : Nat → Nat) (Nm : Nat → Int32) (x : Nat) (sz : Nat) (hx9 : x < n) (hn : n < 24) : Met l yM_loop wsM_loop { frames := 1, cells := 0, slots := 0, locals := 30 } (va_Pc [.ref m0, .int (nI (x))] (dw_pre (dC, dI) vwCl [(m0, .inr (5, [.int (ft), .int (nI (n)), .ref aMd, .ref aO1, .ref aT2, .int (rs), .ref aSh, .ref aMk, .ref aFa, .ref aDe, .ref aNe, .ref aBy, .ref aPi, .int (pd), .ref aNw, .ref aNs, .ref aBf, .int (rn), .int (rr)])), (aMd, .inl (cI, 24, .inl (fun w => nI (db_rk (K w))))), (aO1, .inl (cI, 24, .inl (db_one1 K X Nm))), (aT2, .inl (cI, 24, .inl (db_two2 K Y Nm)))] [(cI, .int), (cZ, .boolean)] sz)) (va_Qi (fun (r : Int32) (u : Unit) => r = nI n) (fun u t => dw_post (dC, dI) vwCl [(m0, .inr (5, [.int (0), .int (nI (n + 1)), .ref aMd, .ref aO1, .ref aT2, .int (rs), .ref aSh, .ref aMk, .ref aFa, .ref aDe, .ref aNe, .ref aBy, .ref aPi, .int (pd), .ref aNw, .ref aNs, .ref aBf, .int (rn), .int (rr)])), (aMd, .inl (cI, 24, .inl (fun w => nI (db_rk ((db_upN K n 13) w))))), (aO1, .inl (cI, 24, .inl (db_one1 (db_upN K n 13) (db_upN X n x) (upd Nm n 0)))), (aT2, .inl (cI, 24, .inl (db_two2 (db_upN K n 13) (db_upN Y n n) (upd Nm n 0))))] [(cI, .int), (cZ, .boolean)] (va_A [(m0, .inr (5, [.int (ft), .int (nI (n)), .ref aMd, .ref aO1, .ref aT2, .int (rs), .ref aSh, .ref aMk, .ref aFa, .ref aDe, .ref aNe, .ref aBy, .ref aPi, .int (pd), .ref aNw, .ref aNs, .ref aBf, .int (rn), .int (rr)])), (aMd, .inl (cI, 24, .inl (fun w => nI (db_rk (K w))))), (aO1, .inl (cI, 24, .inl (db_one1 K X Nm))), (aT2, .inl (cI, 24, .inl (db_two2 K Y Nm)))] sz) t) (va_A [(m0, .inr (5, [.int (ft), .int (nI (n)), .ref aMd, .ref aO1, .ref aT2, .int (rs), .ref aSh, .ref aMk, .ref aFa, .ref aDe, .ref aNe, .ref aBy, .ref aPi, .int (pd), .ref aNw, .ref aNs, .ref aBf, .int (rn), .int (rr)])), (aMd, .inl (cI, 24, .inl (fun w => nI (db_rk (K w))))), (aO1, .inl (cI, 24, .inl (db_one1 K X Nm))), (aT2, .inl (cI, 24, .inl (db_two2 K Y Nm)))] sz)) 0 0 (va_A [(m0, .inr (5, [.int (ft), .int (nI (n)), .ref aMd, .ref aO1, .ref aT2, .int (rs), .ref aSh, .ref aMk, .ref aFa, .ref aDe, .ref aNe, .ref aBy, .ref aPi, .int (pd), .ref aNw, .ref aNs, .ref aBf, .int (rn), .int (rr)])), (aMd, .inl (cI, 24, .inl (fun w => nI (db_rk (K w))))), (aO1, .inl (cI, 24, .inl (db_one1 K X Nm))), (aT2, .inl (cI, 24, .inl (db_two2 K Y Nm)))] sz) := by
  refine Met.ofW (cc := cM_loop) (maxL := 2) (ret := (some .int)) (by decide) rfl ?_
  intro p e s m args below meth c s₁ B hml hv0
  have hx := B.exec
  have hb := B.bytes
  have hr := B.returns
  have hts := atoms_spec (ws := wsM_loop) B.pre
  have hown : s.vm.findClass RM = some m.cls := findClass_of_methodNamed B.named
  have hlocks := B.notSynchronized
  obtain ⟨rfl, hsz, hG⟩ := dw_enter hv0
  generalize va_A [(m0, .inr (5, [.int (ft), .int (nI (n)), .ref aMd, .ref aO1, .ref aT2, .int (rs), .ref aSh, .ref aMk, .ref aFa, .ref aDe, .ref aNe, .ref aBy, .ref aPi, .int (pd), .ref aNw, .ref aNs, .ref aBf, .int (rn), .int (rr)])), (aMd, .inl (cI, 24, .inl (fun w => nI (db_rk (K w))))), (aO1, .inl (cI, 24, .inl (db_one1 K X Nm))), (aT2, .inl (cI, 24, .inl (db_two2 K Y Nm)))] sz = A at hG ⊢
  have hl := lv_entry ([.ref m0, .int (nI (x))]) (n := 2) (Nat.le_of_ble_eq_true rfl)
  rw [lg_entry_eq]
  generalize (lg_sl ([.ref m0, .int (nI (x))]) ++ List.replicate (2 - (lg_sl ([.ref m0, .int (nI (x))])).length) Slot.unset).toArray = ls at hl ⊢
  have hl : lv_has ls 2 [(0, .ref m0), (1, .int (nI (x)))] := hl
  have hw495 := hts _ (List.mem_cons_of_mem _ tw_495)
  refine dw_Q (fun Q hQ => ?_)
  suffices hgo : ∀ (H : Heap) (locs : List Loc), dw_G (dC, dI) vwCl [(cI, .int), (cZ, .boolean)] A s.heap s [(m0, .inr (5, [.int (ft), .int (nI (n)), .ref aMd, .ref aO1, .ref aT2, .int (rs), .ref aSh, .ref aMk, .ref aFa, .ref aDe, .ref aNe, .ref aBy, .ref aPi, .int (pd), .ref aNw, .ref aNs, .ref aBf, .int (rn), .int (rr)])), (aMd, .inl (cI, 24, .inl (fun w => nI (db_rk (K w))))), (aO1, .inl (cI, 24, .inl (db_one1 K X Nm))), (aT2, .inl (cI, 24, .inl (db_two2 K Y Nm)))] H locs → W p l e (headSpec wsM_loop { frames := 1, cells := 0, slots := 0, locals := 30 }).room s m [.ref m0, .int (nI (x))].toArray below meth c H locs 0 0 Q (F0 m 0 ls []) from hgo _ _ hG
  clear hG
  intro H locs hG
  refine lv_aload_n hx hb dM_loop_0 rfl (lv_at hl 0 rfl) ?_
  refine lv_aload_n hx hb dM_loop_1 rfl (lv_at hl 0 rfl) ?_
  refine lv_iload_n hx hb dM_loop_2 rfl (lv_at hl 1 rfl) ?_
  refine dw_calli (wc := [(m0, .inr (5, [.int (ft), .int (nI (n)), .ref aMd, .ref aO1, .ref aT2, .int (rs), .ref aSh, .ref aMk, .ref aFa, .ref aDe, .ref aNe, .ref aBy, .ref aPi, .int (pd), .ref aNw, .ref aNs, .ref aBf, .int (rn), .int (rr)]))]) (wr := [(aMd, .inl (cI, 24, .inl (fun w => nI (db_rk (K w))))), (aO1, .inl (cI, 24, .inl (db_one1 K X Nm))), (aT2, .inl (cI, 24, .inl (db_two2 K Y Nm)))]) hG [0] [1, 2, 3] rfl rfl (by decide) (by decide) (va_runV (As := [.int (nI (x))]) (rest := [.ref m0]) ⟨hx, hb, hml, hown, hts⟩ (rf_isValue l dC dI cI cZ m0 aMd aO1 aT2 aSh aMk aFa aDe aNe aBy aPi aNw aNs aBf ft (nI n) rs pd rn rr (nI (x)) H.size ) (dc_V 1 hts tw_573 tw_575 tp_M_isValue tw_7 tw_576 rfl rfl (by decide +kernel) ⟨Nat.le_of_ble_eq_true rfl, Nat.le_of_ble_eq_true rfl⟩) (dw_preV (ci := 5) hG [0] [0, 1] rfl rfl (by decide) rfl rfl (q0 := 0) rfl) rfl rfl hl.1 rfl (lv_room (Nat.le_of_ble_eq_true rfl)) dM_loop_3 ⟨Nat.le_refl _, Nat.le_refl _⟩) (fun r u H locs hp hG => ?_)
  subst hp
  have hG : dw_G (dC, dI) vwCl [(cI, .int), (cZ, .boolean)] A s.heap s [(aMd, .inl (cI, 24, .inl (fun w => nI (db_rk (K w))))), (aO1, .inl (cI, 24, .inl (db_one1 K X Nm))), (aT2, .inl (cI, 24, .inl (db_two2 K Y Nm))), (m0, .inr (5, [.int (ft), .int (nI (n)), .ref aMd, .ref aO1, .ref aT2, .int (rs), .ref aSh, .ref aMk, .ref aFa, .ref aDe, .ref aNe, .ref aBy, .ref aPi, .int (pd), .ref aNw, .ref aNs, .ref aBf, .int (rn), .int (rr)]))] H locs := hG
  refine lv_topi (nm_r (show (db_isv (nI (x)) (nI n) : Int32) = 1 from (db_isv_y (by omega) (by omega))) ?_)
  refine lv_if_ne (tgt := 13) hx hb dM_loop_6 (by decide) (fun h6 => ?_) (fun h6 => ?_)
  · skip
    replace h6 : ¬ 1 = 0 := fun hq0 => h6 ((nI_eq (a := 1) (b := 0) (by omega) (by omega)).mpr hq0)
    refine lv_aload_n hx hb dM_loop_13 rfl (lv_at hl 0 rfl) ?_
    refine dw_get hx hb hts inMc hown hG 3 1 rfl rfl (by decide) hw495 rfl rfl dM_loop_14 ?_
    refine lv_bipush (v := 24) hx hb dM_loop_17 (by decide) ?_
    refine lv_icmp_ne (tgt := 26) hx hb dM_loop_19 (by decide) (fun h19 => ?_) (fun h19 => ?_)
    · skip
      replace h19 : ¬ n = 24 := fun hq0 => h19 ((nI_eq (a := n) (b := 24) (by omega) (by omega)).mpr hq0)
      refine lv_iconst (v := 0) hx hb dM_loop_26 (by decide) ?_
      refine lv_bipush (v := 11) hx hb dM_loop_27 (by decide) ?_
      refine lv_iload_n hx hb dM_loop_29 rfl (lv_at hl 1 rfl) ?_
      refine lv_aload_n hx hb dM_loop_30 rfl (lv_at hl 0 rfl) ?_
      refine dw_get hx hb hts inMc hown hG 3 1 rfl rfl (by decide) hw495 rfl rfl dM_loop_31 ?_
      refine dw_calli (wc := [(m0, .inr (5, [.int (ft), .int (nI (n)), .ref aMd, .ref aO1, .ref aT2, .int (rs), .ref aSh, .ref aMk, .ref aFa, .ref aDe, .ref aNe, .ref aBy, .ref aPi, .int (pd), .ref aNw, .ref aNs, .ref aBf, .int (rn), .int (rr)])), (aMd, .inl (cI, 24, .inl (fun w => nI (db_rk (K w))))), (aO1, .inl (cI, 24, .inl (db_one1 K X Nm))), (aT2, .inl (cI, 24, .inl (db_two2 K Y Nm)))]) (wr := []) hG [3, 0, 1, 2] [] rfl rfl (by decide) (by decide) (va_runV (As := [.int (0), .int (11), .int (nI (x)), .int (nI (n))]) (rest := []) ⟨hx, hb, hml, hown, hts⟩ (rf_make0 l dC dI cI cZ m0 aMd aO1 aT2 aSh aMk aFa aDe aNe aBy aPi aNw aNs aBf n ft rs pd rn rr (fun w => nI (db_rk (K w))) (db_one1 K X Nm) (db_two2 K Y Nm) (11) (nI (x)) (nI (n)) H.size (by omega)) (dc_V 4 hts tw_561 tw_563 tp_M_make tw_7 tw_564 rfl rfl (by decide +kernel) ⟨Nat.le_of_ble_eq_true rfl, Nat.le_of_ble_eq_true rfl⟩) (dw_preV (ci := 5) hG [3, 0, 1, 2] [0, 1] rfl rfl (by decide) rfl rfl (q0 := 3) rfl) rfl rfl hl.1 rfl (lv_room (Nat.le_of_ble_eq_true rfl)) dM_loop_34 ⟨Nat.le_refl _, Nat.le_refl _⟩) (fun r u H locs hp hG => ?_)
      subst hp
      have hG : dw_G (dC, dI) vwCl [(cI, .int), (cZ, .boolean)] A s.heap s [(m0, .inr (5, [.int (0), .int (nI (n + 1)), .ref aMd, .ref aO1, .ref aT2, .int (rs), .ref aSh, .ref aMk, .ref aFa, .ref aDe, .ref aNe, .ref aBy, .ref aPi, .int (pd), .ref aNw, .ref aNs, .ref aBf, .int (rn), .int (rr)])), (aMd, .inl (cI, 24, .inl (upd (fun w => nI (db_rk (K w))) n (11)))), (aO1, .inl (cI, 24, .inl (upd (db_one1 K X Nm) n (nI (x))))), (aT2, .inl (cI, 24, .inl (upd (db_two2 K Y Nm) n (nI (n)))))] H locs := hG
      subst hQ
      exact dw_iret hx hb hr hG (()) (by rw [db_md_up K n 13 (11) rfl, db_o1_up K X Nm n 13 x 0 (nI (x)) rfl, db_t2_up K Y Nm n 13 n 0 (nI (n)) rfl]) rfl dM_loop_37 hlocks
    replace h19 := (nI_eq (a := n) (b := 24) (by omega) (by omega)).mp h19
    (exfalso; omega)
  replace h6 := (nI_eq (a := 1) (b := 0) (by omega) (by omega)).mp h6
  (exfalso; omega)

set_option maxRecDepth 100000 in
set_option maxHeartbeats 4000000 in
theorem rf_loop_1 (l : Launch) (dC : Nat → ClassId) (dI : Nat → Nat → Nat) (cI cZ : ClassId) (m0 aMd aO1 aT2 aSh aMk aFa aDe aNe aBy aPi aNw aNs aBf n : Nat) (ft rs pd rn rr : Int32) (K X Y : Nat → Nat) (Nm : Nat → Int32) (x : Int32) (sz : Nat) (hn : n ≤ 24) (hinv : db_isv x (nI n) = 0) : Met l yM_loop wsM_loop { frames := 1, cells := 0, slots := 0, locals := 30 } (va_Pc [.ref m0, .int (x)] (dw_pre (dC, dI) vwCl [(m0, .inr (5, [.int (ft), .int (nI (n)), .ref aMd, .ref aO1, .ref aT2, .int (rs), .ref aSh, .ref aMk, .ref aFa, .ref aDe, .ref aNe, .ref aBy, .ref aPi, .int (pd), .ref aNw, .ref aNs, .ref aBf, .int (rn), .int (rr)])), (aMd, .inl (cI, 24, .inl (fun w => nI (db_rk (K w))))), (aO1, .inl (cI, 24, .inl (db_one1 K X Nm))), (aT2, .inl (cI, 24, .inl (db_two2 K Y Nm)))] [(cI, .int), (cZ, .boolean)] sz)) (va_Qi (fun (r : Int32) (u : Unit) => r = 0) (fun u t => dw_post (dC, dI) vwCl [(m0, .inr (5, [.int (1), .int (nI (n)), .ref aMd, .ref aO1, .ref aT2, .int (rs), .ref aSh, .ref aMk, .ref aFa, .ref aDe, .ref aNe, .ref aBy, .ref aPi, .int (pd), .ref aNw, .ref aNs, .ref aBf, .int (rn), .int (rr)])), (aMd, .inl (cI, 24, .inl (fun w => nI (db_rk (K w))))), (aO1, .inl (cI, 24, .inl (db_one1 K X Nm))), (aT2, .inl (cI, 24, .inl (db_two2 K Y Nm)))] [(cI, .int), (cZ, .boolean)] (va_A [(m0, .inr (5, [.int (ft), .int (nI (n)), .ref aMd, .ref aO1, .ref aT2, .int (rs), .ref aSh, .ref aMk, .ref aFa, .ref aDe, .ref aNe, .ref aBy, .ref aPi, .int (pd), .ref aNw, .ref aNs, .ref aBf, .int (rn), .int (rr)])), (aMd, .inl (cI, 24, .inl (fun w => nI (db_rk (K w))))), (aO1, .inl (cI, 24, .inl (db_one1 K X Nm))), (aT2, .inl (cI, 24, .inl (db_two2 K Y Nm)))] sz) t) (va_A [(m0, .inr (5, [.int (ft), .int (nI (n)), .ref aMd, .ref aO1, .ref aT2, .int (rs), .ref aSh, .ref aMk, .ref aFa, .ref aDe, .ref aNe, .ref aBy, .ref aPi, .int (pd), .ref aNw, .ref aNs, .ref aBf, .int (rn), .int (rr)])), (aMd, .inl (cI, 24, .inl (fun w => nI (db_rk (K w))))), (aO1, .inl (cI, 24, .inl (db_one1 K X Nm))), (aT2, .inl (cI, 24, .inl (db_two2 K Y Nm)))] sz)) 0 0 (va_A [(m0, .inr (5, [.int (ft), .int (nI (n)), .ref aMd, .ref aO1, .ref aT2, .int (rs), .ref aSh, .ref aMk, .ref aFa, .ref aDe, .ref aNe, .ref aBy, .ref aPi, .int (pd), .ref aNw, .ref aNs, .ref aBf, .int (rn), .int (rr)])), (aMd, .inl (cI, 24, .inl (fun w => nI (db_rk (K w))))), (aO1, .inl (cI, 24, .inl (db_one1 K X Nm))), (aT2, .inl (cI, 24, .inl (db_two2 K Y Nm)))] sz) := by
  refine Met.ofW (cc := cM_loop) (maxL := 2) (ret := (some .int)) (by decide) rfl ?_
  intro p e s m args below meth c s₁ B hml hv0
  have hx := B.exec
  have hb := B.bytes
  have hr := B.returns
  have hts := atoms_spec (ws := wsM_loop) B.pre
  have hown : s.vm.findClass RM = some m.cls := findClass_of_methodNamed B.named
  have hlocks := B.notSynchronized
  obtain ⟨rfl, hsz, hG⟩ := dw_enter hv0
  generalize va_A [(m0, .inr (5, [.int (ft), .int (nI (n)), .ref aMd, .ref aO1, .ref aT2, .int (rs), .ref aSh, .ref aMk, .ref aFa, .ref aDe, .ref aNe, .ref aBy, .ref aPi, .int (pd), .ref aNw, .ref aNs, .ref aBf, .int (rn), .int (rr)])), (aMd, .inl (cI, 24, .inl (fun w => nI (db_rk (K w))))), (aO1, .inl (cI, 24, .inl (db_one1 K X Nm))), (aT2, .inl (cI, 24, .inl (db_two2 K Y Nm)))] sz = A at hG ⊢
  have hl := lv_entry ([.ref m0, .int (x)]) (n := 2) (Nat.le_of_ble_eq_true rfl)
  rw [lg_entry_eq]
  generalize (lg_sl ([.ref m0, .int (x)]) ++ List.replicate (2 - (lg_sl ([.ref m0, .int (x)])).length) Slot.unset).toArray = ls at hl ⊢
  have hl : lv_has ls 2 [(0, .ref m0), (1, .int (x))] := hl
  have hw495 := hts _ (List.mem_cons_of_mem _ tw_495)
  refine dw_Q (fun Q hQ => ?_)
  suffices hgo : ∀ (H : Heap) (locs : List Loc), dw_G (dC, dI) vwCl [(cI, .int), (cZ, .boolean)] A s.heap s [(m0, .inr (5, [.int (ft), .int (nI (n)), .ref aMd, .ref aO1, .ref aT2, .int (rs), .ref aSh, .ref aMk, .ref aFa, .ref aDe, .ref aNe, .ref aBy, .ref aPi, .int (pd), .ref aNw, .ref aNs, .ref aBf, .int (rn), .int (rr)])), (aMd, .inl (cI, 24, .inl (fun w => nI (db_rk (K w))))), (aO1, .inl (cI, 24, .inl (db_one1 K X Nm))), (aT2, .inl (cI, 24, .inl (db_two2 K Y Nm)))] H locs → W p l e (headSpec wsM_loop { frames := 1, cells := 0, slots := 0, locals := 30 }).room s m [.ref m0, .int (x)].toArray below meth c H locs 0 0 Q (F0 m 0 ls []) from hgo _ _ hG
  clear hG
  intro H locs hG
  refine lv_aload_n hx hb dM_loop_0 rfl (lv_at hl 0 rfl) ?_
  refine lv_aload_n hx hb dM_loop_1 rfl (lv_at hl 0 rfl) ?_
  refine lv_iload_n hx hb dM_loop_2 rfl (lv_at hl 1 rfl) ?_
  refine dw_calli (wc := [(m0, .inr (5, [.int (ft), .int (nI (n)), .ref aMd, .ref aO1, .ref aT2, .int (rs), .ref aSh, .ref aMk, .ref aFa, .ref aDe, .ref aNe, .ref aBy, .ref aPi, .int (pd), .ref aNw, .ref aNs, .ref aBf, .int (rn), .int (rr)]))]) (wr := [(aMd, .inl (cI, 24, .inl (fun w => nI (db_rk (K w))))), (aO1, .inl (cI, 24, .inl (db_one1 K X Nm))), (aT2, .inl (cI, 24, .inl (db_two2 K Y Nm)))]) hG [0] [1, 2, 3] rfl rfl (by decide) (by decide) (va_runV (As := [.int (x)]) (rest := [.ref m0]) ⟨hx, hb, hml, hown, hts⟩ (rf_isValue l dC dI cI cZ m0 aMd aO1 aT2 aSh aMk aFa aDe aNe aBy aPi aNw aNs aBf ft (nI n) rs pd rn rr (x) H.size ) (dc_V 1 hts tw_573 tw_575 tp_M_isValue tw_7 tw_576 rfl rfl (by decide +kernel) ⟨Nat.le_of_ble_eq_true rfl, Nat.le_of_ble_eq_true rfl⟩) (dw_preV (ci := 5) hG [0] [0, 1] rfl rfl (by decide) rfl rfl (q0 := 0) rfl) rfl rfl hl.1 rfl (lv_room (Nat.le_of_ble_eq_true rfl)) dM_loop_3 ⟨Nat.le_refl _, Nat.le_refl _⟩) (fun r u H locs hp hG => ?_)
  subst hp
  have hG : dw_G (dC, dI) vwCl [(cI, .int), (cZ, .boolean)] A s.heap s [(aMd, .inl (cI, 24, .inl (fun w => nI (db_rk (K w))))), (aO1, .inl (cI, 24, .inl (db_one1 K X Nm))), (aT2, .inl (cI, 24, .inl (db_two2 K Y Nm))), (m0, .inr (5, [.int (ft), .int (nI (n)), .ref aMd, .ref aO1, .ref aT2, .int (rs), .ref aSh, .ref aMk, .ref aFa, .ref aDe, .ref aNe, .ref aBy, .ref aPi, .int (pd), .ref aNw, .ref aNs, .ref aBf, .int (rn), .int (rr)]))] H locs := hG
  refine lv_topi (nm_r (show (db_isv (x) (nI n) : Int32) = 0 from hinv) ?_)
  refine lv_if_ne (tgt := 13) hx hb dM_loop_6 (by decide) (fun h6 => ?_) (fun h6 => ?_)
  · skip
    replace h6 : ¬ 0 = 0 := fun hq0 => h6 ((nI_eq (a := 0) (b := 0) (by omega) (by omega)).mpr hq0)
    (exfalso; omega)
  replace h6 := (nI_eq (a := 0) (b := 0) (by omega) (by omega)).mp h6
  refine lv_iconst (v := 1) hx hb dM_loop_9 (by decide) ?_
  refine lv_goto (tgt := 27) hx hb dM_loop_10 (by decide) ?_
  refine lv_bipush (v := 11) hx hb dM_loop_27 (by decide) ?_
  refine lv_iload_n hx hb dM_loop_29 rfl (lv_at hl 1 rfl) ?_
  refine lv_aload_n hx hb dM_loop_30 rfl (lv_at hl 0 rfl) ?_
  refine dw_get hx hb hts inMc hown hG 3 1 rfl rfl (by decide) hw495 rfl rfl dM_loop_31 ?_
  refine dw_calli (wc := [(m0, .inr (5, [.int (ft), .int (nI (n)), .ref aMd, .ref aO1, .ref aT2, .int (rs), .ref aSh, .ref aMk, .ref aFa, .ref aDe, .ref aNe, .ref aBy, .ref aPi, .int (pd), .ref aNw, .ref aNs, .ref aBf, .int (rn), .int (rr)])), (aMd, .inl (cI, 24, .inl (fun w => nI (db_rk (K w))))), (aO1, .inl (cI, 24, .inl (db_one1 K X Nm))), (aT2, .inl (cI, 24, .inl (db_two2 K Y Nm)))]) (wr := []) hG [3, 0, 1, 2] [] rfl rfl (by decide) (by decide) (va_runV (As := [.int (1), .int (11), .int (x), .int (nI (n))]) (rest := []) ⟨hx, hb, hml, hown, hts⟩ (rf_makeW1 l dC dI cI cZ m0 aMd aO1 aT2 aSh aMk aFa aDe aNe aBy aPi aNw aNs aBf n ft rs pd rn rr (fun w => nI (db_rk (K w))) (db_one1 K X Nm) (db_two2 K Y Nm) (11) (x) (nI (n)) H.size ) (dc_V 4 hts tw_561 tw_563 tp_M_make tw_7 tw_564 rfl rfl (by decide +kernel) ⟨Nat.le_of_ble_eq_true rfl, Nat.le_of_ble_eq_true rfl⟩) (dw_preV (ci := 5) hG [3, 0, 1, 2] [0, 1] rfl rfl (by decide) rfl rfl (q0 := 3) rfl) rfl rfl hl.1 rfl (lv_room (Nat.le_of_ble_eq_true rfl)) dM_loop_34 ⟨Nat.le_refl _, Nat.le_refl _⟩) (fun r u H locs hp hG => ?_)
  subst hp
  have hG : dw_G (dC, dI) vwCl [(cI, .int), (cZ, .boolean)] A s.heap s [(m0, .inr (5, [.int (1), .int (nI (n)), .ref aMd, .ref aO1, .ref aT2, .int (rs), .ref aSh, .ref aMk, .ref aFa, .ref aDe, .ref aNe, .ref aBy, .ref aPi, .int (pd), .ref aNw, .ref aNs, .ref aBf, .int (rn), .int (rr)])), (aMd, .inl (cI, 24, .inl (fun w => nI (db_rk (K w))))), (aO1, .inl (cI, 24, .inl (db_one1 K X Nm))), (aT2, .inl (cI, 24, .inl (db_two2 K Y Nm)))] H locs := hG
  subst hQ
  exact dw_iret hx hb hr hG (()) rfl rfl dM_loop_37 hlocks

set_option maxRecDepth 100000 in
set_option maxHeartbeats 4000000 in
theorem rf_loop_2 (l : Launch) (dC : Nat → ClassId) (dI : Nat → Nat → Nat) (cI cZ : ClassId) (m0 aMd aO1 aT2 aSh aMk aFa aDe aNe aBy aPi aNw aNs aBf n : Nat) (ft rs pd rn rr : Int32) (K X Y : Nat → Nat) (Nm : Nat → Int32) (x : Nat) (sz : Nat) (hx9 : x < n) (hn : n = 24) : Met l yM_loop wsM_loop { frames := 1, cells := 0, slots := 0, locals := 30 } (va_Pc [.ref m0, .int (nI (x))] (dw_pre (dC, dI) vwCl [(m0, .inr (5, [.int (ft), .int (nI (n)), .ref aMd, .ref aO1, .ref aT2, .int (rs), .ref aSh, .ref aMk, .ref aFa, .ref aDe, .ref aNe, .ref aBy, .ref aPi, .int (pd), .ref aNw, .ref aNs, .ref aBf, .int (rn), .int (rr)])), (aMd, .inl (cI, 24, .inl (fun w => nI (db_rk (K w))))), (aO1, .inl (cI, 24, .inl (db_one1 K X Nm))), (aT2, .inl (cI, 24, .inl (db_two2 K Y Nm)))] [(cI, .int), (cZ, .boolean)] sz)) (va_Qi (fun (r : Int32) (u : Unit) => r = 0) (fun u t => dw_post (dC, dI) vwCl [(m0, .inr (5, [.int (2), .int (nI (n)), .ref aMd, .ref aO1, .ref aT2, .int (rs), .ref aSh, .ref aMk, .ref aFa, .ref aDe, .ref aNe, .ref aBy, .ref aPi, .int (pd), .ref aNw, .ref aNs, .ref aBf, .int (rn), .int (rr)])), (aMd, .inl (cI, 24, .inl (fun w => nI (db_rk (K w))))), (aO1, .inl (cI, 24, .inl (db_one1 K X Nm))), (aT2, .inl (cI, 24, .inl (db_two2 K Y Nm)))] [(cI, .int), (cZ, .boolean)] (va_A [(m0, .inr (5, [.int (ft), .int (nI (n)), .ref aMd, .ref aO1, .ref aT2, .int (rs), .ref aSh, .ref aMk, .ref aFa, .ref aDe, .ref aNe, .ref aBy, .ref aPi, .int (pd), .ref aNw, .ref aNs, .ref aBf, .int (rn), .int (rr)])), (aMd, .inl (cI, 24, .inl (fun w => nI (db_rk (K w))))), (aO1, .inl (cI, 24, .inl (db_one1 K X Nm))), (aT2, .inl (cI, 24, .inl (db_two2 K Y Nm)))] sz) t) (va_A [(m0, .inr (5, [.int (ft), .int (nI (n)), .ref aMd, .ref aO1, .ref aT2, .int (rs), .ref aSh, .ref aMk, .ref aFa, .ref aDe, .ref aNe, .ref aBy, .ref aPi, .int (pd), .ref aNw, .ref aNs, .ref aBf, .int (rn), .int (rr)])), (aMd, .inl (cI, 24, .inl (fun w => nI (db_rk (K w))))), (aO1, .inl (cI, 24, .inl (db_one1 K X Nm))), (aT2, .inl (cI, 24, .inl (db_two2 K Y Nm)))] sz)) 0 0 (va_A [(m0, .inr (5, [.int (ft), .int (nI (n)), .ref aMd, .ref aO1, .ref aT2, .int (rs), .ref aSh, .ref aMk, .ref aFa, .ref aDe, .ref aNe, .ref aBy, .ref aPi, .int (pd), .ref aNw, .ref aNs, .ref aBf, .int (rn), .int (rr)])), (aMd, .inl (cI, 24, .inl (fun w => nI (db_rk (K w))))), (aO1, .inl (cI, 24, .inl (db_one1 K X Nm))), (aT2, .inl (cI, 24, .inl (db_two2 K Y Nm)))] sz) := by
  refine Met.ofW (cc := cM_loop) (maxL := 2) (ret := (some .int)) (by decide) rfl ?_
  intro p e s m args below meth c s₁ B hml hv0
  have hx := B.exec
  have hb := B.bytes
  have hr := B.returns
  have hts := atoms_spec (ws := wsM_loop) B.pre
  have hown : s.vm.findClass RM = some m.cls := findClass_of_methodNamed B.named
  have hlocks := B.notSynchronized
  obtain ⟨rfl, hsz, hG⟩ := dw_enter hv0
  generalize va_A [(m0, .inr (5, [.int (ft), .int (nI (n)), .ref aMd, .ref aO1, .ref aT2, .int (rs), .ref aSh, .ref aMk, .ref aFa, .ref aDe, .ref aNe, .ref aBy, .ref aPi, .int (pd), .ref aNw, .ref aNs, .ref aBf, .int (rn), .int (rr)])), (aMd, .inl (cI, 24, .inl (fun w => nI (db_rk (K w))))), (aO1, .inl (cI, 24, .inl (db_one1 K X Nm))), (aT2, .inl (cI, 24, .inl (db_two2 K Y Nm)))] sz = A at hG ⊢
  have hl := lv_entry ([.ref m0, .int (nI (x))]) (n := 2) (Nat.le_of_ble_eq_true rfl)
  rw [lg_entry_eq]
  generalize (lg_sl ([.ref m0, .int (nI (x))]) ++ List.replicate (2 - (lg_sl ([.ref m0, .int (nI (x))])).length) Slot.unset).toArray = ls at hl ⊢
  have hl : lv_has ls 2 [(0, .ref m0), (1, .int (nI (x)))] := hl
  have hw495 := hts _ (List.mem_cons_of_mem _ tw_495)
  refine dw_Q (fun Q hQ => ?_)
  suffices hgo : ∀ (H : Heap) (locs : List Loc), dw_G (dC, dI) vwCl [(cI, .int), (cZ, .boolean)] A s.heap s [(m0, .inr (5, [.int (ft), .int (nI (n)), .ref aMd, .ref aO1, .ref aT2, .int (rs), .ref aSh, .ref aMk, .ref aFa, .ref aDe, .ref aNe, .ref aBy, .ref aPi, .int (pd), .ref aNw, .ref aNs, .ref aBf, .int (rn), .int (rr)])), (aMd, .inl (cI, 24, .inl (fun w => nI (db_rk (K w))))), (aO1, .inl (cI, 24, .inl (db_one1 K X Nm))), (aT2, .inl (cI, 24, .inl (db_two2 K Y Nm)))] H locs → W p l e (headSpec wsM_loop { frames := 1, cells := 0, slots := 0, locals := 30 }).room s m [.ref m0, .int (nI (x))].toArray below meth c H locs 0 0 Q (F0 m 0 ls []) from hgo _ _ hG
  clear hG
  intro H locs hG
  refine lv_aload_n hx hb dM_loop_0 rfl (lv_at hl 0 rfl) ?_
  refine lv_aload_n hx hb dM_loop_1 rfl (lv_at hl 0 rfl) ?_
  refine lv_iload_n hx hb dM_loop_2 rfl (lv_at hl 1 rfl) ?_
  refine dw_calli (wc := [(m0, .inr (5, [.int (ft), .int (nI (n)), .ref aMd, .ref aO1, .ref aT2, .int (rs), .ref aSh, .ref aMk, .ref aFa, .ref aDe, .ref aNe, .ref aBy, .ref aPi, .int (pd), .ref aNw, .ref aNs, .ref aBf, .int (rn), .int (rr)]))]) (wr := [(aMd, .inl (cI, 24, .inl (fun w => nI (db_rk (K w))))), (aO1, .inl (cI, 24, .inl (db_one1 K X Nm))), (aT2, .inl (cI, 24, .inl (db_two2 K Y Nm)))]) hG [0] [1, 2, 3] rfl rfl (by decide) (by decide) (va_runV (As := [.int (nI (x))]) (rest := [.ref m0]) ⟨hx, hb, hml, hown, hts⟩ (rf_isValue l dC dI cI cZ m0 aMd aO1 aT2 aSh aMk aFa aDe aNe aBy aPi aNw aNs aBf ft (nI n) rs pd rn rr (nI (x)) H.size ) (dc_V 1 hts tw_573 tw_575 tp_M_isValue tw_7 tw_576 rfl rfl (by decide +kernel) ⟨Nat.le_of_ble_eq_true rfl, Nat.le_of_ble_eq_true rfl⟩) (dw_preV (ci := 5) hG [0] [0, 1] rfl rfl (by decide) rfl rfl (q0 := 0) rfl) rfl rfl hl.1 rfl (lv_room (Nat.le_of_ble_eq_true rfl)) dM_loop_3 ⟨Nat.le_refl _, Nat.le_refl _⟩) (fun r u H locs hp hG => ?_)
  subst hp
  have hG : dw_G (dC, dI) vwCl [(cI, .int), (cZ, .boolean)] A s.heap s [(aMd, .inl (cI, 24, .inl (fun w => nI (db_rk (K w))))), (aO1, .inl (cI, 24, .inl (db_one1 K X Nm))), (aT2, .inl (cI, 24, .inl (db_two2 K Y Nm))), (m0, .inr (5, [.int (ft), .int (nI (n)), .ref aMd, .ref aO1, .ref aT2, .int (rs), .ref aSh, .ref aMk, .ref aFa, .ref aDe, .ref aNe, .ref aBy, .ref aPi, .int (pd), .ref aNw, .ref aNs, .ref aBf, .int (rn), .int (rr)]))] H locs := hG
  refine lv_topi (nm_r (show (db_isv (nI (x)) (nI n) : Int32) = 1 from (db_isv_y (by omega) (by omega))) ?_)
  refine lv_if_ne (tgt := 13) hx hb dM_loop_6 (by decide) (fun h6 => ?_) (fun h6 => ?_)
  · skip
    replace h6 : ¬ 1 = 0 := fun hq0 => h6 ((nI_eq (a := 1) (b := 0) (by omega) (by omega)).mpr hq0)
    refine lv_aload_n hx hb dM_loop_13 rfl (lv_at hl 0 rfl) ?_
    refine dw_get hx hb hts inMc hown hG 3 1 rfl rfl (by decide) hw495 rfl rfl dM_loop_14 ?_
    refine lv_bipush (v := 24) hx hb dM_loop_17 (by decide) ?_
    refine lv_icmp_ne (tgt := 26) hx hb dM_loop_19 (by decide) (fun h19 => ?_) (fun h19 => ?_)
    · skip
      replace h19 : ¬ n = 24 := fun hq0 => h19 ((nI_eq (a := n) (b := 24) (by omega) (by omega)).mpr hq0)
      (exfalso; omega)
    replace h19 := (nI_eq (a := n) (b := 24) (by omega) (by omega)).mp h19
    refine lv_iconst (v := 2) hx hb dM_loop_22 (by decide) ?_
    refine lv_goto (tgt := 27) hx hb dM_loop_23 (by decide) ?_
    refine lv_bipush (v := 11) hx hb dM_loop_27 (by decide) ?_
    refine lv_iload_n hx hb dM_loop_29 rfl (lv_at hl 1 rfl) ?_
    refine lv_aload_n hx hb dM_loop_30 rfl (lv_at hl 0 rfl) ?_
    refine dw_get hx hb hts inMc hown hG 3 1 rfl rfl (by decide) hw495 rfl rfl dM_loop_31 ?_
    refine dw_calli (wc := [(m0, .inr (5, [.int (ft), .int (nI (n)), .ref aMd, .ref aO1, .ref aT2, .int (rs), .ref aSh, .ref aMk, .ref aFa, .ref aDe, .ref aNe, .ref aBy, .ref aPi, .int (pd), .ref aNw, .ref aNs, .ref aBf, .int (rn), .int (rr)])), (aMd, .inl (cI, 24, .inl (fun w => nI (db_rk (K w))))), (aO1, .inl (cI, 24, .inl (db_one1 K X Nm))), (aT2, .inl (cI, 24, .inl (db_two2 K Y Nm)))]) (wr := []) hG [3, 0, 1, 2] [] rfl rfl (by decide) (by decide) (va_runV (As := [.int (2), .int (11), .int (nI (x)), .int (nI (n))]) (rest := []) ⟨hx, hb, hml, hown, hts⟩ (rf_makeW2 l dC dI cI cZ m0 aMd aO1 aT2 aSh aMk aFa aDe aNe aBy aPi aNw aNs aBf n ft rs pd rn rr (fun w => nI (db_rk (K w))) (db_one1 K X Nm) (db_two2 K Y Nm) (11) (nI (x)) (nI (n)) H.size ) (dc_V 4 hts tw_561 tw_563 tp_M_make tw_7 tw_564 rfl rfl (by decide +kernel) ⟨Nat.le_of_ble_eq_true rfl, Nat.le_of_ble_eq_true rfl⟩) (dw_preV (ci := 5) hG [3, 0, 1, 2] [0, 1] rfl rfl (by decide) rfl rfl (q0 := 3) rfl) rfl rfl hl.1 rfl (lv_room (Nat.le_of_ble_eq_true rfl)) dM_loop_34 ⟨Nat.le_refl _, Nat.le_refl _⟩) (fun r u H locs hp hG => ?_)
    subst hp
    have hG : dw_G (dC, dI) vwCl [(cI, .int), (cZ, .boolean)] A s.heap s [(m0, .inr (5, [.int (2), .int (nI (n)), .ref aMd, .ref aO1, .ref aT2, .int (rs), .ref aSh, .ref aMk, .ref aFa, .ref aDe, .ref aNe, .ref aBy, .ref aPi, .int (pd), .ref aNw, .ref aNs, .ref aBf, .int (rn), .int (rr)])), (aMd, .inl (cI, 24, .inl (fun w => nI (db_rk (K w))))), (aO1, .inl (cI, 24, .inl (db_one1 K X Nm))), (aT2, .inl (cI, 24, .inl (db_two2 K Y Nm)))] H locs := hG
    subst hQ
    exact dw_iret hx hb hr hG (()) rfl rfl dM_loop_37 hlocks
  replace h6 := (nI_eq (a := 1) (b := 0) (by omega) (by omega)).mp h6
  (exfalso; omega)

set_option maxRecDepth 100000 in
set_option maxHeartbeats 4000000 in
theorem rf_back_0 (l : Launch) (dC : Nat → ClassId) (dI : Nat → Nat → Nat) (cI cZ : ClassId) (m0 aMd aO1 aT2 aSh aMk aFa aDe aNe aBy aPi aNw aNs aBf n : Nat) (ft rs pd rn rr : Int32) (K X Y : Nat → Nat) (Nm : Nat → Int32) (v y : Nat) (sz : Nat) (hv : v < n) (hy9 : y < n) (hn : n ≤ 24) (hk13 : K v ≤ 13) (hkv : K v = 13) : Met l yM_back wsM_back { frames := 1, cells := 0, slots := 0, locals := 30 } (va_Pc [.ref m0, .int (nI (v)), .int (nI (y))] (dw_pre (dC, dI) vwCl [(m0, .inr (5, [.int (ft), .int (nI (n)), .ref aMd, .ref aO1, .ref aT2, .int (rs), .ref aSh, .ref aMk, .ref aFa, .ref aDe, .ref aNe, .ref aBy, .ref aPi, .int (pd), .ref aNw, .ref aNs, .ref aBf, .int (rn), .int (rr)])), (aMd, .inl (cI, 24, .inl (fun w => nI (db_rk (K w))))), (aO1, .inl (cI, 24, .inl (db_one1 K X Nm))), (aT2, .inl (cI, 24, .inl (db_two2 K Y Nm)))] [(cI, .int), (cZ, .boolean)] sz)) (va_Qv (fun (u : Unit) => True) (fun u t => dw_post (dC, dI) vwCl [(m0, .inr (5, [.int (0), .int (nI (n)), .ref aMd, .ref aO1, .ref aT2, .int (rs), .ref aSh, .ref aMk, .ref aFa, .ref aDe, .ref aNe, .ref aBy, .ref aPi, .int (pd), .ref aNw, .ref aNs, .ref aBf, .int (rn), .int (rr)])), (aMd, .inl (cI, 24, .inl (fun w => nI (db_rk (K w))))), (aO1, .inl (cI, 24, .inl (db_one1 K X Nm))), (aT2, .inl (cI, 24, .inl (db_two2 K (db_upN Y v y) Nm)))] [(cI, .int), (cZ, .boolean)] (va_A [(m0, .inr (5, [.int (ft), .int (nI (n)), .ref aMd, .ref aO1, .ref aT2, .int (rs), .ref aSh, .ref aMk, .ref aFa, .ref aDe, .ref aNe, .ref aBy, .ref aPi, .int (pd), .ref aNw, .ref aNs, .ref aBf, .int (rn), .int (rr)])), (aMd, .inl (cI, 24, .inl (fun w => nI (db_rk (K w))))), (aO1, .inl (cI, 24, .inl (db_one1 K X Nm))), (aT2, .inl (cI, 24, .inl (db_two2 K Y Nm)))] sz) t) (va_A [(m0, .inr (5, [.int (ft), .int (nI (n)), .ref aMd, .ref aO1, .ref aT2, .int (rs), .ref aSh, .ref aMk, .ref aFa, .ref aDe, .ref aNe, .ref aBy, .ref aPi, .int (pd), .ref aNw, .ref aNs, .ref aBf, .int (rn), .int (rr)])), (aMd, .inl (cI, 24, .inl (fun w => nI (db_rk (K w))))), (aO1, .inl (cI, 24, .inl (db_one1 K X Nm))), (aT2, .inl (cI, 24, .inl (db_two2 K Y Nm)))] sz)) 0 0 (va_A [(m0, .inr (5, [.int (ft), .int (nI (n)), .ref aMd, .ref aO1, .ref aT2, .int (rs), .ref aSh, .ref aMk, .ref aFa, .ref aDe, .ref aNe, .ref aBy, .ref aPi, .int (pd), .ref aNw, .ref aNs, .ref aBf, .int (rn), .int (rr)])), (aMd, .inl (cI, 24, .inl (fun w => nI (db_rk (K w))))), (aO1, .inl (cI, 24, .inl (db_one1 K X Nm))), (aT2, .inl (cI, 24, .inl (db_two2 K Y Nm)))] sz) := by
  refine Met.ofW (cc := cM_back) (maxL := 3) (ret := none) (by decide) rfl ?_
  intro p e s m args below meth c s₁ B hml hv0
  have hx := B.exec
  have hb := B.bytes
  have hr := B.returns
  have hts := atoms_spec (ws := wsM_back) B.pre
  have hown : s.vm.findClass RM = some m.cls := findClass_of_methodNamed B.named
  have hlocks := B.notSynchronized
  obtain ⟨rfl, hsz, hG⟩ := dw_enter hv0
  generalize va_A [(m0, .inr (5, [.int (ft), .int (nI (n)), .ref aMd, .ref aO1, .ref aT2, .int (rs), .ref aSh, .ref aMk, .ref aFa, .ref aDe, .ref aNe, .ref aBy, .ref aPi, .int (pd), .ref aNw, .ref aNs, .ref aBf, .int (rn), .int (rr)])), (aMd, .inl (cI, 24, .inl (fun w => nI (db_rk (K w))))), (aO1, .inl (cI, 24, .inl (db_one1 K X Nm))), (aT2, .inl (cI, 24, .inl (db_two2 K Y Nm)))] sz = A at hG ⊢
  have hl := lv_entry ([.ref m0, .int (nI (v)), .int (nI (y))]) (n := 3) (Nat.le_of_ble_eq_true rfl)
  rw [lg_entry_eq]
  generalize (lg_sl ([.ref m0, .int (nI (v)), .int (nI (y))]) ++ List.replicate (3 - (lg_sl ([.ref m0, .int (nI (v)), .int (nI (y))])).length) Slot.unset).toArray = ls at hl ⊢
  have hl : lv_has ls 3 [(0, .ref m0), (1, .int (nI (v))), (2, .int (nI (y)))] := hl
  have hw496 := hts _ (List.mem_cons_of_mem _ tw_496)
  have hw494 := hts _ (List.mem_cons_of_mem _ tw_494)
  have hw498 := hts _ (List.mem_cons_of_mem _ tw_498)
  have hrk := db_rk_le hk13
  have hr13 := db_rk13 hk13
  refine dw_Q (fun Q hQ => ?_)
  suffices hgo : ∀ (H : Heap) (locs : List Loc), dw_G (dC, dI) vwCl [(cI, .int), (cZ, .boolean)] A s.heap s [(m0, .inr (5, [.int (ft), .int (nI (n)), .ref aMd, .ref aO1, .ref aT2, .int (rs), .ref aSh, .ref aMk, .ref aFa, .ref aDe, .ref aNe, .ref aBy, .ref aPi, .int (pd), .ref aNw, .ref aNs, .ref aBf, .int (rn), .int (rr)])), (aMd, .inl (cI, 24, .inl (fun w => nI (db_rk (K w))))), (aO1, .inl (cI, 24, .inl (db_one1 K X Nm))), (aT2, .inl (cI, 24, .inl (db_two2 K Y Nm)))] H locs → W p l e (headSpec wsM_back { frames := 1, cells := 0, slots := 0, locals := 30 }).room s m [.ref m0, .int (nI (v)), .int (nI (y))].toArray below meth c H locs 0 0 Q (F0 m 0 ls []) from hgo _ _ hG
  clear hG
  intro H locs hG
  refine lv_aload_n hx hb dM_back_0 rfl (lv_at hl 0 rfl) ?_
  refine lv_aload_n hx hb dM_back_1 rfl (lv_at hl 0 rfl) ?_
  refine lv_iload_n hx hb dM_back_2 rfl (lv_at hl 1 rfl) ?_
  refine dw_calli (wc := [(m0, .inr (5, [.int (ft), .int (nI (n)), .ref aMd, .ref aO1, .ref aT2, .int (rs), .ref aSh, .ref aMk, .ref aFa, .ref aDe, .ref aNe, .ref aBy, .ref aPi, .int (pd), .ref aNw, .ref aNs, .ref aBf, .int (rn), .int (rr)]))]) (wr := [(aMd, .inl (cI, 24, .inl (fun w => nI (db_rk (K w))))), (aO1, .inl (cI, 24, .inl (db_one1 K X Nm))), (aT2, .inl (cI, 24, .inl (db_two2 K Y Nm)))]) hG [0] [1, 2, 3] rfl rfl (by decide) (by decide) (va_runV (As := [.int (nI (v))]) (rest := [.ref m0]) ⟨hx, hb, hml, hown, hts⟩ (rf_isValue l dC dI cI cZ m0 aMd aO1 aT2 aSh aMk aFa aDe aNe aBy aPi aNw aNs aBf ft (nI n) rs pd rn rr (nI (v)) H.size ) (dc_V 1 hts tw_573 tw_575 tp_M_isValue tw_7 tw_576 rfl rfl (by decide +kernel) ⟨Nat.le_of_ble_eq_true rfl, Nat.le_of_ble_eq_true rfl⟩) (dw_preV (ci := 5) hG [0] [0, 1] rfl rfl (by decide) rfl rfl (q0 := 0) rfl) rfl rfl hl.1 rfl (lv_room (Nat.le_of_ble_eq_true rfl)) dM_back_3 ⟨Nat.le_refl _, Nat.le_refl _⟩) (fun r u H locs hp hG => ?_)
  subst hp
  have hG : dw_G (dC, dI) vwCl [(cI, .int), (cZ, .boolean)] A s.heap s [(aMd, .inl (cI, 24, .inl (fun w => nI (db_rk (K w))))), (aO1, .inl (cI, 24, .inl (db_one1 K X Nm))), (aT2, .inl (cI, 24, .inl (db_two2 K Y Nm))), (m0, .inr (5, [.int (ft), .int (nI (n)), .ref aMd, .ref aO1, .ref aT2, .int (rs), .ref aSh, .ref aMk, .ref aFa, .ref aDe, .ref aNe, .ref aBy, .ref aPi, .int (pd), .ref aNw, .ref aNs, .ref aBf, .int (rn), .int (rr)]))] H locs := hG
  refine lv_topi (nm_r (show (db_isv (nI (v)) (nI n) : Int32) = 1 from (db_isv_y (by omega) (by omega))) ?_)
  refine lv_if_eq (tgt := 17) hx hb dM_back_6 (by decide) (fun h6 => ?_) (fun h6 => ?_)
  · skip
    replace h6 := (nI_eq (a := 1) (b := 0) (by omega) (by omega)).mp h6
    (exfalso; omega)
  replace h6 : ¬ 1 = 0 := fun hq0 => h6 ((nI_eq (a := 1) (b := 0) (by omega) (by omega)).mpr hq0)
  refine lv_aload_n hx hb dM_back_9 rfl (lv_at hl 0 rfl) ?_
  refine lv_iload_n hx hb dM_back_10 rfl (lv_at hl 2 rfl) ?_
  refine dw_calli (wc := [(m0, .inr (5, [.int (ft), .int (nI (n)), .ref aMd, .ref aO1, .ref aT2, .int (rs), .ref aSh, .ref aMk, .ref aFa, .ref aDe, .ref aNe, .ref aBy, .ref aPi, .int (pd), .ref aNw, .ref aNs, .ref aBf, .int (rn), .int (rr)]))]) (wr := [(aMd, .inl (cI, 24, .inl (fun w => nI (db_rk (K w))))), (aO1, .inl (cI, 24, .inl (db_one1 K X Nm))), (aT2, .inl (cI, 24, .inl (db_two2 K Y Nm)))]) hG [3] [0, 1, 2] rfl rfl (by decide) (by decide) (va_runV (As := [.int (nI (y))]) (rest := [.ref m0]) ⟨hx, hb, hml, hown, hts⟩ (rf_isValue l dC dI cI cZ m0 aMd aO1 aT2 aSh aMk aFa aDe aNe aBy aPi aNw aNs aBf ft (nI n) rs pd rn rr (nI (y)) H.size ) (dc_V 1 hts tw_573 tw_575 tp_M_isValue tw_7 tw_576 rfl rfl (by decide +kernel) ⟨Nat.le_of_ble_eq_true rfl, Nat.le_of_ble_eq_true rfl⟩) (dw_preV (ci := 5) hG [3] [0, 1] rfl rfl (by decide) rfl rfl (q0 := 3) rfl) rfl rfl hl.1 rfl (lv_room (Nat.le_of_ble_eq_true rfl)) dM_back_11 ⟨Nat.le_refl _, Nat.le_refl _⟩) (fun r u H locs hp hG => ?_)
  subst hp
  have hG : dw_G (dC, dI) vwCl [(cI, .int), (cZ, .boolean)] A s.heap s [(aMd, .inl (cI, 24, .inl (fun w => nI (db_rk (K w))))), (aO1, .inl (cI, 24, .inl (db_one1 K X Nm))), (aT2, .inl (cI, 24, .inl (db_two2 K Y Nm))), (m0, .inr (5, [.int (ft), .int (nI (n)), .ref aMd, .ref aO1, .ref aT2, .int (rs), .ref aSh, .ref aMk, .ref aFa, .ref aDe, .ref aNe, .ref aBy, .ref aPi, .int (pd), .ref aNw, .ref aNs, .ref aBf, .int (rn), .int (rr)]))] H locs := hG
  refine lv_topi (nm_r (show (db_isv (nI (y)) (nI n) : Int32) = 1 from (db_isv_y (by omega) (by omega))) ?_)
  refine lv_if_ne (tgt := 21) hx hb dM_back_14 (by decide) (fun h14 => ?_) (fun h14 => ?_)
  · skip
    replace h14 : ¬ 1 = 0 := fun hq0 => h14 ((nI_eq (a := 1) (b := 0) (by omega) (by omega)).mpr hq0)
    refine lv_aload_n hx hb dM_back_21 rfl (lv_at hl 0 rfl) ?_
    refine dw_get hx hb hts inMc hown hG 3 2 rfl rfl (by decide) hw496 rfl rfl dM_back_22 ?_
    refine lv_iload_n hx hb dM_back_25 rfl (lv_at hl 1 rfl) ?_
    refine dw_ia (x := nI (db_rk (K v))) hx hb hG 0 0 rfl rfl (v) rfl (by omega) (by decide) rfl dM_back_26 ?_
    refine lv_bipush (v := 11) hx hb dM_back_27 (by decide) ?_
    refine lv_icmp_eq (tgt := 36) hx hb dM_back_29 (by decide) (fun h29 => ?_) (fun h29 => ?_)
    · skip
      replace h29 := (nI_eq (a := db_rk (K v)) (b := 11) (by omega) (by omega)).mp h29
      refine lv_iconst (v := 0) hx hb dM_back_36 (by decide) ?_
      refine dw_put (ws' := [(aMd, .inl (cI, 24, .inl (fun w => nI (db_rk (K w))))), (aO1, .inl (cI, 24, .inl (db_one1 K X Nm))), (aT2, .inl (cI, 24, .inl (db_two2 K Y Nm))), (m0, .inr (5, [.int (0), .int (nI (n)), .ref aMd, .ref aO1, .ref aT2, .int (rs), .ref aSh, .ref aMk, .ref aFa, .ref aDe, .ref aNe, .ref aBy, .ref aPi, .int (pd), .ref aNw, .ref aNs, .ref aBf, .int (rn), .int (rr)]))]) hx hb hts inMc tyM tyM_ok nmM hown hG 3 0 rfl rfl (by decide) hw494 rfl rfl (ty := .int) (by decide +kernel) rfl rfl (Nat.le_of_ble_eq_true rfl) dM_back_37 rfl (fun H locs hG => ?_)
      refine lv_aload_n hx hb dM_back_40 rfl (lv_at hl 0 rfl) ?_
      refine dw_get hx hb hts inMc hown hG 3 0 rfl rfl (by decide) hw494 rfl rfl dM_back_41 ?_
      refine lv_if_ne (tgt := 54) hx hb dM_back_44 (by decide) (fun h44 => ?_) (fun h44 => ?_)
      · skip
        replace h44 : ¬ 0 = 0 := fun hq0 => h44 ((nI_eq (a := 0) (b := 0) (by omega) (by omega)).mpr hq0)
        (exfalso; omega)
      replace h44 := (nI_eq (a := 0) (b := 0) (by omega) (by omega)).mp h44
      refine lv_aload_n hx hb dM_back_47 rfl (lv_at hl 0 rfl) ?_
      refine dw_get hx hb hts inMc hown hG 3 4 rfl rfl (by decide) hw498 rfl rfl dM_back_48 ?_
      refine lv_iload_n hx hb dM_back_51 rfl (lv_at hl 1 rfl) ?_
      refine lv_iload_n hx hb dM_back_52 rfl (lv_at hl 2 rfl) ?_
      refine dw_is (ws' := [(aMd, .inl (cI, 24, .inl (fun w => nI (db_rk (K w))))), (aO1, .inl (cI, 24, .inl (db_one1 K X Nm))), (aT2, .inl (cI, 24, .inl (upd (db_two2 K Y Nm) (v) (nI (y))))), (m0, .inr (5, [.int (0), .int (nI (n)), .ref aMd, .ref aO1, .ref aT2, .int (rs), .ref aSh, .ref aMk, .ref aFa, .ref aDe, .ref aNe, .ref aBy, .ref aPi, .int (pd), .ref aNw, .ref aNs, .ref aBf, .int (rn), .int (rr)]))]) hx hb hG 2 0 rfl rfl (v) rfl (by omega) (by decide) dM_back_53 rfl (fun H locs hG => ?_)
      subst hQ
      exact dw_vret hx hb hr (dw_perm hG [3, 0, 1, 2] (by decide) rfl rfl) (()) (by rw [db_t2_back K Y Nm v y hkv] <;> rfl) trivial dM_back_54 hlocks
    replace h29 : ¬ db_rk (K v) = 11 := fun hq0 => h29 ((nI_eq (a := db_rk (K v)) (b := 11) (by omega) (by omega)).mpr hq0)
    (exfalso; omega)
  replace h14 := (nI_eq (a := 1) (b := 0) (by omega) (by omega)).mp h14
  (exfalso; omega)

set_option maxRecDepth 100000 in
set_option maxHeartbeats 4000000 in
theorem rf_back_1v (l : Launch) (dC : Nat → ClassId) (dI : Nat → Nat → Nat) (cI cZ : ClassId) (m0 aMd aO1 aT2 aSh aMk aFa aDe aNe aBy aPi aNw aNs aBf n : Nat) (ft rs pd rn rr : Int32) (K X Y : Nat → Nat) (Nm : Nat → Int32) (v y : Int32) (sz : Nat) (hn : n ≤ 24) (hinv : db_isv v (nI n) = 0) : Met l yM_back wsM_back { frames := 1, cells := 0, slots := 0, locals := 30 } (va_Pc [.ref m0, .int (v), .int (y)] (dw_pre (dC, dI) vwCl [(m0, .inr (5, [.int (ft), .int (nI (n)), .ref aMd, .ref aO1, .ref aT2, .int (rs), .ref aSh, .ref aMk, .ref aFa, .ref aDe, .ref aNe, .ref aBy, .ref aPi, .int (pd), .ref aNw, .ref aNs, .ref aBf, .int (rn), .int (rr)])), (aMd, .inl (cI, 24, .inl (fun w => nI (db_rk (K w))))), (aO1, .inl (cI, 24, .inl (db_one1 K X Nm))), (aT2, .inl (cI, 24, .inl (db_two2 K Y Nm)))] [(cI, .int), (cZ, .boolean)] sz)) (va_Qv (fun (u : Unit) => True) (fun u t => dw_post (dC, dI) vwCl [(m0, .inr (5, [.int (1), .int (nI (n)), .ref aMd, .ref aO1, .ref aT2, .int (rs), .ref aSh, .ref aMk, .ref aFa, .ref aDe, .ref aNe, .ref aBy, .ref aPi, .int (pd), .ref aNw, .ref aNs, .ref aBf, .int (rn), .int (rr)])), (aMd, .inl (cI, 24, .inl (fun w => nI (db_rk (K w))))), (aO1, .inl (cI, 24, .inl (db_one1 K X Nm))), (aT2, .inl (cI, 24, .inl (db_two2 K Y Nm)))] [(cI, .int), (cZ, .boolean)] (va_A [(m0, .inr (5, [.int (ft), .int (nI (n)), .ref aMd, .ref aO1, .ref aT2, .int (rs), .ref aSh, .ref aMk, .ref aFa, .ref aDe, .ref aNe, .ref aBy, .ref aPi, .int (pd), .ref aNw, .ref aNs, .ref aBf, .int (rn), .int (rr)])), (aMd, .inl (cI, 24, .inl (fun w => nI (db_rk (K w))))), (aO1, .inl (cI, 24, .inl (db_one1 K X Nm))), (aT2, .inl (cI, 24, .inl (db_two2 K Y Nm)))] sz) t) (va_A [(m0, .inr (5, [.int (ft), .int (nI (n)), .ref aMd, .ref aO1, .ref aT2, .int (rs), .ref aSh, .ref aMk, .ref aFa, .ref aDe, .ref aNe, .ref aBy, .ref aPi, .int (pd), .ref aNw, .ref aNs, .ref aBf, .int (rn), .int (rr)])), (aMd, .inl (cI, 24, .inl (fun w => nI (db_rk (K w))))), (aO1, .inl (cI, 24, .inl (db_one1 K X Nm))), (aT2, .inl (cI, 24, .inl (db_two2 K Y Nm)))] sz)) 0 0 (va_A [(m0, .inr (5, [.int (ft), .int (nI (n)), .ref aMd, .ref aO1, .ref aT2, .int (rs), .ref aSh, .ref aMk, .ref aFa, .ref aDe, .ref aNe, .ref aBy, .ref aPi, .int (pd), .ref aNw, .ref aNs, .ref aBf, .int (rn), .int (rr)])), (aMd, .inl (cI, 24, .inl (fun w => nI (db_rk (K w))))), (aO1, .inl (cI, 24, .inl (db_one1 K X Nm))), (aT2, .inl (cI, 24, .inl (db_two2 K Y Nm)))] sz) := by
  refine Met.ofW (cc := cM_back) (maxL := 3) (ret := none) (by decide) rfl ?_
  intro p e s m args below meth c s₁ B hml hv0
  have hx := B.exec
  have hb := B.bytes
  have hr := B.returns
  have hts := atoms_spec (ws := wsM_back) B.pre
  have hown : s.vm.findClass RM = some m.cls := findClass_of_methodNamed B.named
  have hlocks := B.notSynchronized
  obtain ⟨rfl, hsz, hG⟩ := dw_enter hv0
  generalize va_A [(m0, .inr (5, [.int (ft), .int (nI (n)), .ref aMd, .ref aO1, .ref aT2, .int (rs), .ref aSh, .ref aMk, .ref aFa, .ref aDe, .ref aNe, .ref aBy, .ref aPi, .int (pd), .ref aNw, .ref aNs, .ref aBf, .int (rn), .int (rr)])), (aMd, .inl (cI, 24, .inl (fun w => nI (db_rk (K w))))), (aO1, .inl (cI, 24, .inl (db_one1 K X Nm))), (aT2, .inl (cI, 24, .inl (db_two2 K Y Nm)))] sz = A at hG ⊢
  have hl := lv_entry ([.ref m0, .int (v), .int (y)]) (n := 3) (Nat.le_of_ble_eq_true rfl)
  rw [lg_entry_eq]
  generalize (lg_sl ([.ref m0, .int (v), .int (y)]) ++ List.replicate (3 - (lg_sl ([.ref m0, .int (v), .int (y)])).length) Slot.unset).toArray = ls at hl ⊢
  have hl : lv_has ls 3 [(0, .ref m0), (1, .int (v)), (2, .int (y))] := hl
  have hw494 := hts _ (List.mem_cons_of_mem _ tw_494)
  refine dw_Q (fun Q hQ => ?_)
  suffices hgo : ∀ (H : Heap) (locs : List Loc), dw_G (dC, dI) vwCl [(cI, .int), (cZ, .boolean)] A s.heap s [(m0, .inr (5, [.int (ft), .int (nI (n)), .ref aMd, .ref aO1, .ref aT2, .int (rs), .ref aSh, .ref aMk, .ref aFa, .ref aDe, .ref aNe, .ref aBy, .ref aPi, .int (pd), .ref aNw, .ref aNs, .ref aBf, .int (rn), .int (rr)])), (aMd, .inl (cI, 24, .inl (fun w => nI (db_rk (K w))))), (aO1, .inl (cI, 24, .inl (db_one1 K X Nm))), (aT2, .inl (cI, 24, .inl (db_two2 K Y Nm)))] H locs → W p l e (headSpec wsM_back { frames := 1, cells := 0, slots := 0, locals := 30 }).room s m [.ref m0, .int (v), .int (y)].toArray below meth c H locs 0 0 Q (F0 m 0 ls []) from hgo _ _ hG
  clear hG
  intro H locs hG
  refine lv_aload_n hx hb dM_back_0 rfl (lv_at hl 0 rfl) ?_
  refine lv_aload_n hx hb dM_back_1 rfl (lv_at hl 0 rfl) ?_
  refine lv_iload_n hx hb dM_back_2 rfl (lv_at hl 1 rfl) ?_
  refine dw_calli (wc := [(m0, .inr (5, [.int (ft), .int (nI (n)), .ref aMd, .ref aO1, .ref aT2, .int (rs), .ref aSh, .ref aMk, .ref aFa, .ref aDe, .ref aNe, .ref aBy, .ref aPi, .int (pd), .ref aNw, .ref aNs, .ref aBf, .int (rn), .int (rr)]))]) (wr := [(aMd, .inl (cI, 24, .inl (fun w => nI (db_rk (K w))))), (aO1, .inl (cI, 24, .inl (db_one1 K X Nm))), (aT2, .inl (cI, 24, .inl (db_two2 K Y Nm)))]) hG [0] [1, 2, 3] rfl rfl (by decide) (by decide) (va_runV (As := [.int (v)]) (rest := [.ref m0]) ⟨hx, hb, hml, hown, hts⟩ (rf_isValue l dC dI cI cZ m0 aMd aO1 aT2 aSh aMk aFa aDe aNe aBy aPi aNw aNs aBf ft (nI n) rs pd rn rr (v) H.size ) (dc_V 1 hts tw_573 tw_575 tp_M_isValue tw_7 tw_576 rfl rfl (by decide +kernel) ⟨Nat.le_of_ble_eq_true rfl, Nat.le_of_ble_eq_true rfl⟩) (dw_preV (ci := 5) hG [0] [0, 1] rfl rfl (by decide) rfl rfl (q0 := 0) rfl) rfl rfl hl.1 rfl (lv_room (Nat.le_of_ble_eq_true rfl)) dM_back_3 ⟨Nat.le_refl _, Nat.le_refl _⟩) (fun r u H locs hp hG => ?_)
  subst hp
  have hG : dw_G (dC, dI) vwCl [(cI, .int), (cZ, .boolean)] A s.heap s [(aMd, .inl (cI, 24, .inl (fun w => nI (db_rk (K w))))), (aO1, .inl (cI, 24, .inl (db_one1 K X Nm))), (aT2, .inl (cI, 24, .inl (db_two2 K Y Nm))), (m0, .inr (5, [.int (ft), .int (nI (n)), .ref aMd, .ref aO1, .ref aT2, .int (rs), .ref aSh, .ref aMk, .ref aFa, .ref aDe, .ref aNe, .ref aBy, .ref aPi, .int (pd), .ref aNw, .ref aNs, .ref aBf, .int (rn), .int (rr)]))] H locs := hG
  refine lv_topi (nm_r (show (db_isv (v) (nI n) : Int32) = 0 from hinv) ?_)
  refine lv_if_eq (tgt := 17) hx hb dM_back_6 (by decide) (fun h6 => ?_) (fun h6 => ?_)
  · skip
    replace h6 := (nI_eq (a := 0) (b := 0) (by omega) (by omega)).mp h6
    refine lv_iconst (v := 1) hx hb dM_back_17 (by decide) ?_
    refine lv_goto (tgt := 37) hx hb dM_back_18 (by decide) ?_
    refine dw_put (ws' := [(aMd, .inl (cI, 24, .inl (fun w => nI (db_rk (K w))))), (aO1, .inl (cI, 24, .inl (db_one1 K X Nm))), (aT2, .inl (cI, 24, .inl (db_two2 K Y Nm))), (m0, .inr (5, [.int (1), .int (nI (n)), .ref aMd, .ref aO1, .ref aT2, .int (rs), .ref aSh, .ref aMk, .ref aFa, .ref aDe, .ref aNe, .ref aBy, .ref aPi, .int (pd), .ref aNw, .ref aNs, .ref aBf, .int (rn), .int (rr)]))]) hx hb hts inMc tyM tyM_ok nmM hown hG 3 0 rfl rfl (by decide) hw494 rfl rfl (ty := .int) (by decide +kernel) rfl rfl (Nat.le_of_ble_eq_true rfl) dM_back_37 rfl (fun H locs hG => ?_)
    refine lv_aload_n hx hb dM_back_40 rfl (lv_at hl 0 rfl) ?_
    refine dw_get hx hb hts inMc hown hG 3 0 rfl rfl (by decide) hw494 rfl rfl dM_back_41 ?_
    refine lv_if_ne (tgt := 54) hx hb dM_back_44 (by decide) (fun h44 => ?_) (fun h44 => ?_)
    · skip
      replace h44 : ¬ 1 = 0 := fun hq0 => h44 ((nI_eq (a := 1) (b := 0) (by omega) (by omega)).mpr hq0)
      subst hQ
      exact dw_vret hx hb hr (dw_perm hG [3, 0, 1, 2] (by decide) rfl rfl) (()) rfl trivial dM_back_54 hlocks
    replace h44 := (nI_eq (a := 1) (b := 0) (by omega) (by omega)).mp h44
    (exfalso; omega)
  replace h6 : ¬ 0 = 0 := fun hq0 => h6 ((nI_eq (a := 0) (b := 0) (by omega) (by omega)).mpr hq0)
  (exfalso; omega)

set_option maxRecDepth 100000 in
set_option maxHeartbeats 4000000 in
theorem rf_back_1y (l : Launch) (dC : Nat → ClassId) (dI : Nat → Nat → Nat) (cI cZ : ClassId) (m0 aMd aO1 aT2 aSh aMk aFa aDe aNe aBy aPi aNw aNs aBf n : Nat) (ft rs pd rn rr : Int32) (K X Y : Nat → Nat) (Nm : Nat → Int32) (v : Nat) (y : Int32) (sz : Nat) (hv : v < n) (hn : n ≤ 24) (hinv : db_isv y (nI n) = 0) : Met l yM_back wsM_back { frames := 1, cells := 0, slots := 0, locals := 30 } (va_Pc [.ref m0, .int (nI (v)), .int (y)] (dw_pre (dC, dI) vwCl [(m0, .inr (5, [.int (ft), .int (nI (n)), .ref aMd, .ref aO1, .ref aT2, .int (rs), .ref aSh, .ref aMk, .ref aFa, .ref aDe, .ref aNe, .ref aBy, .ref aPi, .int (pd), .ref aNw, .ref aNs, .ref aBf, .int (rn), .int (rr)])), (aMd, .inl (cI, 24, .inl (fun w => nI (db_rk (K w))))), (aO1, .inl (cI, 24, .inl (db_one1 K X Nm))), (aT2, .inl (cI, 24, .inl (db_two2 K Y Nm)))] [(cI, .int), (cZ, .boolean)] sz)) (va_Qv (fun (u : Unit) => True) (fun u t => dw_post (dC, dI) vwCl [(m0, .inr (5, [.int (1), .int (nI (n)), .ref aMd, .ref aO1, .ref aT2, .int (rs), .ref aSh, .ref aMk, .ref aFa, .ref aDe, .ref aNe, .ref aBy, .ref aPi, .int (pd), .ref aNw, .ref aNs, .ref aBf, .int (rn), .int (rr)])), (aMd, .inl (cI, 24, .inl (fun w => nI (db_rk (K w))))), (aO1, .inl (cI, 24, .inl (db_one1 K X Nm))), (aT2, .inl (cI, 24, .inl (db_two2 K Y Nm)))] [(cI, .int), (cZ, .boolean)] (va_A [(m0, .inr (5, [.int (ft), .int (nI (n)), .ref aMd, .ref aO1, .ref aT2, .int (rs), .ref aSh, .ref aMk, .ref aFa, .ref aDe, .ref aNe, .ref aBy, .ref aPi, .int (pd), .ref aNw, .ref aNs, .ref aBf, .int (rn), .int (rr)])), (aMd, .inl (cI, 24, .inl (fun w => nI (db_rk (K w))))), (aO1, .inl (cI, 24, .inl (db_one1 K X Nm))), (aT2, .inl (cI, 24, .inl (db_two2 K Y Nm)))] sz) t) (va_A [(m0, .inr (5, [.int (ft), .int (nI (n)), .ref aMd, .ref aO1, .ref aT2, .int (rs), .ref aSh, .ref aMk, .ref aFa, .ref aDe, .ref aNe, .ref aBy, .ref aPi, .int (pd), .ref aNw, .ref aNs, .ref aBf, .int (rn), .int (rr)])), (aMd, .inl (cI, 24, .inl (fun w => nI (db_rk (K w))))), (aO1, .inl (cI, 24, .inl (db_one1 K X Nm))), (aT2, .inl (cI, 24, .inl (db_two2 K Y Nm)))] sz)) 0 0 (va_A [(m0, .inr (5, [.int (ft), .int (nI (n)), .ref aMd, .ref aO1, .ref aT2, .int (rs), .ref aSh, .ref aMk, .ref aFa, .ref aDe, .ref aNe, .ref aBy, .ref aPi, .int (pd), .ref aNw, .ref aNs, .ref aBf, .int (rn), .int (rr)])), (aMd, .inl (cI, 24, .inl (fun w => nI (db_rk (K w))))), (aO1, .inl (cI, 24, .inl (db_one1 K X Nm))), (aT2, .inl (cI, 24, .inl (db_two2 K Y Nm)))] sz) := by
  refine Met.ofW (cc := cM_back) (maxL := 3) (ret := none) (by decide) rfl ?_
  intro p e s m args below meth c s₁ B hml hv0
  have hx := B.exec
  have hb := B.bytes
  have hr := B.returns
  have hts := atoms_spec (ws := wsM_back) B.pre
  have hown : s.vm.findClass RM = some m.cls := findClass_of_methodNamed B.named
  have hlocks := B.notSynchronized
  obtain ⟨rfl, hsz, hG⟩ := dw_enter hv0
  generalize va_A [(m0, .inr (5, [.int (ft), .int (nI (n)), .ref aMd, .ref aO1, .ref aT2, .int (rs), .ref aSh, .ref aMk, .ref aFa, .ref aDe, .ref aNe, .ref aBy, .ref aPi, .int (pd), .ref aNw, .ref aNs, .ref aBf, .int (rn), .int (rr)])), (aMd, .inl (cI, 24, .inl (fun w => nI (db_rk (K w))))), (aO1, .inl (cI, 24, .inl (db_one1 K X Nm))), (aT2, .inl (cI, 24, .inl (db_two2 K Y Nm)))] sz = A at hG ⊢
  have hl := lv_entry ([.ref m0, .int (nI (v)), .int (y)]) (n := 3) (Nat.le_of_ble_eq_true rfl)
  rw [lg_entry_eq]
  generalize (lg_sl ([.ref m0, .int (nI (v)), .int (y)]) ++ List.replicate (3 - (lg_sl ([.ref m0, .int (nI (v)), .int (y)])).length) Slot.unset).toArray = ls at hl ⊢
  have hl : lv_has ls 3 [(0, .ref m0), (1, .int (nI (v))), (2, .int (y))] := hl
  have hw494 := hts _ (List.mem_cons_of_mem _ tw_494)
  refine dw_Q (fun Q hQ => ?_)
  suffices hgo : ∀ (H : Heap) (locs : List Loc), dw_G (dC, dI) vwCl [(cI, .int), (cZ, .boolean)] A s.heap s [(m0, .inr (5, [.int (ft), .int (nI (n)), .ref aMd, .ref aO1, .ref aT2, .int (rs), .ref aSh, .ref aMk, .ref aFa, .ref aDe, .ref aNe, .ref aBy, .ref aPi, .int (pd), .ref aNw, .ref aNs, .ref aBf, .int (rn), .int (rr)])), (aMd, .inl (cI, 24, .inl (fun w => nI (db_rk (K w))))), (aO1, .inl (cI, 24, .inl (db_one1 K X Nm))), (aT2, .inl (cI, 24, .inl (db_two2 K Y Nm)))] H locs → W p l e (headSpec wsM_back { frames := 1, cells := 0, slots := 0, locals := 30 }).room s m [.ref m0, .int (nI (v)), .int (y)].toArray below meth c H locs 0 0 Q (F0 m 0 ls []) from hgo _ _ hG
  clear hG
  intro H locs hG
  refine lv_aload_n hx hb dM_back_0 rfl (lv_at hl 0 rfl) ?_
  refine lv_aload_n hx hb dM_back_1 rfl (lv_at hl 0 rfl) ?_
  refine lv_iload_n hx hb dM_back_2 rfl (lv_at hl 1 rfl) ?_
  refine dw_calli (wc := [(m0, .inr (5, [.int (ft), .int (nI (n)), .ref aMd, .ref aO1, .ref aT2, .int (rs), .ref aSh, .ref aMk, .ref aFa, .ref aDe, .ref aNe, .ref aBy, .ref aPi, .int (pd), .ref aNw, .ref aNs, .ref aBf, .int (rn), .int (rr)]))]) (wr := [(aMd, .inl (cI, 24, .inl (fun w => nI (db_rk (K w))))), (aO1, .inl (cI, 24, .inl (db_one1 K X Nm))), (aT2, .inl (cI, 24, .inl (db_two2 K Y Nm)))]) hG [0] [1, 2, 3] rfl rfl (by decide) (by decide) (va_runV (As := [.int (nI (v))]) (rest := [.ref m0]) ⟨hx, hb, hml, hown, hts⟩ (rf_isValue l dC dI cI cZ m0 aMd aO1 aT2 aSh aMk aFa aDe aNe aBy aPi aNw aNs aBf ft (nI n) rs pd rn rr (nI (v)) H.size ) (dc_V 1 hts tw_573 tw_575 tp_M_isValue tw_7 tw_576 rfl rfl (by decide +kernel) ⟨Nat.le_of_ble_eq_true rfl, Nat.le_of_ble_eq_true rfl⟩) (dw_preV (ci := 5) hG [0] [0, 1] rfl rfl (by decide) rfl rfl (q0 := 0) rfl) rfl rfl hl.1 rfl (lv_room (Nat.le_of_ble_eq_true rfl)) dM_back_3 ⟨Nat.le_refl _, Nat.le_refl _⟩) (fun r u H locs hp hG => ?_)
  subst hp
  have hG : dw_G (dC, dI) vwCl [(cI, .int), (cZ, .boolean)] A s.heap s [(aMd, .inl (cI, 24, .inl (fun w => nI (db_rk (K w))))), (aO1, .inl (cI, 24, .inl (db_one1 K X Nm))), (aT2, .inl (cI, 24, .inl (db_two2 K Y Nm))), (m0, .inr (5, [.int (ft), .int (nI (n)), .ref aMd, .ref aO1, .ref aT2, .int (rs), .ref aSh, .ref aMk, .ref aFa, .ref aDe, .ref aNe, .ref aBy, .ref aPi, .int (pd), .ref aNw, .ref aNs, .ref aBf, .int (rn), .int (rr)]))] H locs := hG
  refine lv_topi (nm_r (show (db_isv (nI (v)) (nI n) : Int32) = 1 from (db_isv_y (by omega) (by omega))) ?_)
  refine lv_if_eq (tgt := 17) hx hb dM_back_6 (by decide) (fun h6 => ?_) (fun h6 => ?_)
  · skip
    replace h6 := (nI_eq (a := 1) (b := 0) (by omega) (by omega)).mp h6
    (exfalso; omega)
  replace h6 : ¬ 1 = 0 := fun hq0 => h6 ((nI_eq (a := 1) (b := 0) (by omega) (by omega)).mpr hq0)
  refine lv_aload_n hx hb dM_back_9 rfl (lv_at hl 0 rfl) ?_
  refine lv_iload_n hx hb dM_back_10 rfl (lv_at hl 2 rfl) ?_
  refine dw_calli (wc := [(m0, .inr (5, [.int (ft), .int (nI (n)), .ref aMd, .ref aO1, .ref aT2, .int (rs), .ref aSh, .ref aMk, .ref aFa, .ref aDe, .ref aNe, .ref aBy, .ref aPi, .int (pd), .ref aNw, .ref aNs, .ref aBf, .int (rn), .int (rr)]))]) (wr := [(aMd, .inl (cI, 24, .inl (fun w => nI (db_rk (K w))))), (aO1, .inl (cI, 24, .inl (db_one1 K X Nm))), (aT2, .inl (cI, 24, .inl (db_two2 K Y Nm)))]) hG [3] [0, 1, 2] rfl rfl (by decide) (by decide) (va_runV (As := [.int (y)]) (rest := [.ref m0]) ⟨hx, hb, hml, hown, hts⟩ (rf_isValue l dC dI cI cZ m0 aMd aO1 aT2 aSh aMk aFa aDe aNe aBy aPi aNw aNs aBf ft (nI n) rs pd rn rr (y) H.size ) (dc_V 1 hts tw_573 tw_575 tp_M_isValue tw_7 tw_576 rfl rfl (by decide +kernel) ⟨Nat.le_of_ble_eq_true rfl, Nat.le_of_ble_eq_true rfl⟩) (dw_preV (ci := 5) hG [3] [0, 1] rfl rfl (by decide) rfl rfl (q0 := 3) rfl) rfl rfl hl.1 rfl (lv_room (Nat.le_of_ble_eq_true rfl)) dM_back_11 ⟨Nat.le_refl _, Nat.le_refl _⟩) (fun r u H locs hp hG => ?_)
  subst hp
  have hG : dw_G (dC, dI) vwCl [(cI, .int), (cZ, .boolean)] A s.heap s [(aMd, .inl (cI, 24, .inl (fun w => nI (db_rk (K w))))), (aO1, .inl (cI, 24, .inl (db_one1 K X Nm))), (aT2, .inl (cI, 24, .inl (db_two2 K Y Nm))), (m0, .inr (5, [.int (ft), .int (nI (n)), .ref aMd, .ref aO1, .ref aT2, .int (rs), .ref aSh, .ref aMk, .ref aFa, .ref aDe, .ref aNe, .ref aBy, .ref aPi, .int (pd), .ref aNw, .ref aNs, .ref aBf, .int (rn), .int (rr)]))] H locs := hG
  refine lv_topi (nm_r (show (db_isv (y) (nI n) : Int32) = 0 from hinv) ?_)
  refine lv_if_ne (tgt := 21) hx hb dM_back_14 (by decide) (fun h14 => ?_) (fun h14 => ?_)
  · skip
    replace h14 : ¬ 0 = 0 := fun hq0 => h14 ((nI_eq (a := 0) (b := 0) (by omega) (by omega)).mpr hq0)
    (exfalso; omega)
  replace h14 := (nI_eq (a := 0) (b := 0) (by omega) (by omega)).mp h14
  refine lv_iconst (v := 1) hx hb dM_back_17 (by decide) ?_
  refine lv_goto (tgt := 37) hx hb dM_back_18 (by decide) ?_
  refine dw_put (ws' := [(aMd, .inl (cI, 24, .inl (fun w => nI (db_rk (K w))))), (aO1, .inl (cI, 24, .inl (db_one1 K X Nm))), (aT2, .inl (cI, 24, .inl (db_two2 K Y Nm))), (m0, .inr (5, [.int (1), .int (nI (n)), .ref aMd, .ref aO1, .ref aT2, .int (rs), .ref aSh, .ref aMk, .ref aFa, .ref aDe, .ref aNe, .ref aBy, .ref aPi, .int (pd), .ref aNw, .ref aNs, .ref aBf, .int (rn), .int (rr)]))]) hx hb hts inMc tyM tyM_ok nmM hown hG 3 0 rfl rfl (by decide) hw494 rfl rfl (ty := .int) (by decide +kernel) rfl rfl (Nat.le_of_ble_eq_true rfl) dM_back_37 rfl (fun H locs hG => ?_)
  refine lv_aload_n hx hb dM_back_40 rfl (lv_at hl 0 rfl) ?_
  refine dw_get hx hb hts inMc hown hG 3 0 rfl rfl (by decide) hw494 rfl rfl dM_back_41 ?_
  refine lv_if_ne (tgt := 54) hx hb dM_back_44 (by decide) (fun h44 => ?_) (fun h44 => ?_)
  · skip
    replace h44 : ¬ 1 = 0 := fun hq0 => h44 ((nI_eq (a := 1) (b := 0) (by omega) (by omega)).mpr hq0)
    subst hQ
    exact dw_vret hx hb hr (dw_perm hG [3, 0, 1, 2] (by decide) rfl rfl) (()) rfl trivial dM_back_54 hlocks
  replace h44 := (nI_eq (a := 1) (b := 0) (by omega) (by omega)).mp h44
  (exfalso; omega)

set_option maxRecDepth 100000 in
set_option maxHeartbeats 4000000 in
theorem rf_back_2 (l : Launch) (dC : Nat → ClassId) (dI : Nat → Nat → Nat) (cI cZ : ClassId) (m0 aMd aO1 aT2 aSh aMk aFa aDe aNe aBy aPi aNw aNs aBf n : Nat) (ft rs pd rn rr : Int32) (K X Y : Nat → Nat) (Nm : Nat → Int32) (v y : Nat) (sz : Nat) (hv : v < n) (hy9 : y < n) (hn : n ≤ 24) (hk13 : K v ≤ 13) (hkv : ¬ K v = 13) : Met l yM_back wsM_back { frames := 1, cells := 0, slots := 0, locals := 30 } (va_Pc [.ref m0, .int (nI (v)), .int (nI (y))] (dw_pre (dC, dI) vwCl [(m0, .inr (5, [.int (ft), .int (nI (n)), .ref aMd, .ref aO1, .ref aT2, .int (rs), .ref aSh, .ref aMk, .ref aFa, .ref aDe, .ref aNe, .ref aBy, .ref aPi, .int (pd), .ref aNw, .ref aNs, .ref aBf, .int (rn), .int (rr)])), (aMd, .inl (cI, 24, .inl (fun w => nI (db_rk (K w))))), (aO1, .inl (cI, 24, .inl (db_one1 K X Nm))), (aT2, .inl (cI, 24, .inl (db_two2 K Y Nm)))] [(cI, .int), (cZ, .boolean)] sz)) (va_Qv (fun (u : Unit) => True) (fun u t => dw_post (dC, dI) vwCl [(m0, .inr (5, [.int (2), .int (nI (n)), .ref aMd, .ref aO1, .ref aT2, .int (rs), .ref aSh, .ref aMk, .ref aFa, .ref aDe, .ref aNe, .ref aBy, .ref aPi, .int (pd), .ref aNw, .ref aNs, .ref aBf, .int (rn), .int (rr)])), (aMd, .inl (cI, 24, .inl (fun w => nI (db_rk (K w))))), (aO1, .inl (cI, 24, .inl (db_one1 K X Nm))), (aT2, .inl (cI, 24, .inl (db_two2 K Y Nm)))] [(cI, .int), (cZ, .boolean)] (va_A [(m0, .inr (5, [.int (ft), .int (nI (n)), .ref aMd, .ref aO1, .ref aT2, .int (rs), .ref aSh, .ref aMk, .ref aFa, .ref aDe, .ref aNe, .ref aBy, .ref aPi, .int (pd), .ref aNw, .ref aNs, .ref aBf, .int (rn), .int (rr)])), (aMd, .inl (cI, 24, .inl (fun w => nI (db_rk (K w))))), (aO1, .inl (cI, 24, .inl (db_one1 K X Nm))), (aT2, .inl (cI, 24, .inl (db_two2 K Y Nm)))] sz) t) (va_A [(m0, .inr (5, [.int (ft), .int (nI (n)), .ref aMd, .ref aO1, .ref aT2, .int (rs), .ref aSh, .ref aMk, .ref aFa, .ref aDe, .ref aNe, .ref aBy, .ref aPi, .int (pd), .ref aNw, .ref aNs, .ref aBf, .int (rn), .int (rr)])), (aMd, .inl (cI, 24, .inl (fun w => nI (db_rk (K w))))), (aO1, .inl (cI, 24, .inl (db_one1 K X Nm))), (aT2, .inl (cI, 24, .inl (db_two2 K Y Nm)))] sz)) 0 0 (va_A [(m0, .inr (5, [.int (ft), .int (nI (n)), .ref aMd, .ref aO1, .ref aT2, .int (rs), .ref aSh, .ref aMk, .ref aFa, .ref aDe, .ref aNe, .ref aBy, .ref aPi, .int (pd), .ref aNw, .ref aNs, .ref aBf, .int (rn), .int (rr)])), (aMd, .inl (cI, 24, .inl (fun w => nI (db_rk (K w))))), (aO1, .inl (cI, 24, .inl (db_one1 K X Nm))), (aT2, .inl (cI, 24, .inl (db_two2 K Y Nm)))] sz) := by
  refine Met.ofW (cc := cM_back) (maxL := 3) (ret := none) (by decide) rfl ?_
  intro p e s m args below meth c s₁ B hml hv0
  have hx := B.exec
  have hb := B.bytes
  have hr := B.returns
  have hts := atoms_spec (ws := wsM_back) B.pre
  have hown : s.vm.findClass RM = some m.cls := findClass_of_methodNamed B.named
  have hlocks := B.notSynchronized
  obtain ⟨rfl, hsz, hG⟩ := dw_enter hv0
  generalize va_A [(m0, .inr (5, [.int (ft), .int (nI (n)), .ref aMd, .ref aO1, .ref aT2, .int (rs), .ref aSh, .ref aMk, .ref aFa, .ref aDe, .ref aNe, .ref aBy, .ref aPi, .int (pd), .ref aNw, .ref aNs, .ref aBf, .int (rn), .int (rr)])), (aMd, .inl (cI, 24, .inl (fun w => nI (db_rk (K w))))), (aO1, .inl (cI, 24, .inl (db_one1 K X Nm))), (aT2, .inl (cI, 24, .inl (db_two2 K Y Nm)))] sz = A at hG ⊢
  have hl := lv_entry ([.ref m0, .int (nI (v)), .int (nI (y))]) (n := 3) (Nat.le_of_ble_eq_true rfl)
  rw [lg_entry_eq]
  generalize (lg_sl ([.ref m0, .int (nI (v)), .int (nI (y))]) ++ List.replicate (3 - (lg_sl ([.ref m0, .int (nI (v)), .int (nI (y))])).length) Slot.unset).toArray = ls at hl ⊢
  have hl : lv_has ls 3 [(0, .ref m0), (1, .int (nI (v))), (2, .int (nI (y)))] := hl
  have hw496 := hts _ (List.mem_cons_of_mem _ tw_496)
  have hw494 := hts _ (List.mem_cons_of_mem _ tw_494)
  have hrk := db_rk_le hk13
  have hr13 := db_rk13 hk13
  refine dw_Q (fun Q hQ => ?_)
  suffices hgo : ∀ (H : Heap) (locs : List Loc), dw_G (dC, dI) vwCl [(cI, .int), (cZ, .boolean)] A s.heap s [(m0, .inr (5, [.int (ft), .int (nI (n)), .ref aMd, .ref aO1, .ref aT2, .int (rs), .ref aSh, .ref aMk, .ref aFa, .ref aDe, .ref aNe, .ref aBy, .ref aPi, .int (pd), .ref aNw, .ref aNs, .ref aBf, .int (rn), .int (rr)])), (aMd, .inl (cI, 24, .inl (fun w => nI (db_rk (K w))))), (aO1, .inl (cI, 24, .inl (db_one1 K X Nm))), (aT2, .inl (cI, 24, .inl (db_two2 K Y Nm)))] H locs → W p l e (headSpec wsM_back { frames := 1, cells := 0, slots := 0, locals := 30 }).room s m [.ref m0, .int (nI (v)), .int (nI (y))].toArray below meth c H locs 0 0 Q (F0 m 0 ls []) from hgo _ _ hG
  clear hG
  intro H locs hG
  refine lv_aload_n hx hb dM_back_0 rfl (lv_at hl 0 rfl) ?_
  refine lv_aload_n hx hb dM_back_1 rfl (lv_at hl 0 rfl) ?_
  refine lv_iload_n hx hb dM_back_2 rfl (lv_at hl 1 rfl) ?_
  refine dw_calli (wc := [(m0, .inr (5, [.int (ft), .int (nI (n)), .ref aMd, .ref aO1, .ref aT2, .int (rs), .ref aSh, .ref aMk, .ref aFa, .ref aDe, .ref aNe, .ref aBy, .ref aPi, .int (pd), .ref aNw, .ref aNs, .ref aBf, .int (rn), .int (rr)]))]) (wr := [(aMd, .inl (cI, 24, .inl (fun w => nI (db_rk (K w))))), (aO1, .inl (cI, 24, .inl (db_one1 K X Nm))), (aT2, .inl (cI, 24, .inl (db_two2 K Y Nm)))]) hG [0] [1, 2, 3] rfl rfl (by decide) (by decide) (va_runV (As := [.int (nI (v))]) (rest := [.ref m0]) ⟨hx, hb, hml, hown, hts⟩ (rf_isValue l dC dI cI cZ m0 aMd aO1 aT2 aSh aMk aFa aDe aNe aBy aPi aNw aNs aBf ft (nI n) rs pd rn rr (nI (v)) H.size ) (dc_V 1 hts tw_573 tw_575 tp_M_isValue tw_7 tw_576 rfl rfl (by decide +kernel) ⟨Nat.le_of_ble_eq_true rfl, Nat.le_of_ble_eq_true rfl⟩) (dw_preV (ci := 5) hG [0] [0, 1] rfl rfl (by decide) rfl rfl (q0 := 0) rfl) rfl rfl hl.1 rfl (lv_room (Nat.le_of_ble_eq_true rfl)) dM_back_3 ⟨Nat.le_refl _, Nat.le_refl _⟩) (fun r u H locs hp hG => ?_)
  subst hp
  have hG : dw_G (dC, dI) vwCl [(cI, .int), (cZ, .boolean)] A s.heap s [(aMd, .inl (cI, 24, .inl (fun w => nI (db_rk (K w))))), (aO1, .inl (cI, 24, .inl (db_one1 K X Nm))), (aT2, .inl (cI, 24, .inl (db_two2 K Y Nm))), (m0, .inr (5, [.int (ft), .int (nI (n)), .ref aMd, .ref aO1, .ref aT2, .int (rs), .ref aSh, .ref aMk, .ref aFa, .ref aDe, .ref aNe, .ref aBy, .ref aPi, .int (pd), .ref aNw, .ref aNs, .ref aBf, .int (rn), .int (rr)]))] H locs := hG
  refine lv_topi (nm_r (show (db_isv (nI (v)) (nI n) : Int32) = 1 from (db_isv_y (by omega) (by omega))) ?_)
  refine lv_if_eq (tgt := 17) hx hb dM_back_6 (by decide) (fun h6 => ?_) (fun h6 => ?_)
  · skip
    replace h6 := (nI_eq (a := 1) (b := 0) (by omega) (by omega)).mp h6
    (exfalso; omega)
  replace h6 : ¬ 1 = 0 := fun hq0 => h6 ((nI_eq (a := 1) (b := 0) (by omega) (by omega)).mpr hq0)
  refine lv_aload_n hx hb dM_back_9 rfl (lv_at hl 0 rfl) ?_
  refine lv_iload_n hx hb dM_back_10 rfl (lv_at hl 2 rfl) ?_
  refine dw_calli (wc := [(m0, .inr (5, [.int (ft), .int (nI (n)), .ref aMd, .ref aO1, .ref aT2, .int (rs), .ref aSh, .ref aMk, .ref aFa, .ref aDe, .ref aNe, .ref aBy, .ref aPi, .int (pd), .ref aNw, .ref aNs, .ref aBf, .int (rn), .int (rr)]))]) (wr := [(aMd, .inl (cI, 24, .inl (fun w => nI (db_rk (K w))))), (aO1, .inl (cI, 24, .inl (db_one1 K X Nm))), (aT2, .inl (cI, 24, .inl (db_two2 K Y Nm)))]) hG [3] [0, 1, 2] rfl rfl (by decide) (by decide) (va_runV (As := [.int (nI (y))]) (rest := [.ref m0]) ⟨hx, hb, hml, hown, hts⟩ (rf_isValue l dC dI cI cZ m0 aMd aO1 aT2 aSh aMk aFa aDe aNe aBy aPi aNw aNs aBf ft (nI n) rs pd rn rr (nI (y)) H.size ) (dc_V 1 hts tw_573 tw_575 tp_M_isValue tw_7 tw_576 rfl rfl (by decide +kernel) ⟨Nat.le_of_ble_eq_true rfl, Nat.le_of_ble_eq_true rfl⟩) (dw_preV (ci := 5) hG [3] [0, 1] rfl rfl (by decide) rfl rfl (q0 := 3) rfl) rfl rfl hl.1 rfl (lv_room (Nat.le_of_ble_eq_true rfl)) dM_back_11 ⟨Nat.le_refl _, Nat.le_refl _⟩) (fun r u H locs hp hG => ?_)
  subst hp
  have hG : dw_G (dC, dI) vwCl [(cI, .int), (cZ, .boolean)] A s.heap s [(aMd, .inl (cI, 24, .inl (fun w => nI (db_rk (K w))))), (aO1, .inl (cI, 24, .inl (db_one1 K X Nm))), (aT2, .inl (cI, 24, .inl (db_two2 K Y Nm))), (m0, .inr (5, [.int (ft), .int (nI (n)), .ref aMd, .ref aO1, .ref aT2, .int (rs), .ref aSh, .ref aMk, .ref aFa, .ref aDe, .ref aNe, .ref aBy, .ref aPi, .int (pd), .ref aNw, .ref aNs, .ref aBf, .int (rn), .int (rr)]))] H locs := hG
  refine lv_topi (nm_r (show (db_isv (nI (y)) (nI n) : Int32) = 1 from (db_isv_y (by omega) (by omega))) ?_)
  refine lv_if_ne (tgt := 21) hx hb dM_back_14 (by decide) (fun h14 => ?_) (fun h14 => ?_)
  · skip
    replace h14 : ¬ 1 = 0 := fun hq0 => h14 ((nI_eq (a := 1) (b := 0) (by omega) (by omega)).mpr hq0)
    refine lv_aload_n hx hb dM_back_21 rfl (lv_at hl 0 rfl) ?_
    refine dw_get hx hb hts inMc hown hG 3 2 rfl rfl (by decide) hw496 rfl rfl dM_back_22 ?_
    refine lv_iload_n hx hb dM_back_25 rfl (lv_at hl 1 rfl) ?_
    refine dw_ia (x := nI (db_rk (K v))) hx hb hG 0 0 rfl rfl (v) rfl (by omega) (by decide) rfl dM_back_26 ?_
    refine lv_bipush (v := 11) hx hb dM_back_27 (by decide) ?_
    refine lv_icmp_eq (tgt := 36) hx hb dM_back_29 (by decide) (fun h29 => ?_) (fun h29 => ?_)
    · skip
      replace h29 := (nI_eq (a := db_rk (K v)) (b := 11) (by omega) (by omega)).mp h29
      (exfalso; omega)
    replace h29 : ¬ db_rk (K v) = 11 := fun hq0 => h29 ((nI_eq (a := db_rk (K v)) (b := 11) (by omega) (by omega)).mpr hq0)
    refine lv_iconst (v := 2) hx hb dM_back_32 (by decide) ?_
    refine lv_goto (tgt := 37) hx hb dM_back_33 (by decide) ?_
    refine dw_put (ws' := [(aMd, .inl (cI, 24, .inl (fun w => nI (db_rk (K w))))), (aO1, .inl (cI, 24, .inl (db_one1 K X Nm))), (aT2, .inl (cI, 24, .inl (db_two2 K Y Nm))), (m0, .inr (5, [.int (2), .int (nI (n)), .ref aMd, .ref aO1, .ref aT2, .int (rs), .ref aSh, .ref aMk, .ref aFa, .ref aDe, .ref aNe, .ref aBy, .ref aPi, .int (pd), .ref aNw, .ref aNs, .ref aBf, .int (rn), .int (rr)]))]) hx hb hts inMc tyM tyM_ok nmM hown hG 3 0 rfl rfl (by decide) hw494 rfl rfl (ty := .int) (by decide +kernel) rfl rfl (Nat.le_of_ble_eq_true rfl) dM_back_37 rfl (fun H locs hG => ?_)
    refine lv_aload_n hx hb dM_back_40 rfl (lv_at hl 0 rfl) ?_
    refine dw_get hx hb hts inMc hown hG 3 0 rfl rfl (by decide) hw494 rfl rfl dM_back_41 ?_
    refine lv_if_ne (tgt := 54) hx hb dM_back_44 (by decide) (fun h44 => ?_) (fun h44 => ?_)
    · skip
      replace h44 : ¬ 2 = 0 := fun hq0 => h44 ((nI_eq (a := 2) (b := 0) (by omega) (by omega)).mpr hq0)
      subst hQ
      exact dw_vret hx hb hr (dw_perm hG [3, 0, 1, 2] (by decide) rfl rfl) (()) rfl trivial dM_back_54 hlocks
    replace h44 := (nI_eq (a := 2) (b := 0) (by omega) (by omega)).mp h44
    (exfalso; omega)
  replace h14 := (nI_eq (a := 1) (b := 0) (by omega) (by omega)).mp h14
  (exfalso; omega)

set_option maxRecDepth 100000 in
set_option maxHeartbeats 4000000 in
theorem rf_result_0 (l : Launch) (dC : Nat → ClassId) (dI : Nat → Nat → Nat) (cI cZ : ClassId) (m0 aMd aO1 aT2 aSh aMk aFa aDe aNe aBy aPi aNw aNs aBf n R : Nat) (ft pd rn rr : Int32) (RV : Nat → Nat) (Ms : Nat → Int32) (v : Nat) (mk : Int32) (sz : Nat) (hv : v < n) (hn : n ≤ 24) (hR : R < 4) : Met l yM_result wsM_result { frames := 1, cells := 0, slots := 0, locals := 30 } (va_Pc [.ref m0, .int (nI (v)), .int (mk)] (dw_pre (dC, dI) vwCl [(m0, .inr (5, [.int (ft), .int (nI (n)), .ref aMd, .ref aO1, .ref aT2, .int (nI (R)), .ref aSh, .ref aMk, .ref aFa, .ref aDe, .ref aNe, .ref aBy, .ref aPi, .int (pd), .ref aNw, .ref aNs, .ref aBf, .int (rn), .int (rr)])), (aSh, .inl (cI, 4, .inl (fun r => nI (RV r)))), (aMk, .inl (cI, 4, .inl (Ms)))] [(cI, .int), (cZ, .boolean)] sz)) (va_Qi (fun (r : Int32) (u : Unit) => r = nI R) (fun u t => dw_post (dC, dI) vwCl [(m0, .inr (5, [.int (0), .int (nI (n)), .ref aMd, .ref aO1, .ref aT2, .int (nI (R + 1)), .ref aSh, .ref aMk, .ref aFa, .ref aDe, .ref aNe, .ref aBy, .ref aPi, .int (pd), .ref aNw, .ref aNs, .ref aBf, .int (rn), .int (rr)])), (aSh, .inl (cI, 4, .inl (fun r => nI ((db_upN RV R v) r)))), (aMk, .inl (cI, 4, .inl ((upd Ms R mk))))] [(cI, .int), (cZ, .boolean)] (va_A [(m0, .inr (5, [.int (ft), .int (nI (n)), .ref aMd, .ref aO1, .ref aT2, .int (nI (R)), .ref aSh, .ref aMk, .ref aFa, .ref aDe, .ref aNe, .ref aBy, .ref aPi, .int (pd), .ref aNw, .ref aNs, .ref aBf, .int (rn), .int (rr)])), (aSh, .inl (cI, 4, .inl (fun r => nI (RV r)))), (aMk, .inl (cI, 4, .inl (Ms)))] sz) t) (va_A [(m0, .inr (5, [.int (ft), .int (nI (n)), .ref aMd, .ref aO1, .ref aT2, .int (nI (R)), .ref aSh, .ref aMk, .ref aFa, .ref aDe, .ref aNe, .ref aBy, .ref aPi, .int (pd), .ref aNw, .ref aNs, .ref aBf, .int (rn), .int (rr)])), (aSh, .inl (cI, 4, .inl (fun r => nI (RV r)))), (aMk, .inl (cI, 4, .inl (Ms)))] sz)) 0 0 (va_A [(m0, .inr (5, [.int (ft), .int (nI (n)), .ref aMd, .ref aO1, .ref aT2, .int (nI (R)), .ref aSh, .ref aMk, .ref aFa, .ref aDe, .ref aNe, .ref aBy, .ref aPi, .int (pd), .ref aNw, .ref aNs, .ref aBf, .int (rn), .int (rr)])), (aSh, .inl (cI, 4, .inl (fun r => nI (RV r)))), (aMk, .inl (cI, 4, .inl (Ms)))] sz) := by
  refine Met.ofW (cc := cM_result) (maxL := 3) (ret := (some .int)) (by decide) rfl ?_
  intro p e s m args below meth c s₁ B hml hv0
  have hx := B.exec
  have hb := B.bytes
  have hr := B.returns
  have hts := atoms_spec (ws := wsM_result) B.pre
  have hown : s.vm.findClass RM = some m.cls := findClass_of_methodNamed B.named
  have hlocks := B.notSynchronized
  obtain ⟨rfl, hsz, hG⟩ := dw_enter hv0
  generalize va_A [(m0, .inr (5, [.int (ft), .int (nI (n)), .ref aMd, .ref aO1, .ref aT2, .int (nI (R)), .ref aSh, .ref aMk, .ref aFa, .ref aDe, .ref aNe, .ref aBy, .ref aPi, .int (pd), .ref aNw, .ref aNs, .ref aBf, .int (rn), .int (rr)])), (aSh, .inl (cI, 4, .inl (fun r => nI (RV r)))), (aMk, .inl (cI, 4, .inl (Ms)))] sz = A at hG ⊢
  have hl := lv_entry ([.ref m0, .int (nI (v)), .int (mk)]) (n := 3) (Nat.le_of_ble_eq_true rfl)
  rw [lg_entry_eq]
  generalize (lg_sl ([.ref m0, .int (nI (v)), .int (mk)]) ++ List.replicate (3 - (lg_sl ([.ref m0, .int (nI (v)), .int (mk)])).length) Slot.unset).toArray = ls at hl ⊢
  have hl : lv_has ls 3 [(0, .ref m0), (1, .int (nI (v))), (2, .int (mk))] := hl
  have hw499 := hts _ (List.mem_cons_of_mem _ tw_499)
  have hw494 := hts _ (List.mem_cons_of_mem _ tw_494)
  have hw500 := hts _ (List.mem_cons_of_mem _ tw_500)
  have hw501 := hts _ (List.mem_cons_of_mem _ tw_501)
  refine dw_Q (fun Q hQ => ?_)
  suffices hgo : ∀ (H : Heap) (locs : List Loc), dw_G (dC, dI) vwCl [(cI, .int), (cZ, .boolean)] A s.heap s [(m0, .inr (5, [.int (ft), .int (nI (n)), .ref aMd, .ref aO1, .ref aT2, .int (nI (R)), .ref aSh, .ref aMk, .ref aFa, .ref aDe, .ref aNe, .ref aBy, .ref aPi, .int (pd), .ref aNw, .ref aNs, .ref aBf, .int (rn), .int (rr)])), (aSh, .inl (cI, 4, .inl (fun r => nI (RV r)))), (aMk, .inl (cI, 4, .inl (Ms)))] H locs → W p l e (headSpec wsM_result { frames := 1, cells := 0, slots := 0, locals := 30 }).room s m [.ref m0, .int (nI (v)), .int (mk)].toArray below meth c H locs 0 0 Q (F0 m 0 ls []) from hgo _ _ hG
  clear hG
  intro H locs hG
  refine lv_aload_n hx hb dM_result_0 rfl (lv_at hl 0 rfl) ?_
  refine lv_aload_n hx hb dM_result_1 rfl (lv_at hl 0 rfl) ?_
  refine lv_iload_n hx hb dM_result_2 rfl (lv_at hl 1 rfl) ?_
  refine dw_calli (wc := [(m0, .inr (5, [.int (ft), .int (nI (n)), .ref aMd, .ref aO1, .ref aT2, .int (nI (R)), .ref aSh, .ref aMk, .ref aFa, .ref aDe, .ref aNe, .ref aBy, .ref aPi, .int (pd), .ref aNw, .ref aNs, .ref aBf, .int (rn), .int (rr)]))]) (wr := [(aSh, .inl (cI, 4, .inl (fun r => nI (RV r)))), (aMk, .inl (cI, 4, .inl (Ms)))]) hG [0] [1, 2] rfl rfl (by decide) (by decide) (va_runV (As := [.int (nI (v))]) (rest := [.ref m0]) ⟨hx, hb, hml, hown, hts⟩ (rf_isValue l dC dI cI cZ m0 aMd aO1 aT2 aSh aMk aFa aDe aNe aBy aPi aNw aNs aBf ft (nI n) (nI R) pd rn rr (nI (v)) H.size ) (dc_V 1 hts tw_573 tw_575 tp_M_isValue tw_7 tw_576 rfl rfl (by decide +kernel) ⟨Nat.le_of_ble_eq_true rfl, Nat.le_of_ble_eq_true rfl⟩) (dw_preV (ci := 5) hG [0] [0, 1] rfl rfl (by decide) rfl rfl (q0 := 0) rfl) rfl rfl hl.1 rfl (lv_room (Nat.le_of_ble_eq_true rfl)) dM_result_3 ⟨Nat.le_refl _, Nat.le_refl _⟩) (fun r u H locs hp hG => ?_)
  subst hp
  have hG : dw_G (dC, dI) vwCl [(cI, .int), (cZ, .boolean)] A s.heap s [(aSh, .inl (cI, 4, .inl (fun r => nI (RV r)))), (aMk, .inl (cI, 4, .inl (Ms))), (m0, .inr (5, [.int (ft), .int (nI (n)), .ref aMd, .ref aO1, .ref aT2, .int (nI (R)), .ref aSh, .ref aMk, .ref aFa, .ref aDe, .ref aNe, .ref aBy, .ref aPi, .int (pd), .ref aNw, .ref aNs, .ref aBf, .int (rn), .int (rr)]))] H locs := hG
  refine lv_topi (nm_r (show (db_isv (nI (v)) (nI n) : Int32) = 1 from (db_isv_y (by omega) (by omega))) ?_)
  refine lv_if_ne (tgt := 13) hx hb dM_result_6 (by decide) (fun h6 => ?_) (fun h6 => ?_)
  · skip
    replace h6 : ¬ 1 = 0 := fun hq0 => h6 ((nI_eq (a := 1) (b := 0) (by omega) (by omega)).mpr hq0)
    refine lv_aload_n hx hb dM_result_13 rfl (lv_at hl 0 rfl) ?_
    refine dw_get hx hb hts inMc hown hG 2 5 rfl rfl (by decide) hw499 rfl rfl dM_result_14 ?_
    refine lv_iconst (v := 4) hx hb dM_result_17 (by decide) ?_
    refine lv_icmp_ne (tgt := 25) hx hb dM_result_18 (by decide) (fun h18 => ?_) (fun h18 => ?_)
    · skip
      replace h18 : ¬ R = 4 := fun hq0 => h18 ((nI_eq (a := R) (b := 4) (by omega) (by omega)).mpr hq0)
      refine lv_iconst (v := 0) hx hb dM_result_25 (by decide) ?_
      refine dw_put (ws' := [(aSh, .inl (cI, 4, .inl (fun r => nI (RV r)))), (aMk, .inl (cI, 4, .inl (Ms))), (m0, .inr (5, [.int (0), .int (nI (n)), .ref aMd, .ref aO1, .ref aT2, .int (nI (R)), .ref aSh, .ref aMk, .ref aFa, .ref aDe, .ref aNe, .ref aBy, .ref aPi, .int (pd), .ref aNw, .ref aNs, .ref aBf, .int (rn), .int (rr)]))]) hx hb hts inMc tyM tyM_ok nmM hown hG 2 0 rfl rfl (by decide) hw494 rfl rfl (ty := .int) (by decide +kernel) rfl rfl (Nat.le_of_ble_eq_true rfl) dM_result_26 rfl (fun H locs hG => ?_)
      refine lv_aload_n hx hb dM_result_29 rfl (lv_at hl 0 rfl) ?_
      refine dw_get hx hb hts inMc hown hG 2 0 rfl rfl (by decide) hw494 rfl rfl dM_result_30 ?_
      refine lv_if_le (tgt := 38) hx hb dM_result_33 (by decide) (fun h33 => ?_) (fun h33 => ?_)
      · skip
        replace h33 := (nI_leI (a := 0) (b := 0) (by omega) (by omega)).mp h33
        refine lv_aload_n hx hb dM_result_38 rfl (lv_at hl 0 rfl) ?_
        refine dw_get hx hb hts inMc hown hG 2 6 rfl rfl (by decide) hw500 rfl rfl dM_result_39 ?_
        refine lv_aload_n hx hb dM_result_42 rfl (lv_at hl 0 rfl) ?_
        refine dw_get hx hb hts inMc hown hG 2 5 rfl rfl (by decide) hw499 rfl rfl dM_result_43 ?_
        refine lv_iload_n hx hb dM_result_46 rfl (lv_at hl 1 rfl) ?_
        refine dw_is (ws' := [(aSh, .inl (cI, 4, .inl (upd (fun r => nI (RV r)) (R) (nI (v))))), (aMk, .inl (cI, 4, .inl (Ms))), (m0, .inr (5, [.int (0), .int (nI (n)), .ref aMd, .ref aO1, .ref aT2, .int (nI (R)), .ref aSh, .ref aMk, .ref aFa, .ref aDe, .ref aNe, .ref aBy, .ref aPi, .int (pd), .ref aNw, .ref aNs, .ref aBf, .int (rn), .int (rr)]))]) hx hb hG 0 0 rfl rfl (R) rfl (by omega) (by decide) dM_result_47 rfl (fun H locs hG => ?_)
        refine lv_aload_n hx hb dM_result_48 rfl (lv_at hl 0 rfl) ?_
        refine dw_get hx hb hts inMc hown hG 2 7 rfl rfl (by decide) hw501 rfl rfl dM_result_49 ?_
        refine lv_aload_n hx hb dM_result_52 rfl (lv_at hl 0 rfl) ?_
        refine dw_get hx hb hts inMc hown hG 2 5 rfl rfl (by decide) hw499 rfl rfl dM_result_53 ?_
        refine lv_iload_n hx hb dM_result_56 rfl (lv_at hl 2 rfl) ?_
        refine dw_is (ws' := [(aSh, .inl (cI, 4, .inl (upd (fun r => nI (RV r)) (R) (nI (v))))), (aMk, .inl (cI, 4, .inl (upd (Ms) (R) (mk)))), (m0, .inr (5, [.int (0), .int (nI (n)), .ref aMd, .ref aO1, .ref aT2, .int (nI (R)), .ref aSh, .ref aMk, .ref aFa, .ref aDe, .ref aNe, .ref aBy, .ref aPi, .int (pd), .ref aNw, .ref aNs, .ref aBf, .int (rn), .int (rr)]))]) hx hb hG 1 0 rfl rfl (R) rfl (by omega) (by decide) dM_result_57 rfl (fun H locs hG => ?_)
        refine lv_aload_n hx hb dM_result_58 rfl (lv_at hl 0 rfl) ?_
        refine lv_dup hx hb dM_result_59 rfl ?_
        refine dw_get hx hb hts inMc hown hG 2 5 rfl rfl (by decide) hw499 rfl rfl dM_result_60 ?_
        refine lv_iconst (v := 1) hx hb dM_result_63 (by decide) ?_
        refine lv_iadd hx hb dM_result_64 ?_
        refine lv_topi (nm_r (show ((nI (R)) + (1) : Int32) = nI (R + 1) from nI_add (R) (1)) ?_)
        refine dw_put (ws' := [(aSh, .inl (cI, 4, .inl (upd (fun r => nI (RV r)) (R) (nI (v))))), (aMk, .inl (cI, 4, .inl (upd (Ms) (R) (mk)))), (m0, .inr (5, [.int (0), .int (nI (n)), .ref aMd, .ref aO1, .ref aT2, .int (nI (R + 1)), .ref aSh, .ref aMk, .ref aFa, .ref aDe, .ref aNe, .ref aBy, .ref aPi, .int (pd), .ref aNw, .ref aNs, .ref aBf, .int (rn), .int (rr)]))]) hx hb hts inMc tyM tyM_ok nmM hown hG 2 5 rfl rfl (by decide) hw499 rfl rfl (ty := .int) (by decide +kernel) rfl rfl (Nat.le_of_ble_eq_true rfl) dM_result_65 rfl (fun H locs hG => ?_)
        refine lv_aload_n hx hb dM_result_68 rfl (lv_at hl 0 rfl) ?_
        refine dw_get hx hb hts inMc hown hG 2 5 rfl rfl (by decide) hw499 rfl rfl dM_result_69 ?_
        refine lv_iconst (v := 1) hx hb dM_result_72 (by decide) ?_
        refine lv_isub hx hb dM_result_73 ?_
        refine lv_topi (nm_r (show ((nI (R + 1)) - (1) : Int32) = nI (R) from (nI_pred R)) ?_)
        subst hQ
        exact dw_iret hx hb hr (dw_perm hG [2, 0, 1] (by decide) rfl rfl) (()) (by rw [db_nI_up RV R v] <;> rfl) rfl dM_result_74 hlocks
      replace h33 : ¬ 0 ≤ 0 := fun hq0 => h33 ((nI_leI (a := 0) (b := 0) (by omega) (by omega)).mpr hq0)
      (exfalso; omega)
    replace h18 := (nI_eq (a := R) (b := 4) (by omega) (by omega)).mp h18
    (exfalso; omega)
  replace h6 := (nI_eq (a := 1) (b := 0) (by omega) (by omega)).mp h6
  (exfalso; omega)

set_option maxRecDepth 100000 in
set_option maxHeartbeats 4000000 in
theorem rf_result_1 (l : Launch) (dC : Nat → ClassId) (dI : Nat → Nat → Nat) (cI cZ : ClassId) (m0 aMd aO1 aT2 aSh aMk aFa aDe aNe aBy aPi aNw aNs aBf n R : Nat) (ft pd rn rr : Int32) (RV : Nat → Nat) (Ms : Nat → Int32) (v mk : Int32) (sz : Nat) (hn : n ≤ 24) (hinv : db_isv v (nI n) = 0) : Met l yM_result wsM_result { frames := 1, cells := 0, slots := 0, locals := 30 } (va_Pc [.ref m0, .int (v), .int (mk)] (dw_pre (dC, dI) vwCl [(m0, .inr (5, [.int (ft), .int (nI (n)), .ref aMd, .ref aO1, .ref aT2, .int (nI (R)), .ref aSh, .ref aMk, .ref aFa, .ref aDe, .ref aNe, .ref aBy, .ref aPi, .int (pd), .ref aNw, .ref aNs, .ref aBf, .int (rn), .int (rr)])), (aSh, .inl (cI, 4, .inl (fun r => nI (RV r)))), (aMk, .inl (cI, 4, .inl (Ms)))] [(cI, .int), (cZ, .boolean)] sz)) (va_Qi (fun (r : Int32) (u : Unit) => r = 0) (fun u t => dw_post (dC, dI) vwCl [(m0, .inr (5, [.int (1), .int (nI (n)), .ref aMd, .ref aO1, .ref aT2, .int (nI (R)), .ref aSh, .ref aMk, .ref aFa, .ref aDe, .ref aNe, .ref aBy, .ref aPi, .int (pd), .ref aNw, .ref aNs, .ref aBf, .int (rn), .int (rr)])), (aSh, .inl (cI, 4, .inl (fun r => nI (RV r)))), (aMk, .inl (cI, 4, .inl (Ms)))] [(cI, .int), (cZ, .boolean)] (va_A [(m0, .inr (5, [.int (ft), .int (nI (n)), .ref aMd, .ref aO1, .ref aT2, .int (nI (R)), .ref aSh, .ref aMk, .ref aFa, .ref aDe, .ref aNe, .ref aBy, .ref aPi, .int (pd), .ref aNw, .ref aNs, .ref aBf, .int (rn), .int (rr)])), (aSh, .inl (cI, 4, .inl (fun r => nI (RV r)))), (aMk, .inl (cI, 4, .inl (Ms)))] sz) t) (va_A [(m0, .inr (5, [.int (ft), .int (nI (n)), .ref aMd, .ref aO1, .ref aT2, .int (nI (R)), .ref aSh, .ref aMk, .ref aFa, .ref aDe, .ref aNe, .ref aBy, .ref aPi, .int (pd), .ref aNw, .ref aNs, .ref aBf, .int (rn), .int (rr)])), (aSh, .inl (cI, 4, .inl (fun r => nI (RV r)))), (aMk, .inl (cI, 4, .inl (Ms)))] sz)) 0 0 (va_A [(m0, .inr (5, [.int (ft), .int (nI (n)), .ref aMd, .ref aO1, .ref aT2, .int (nI (R)), .ref aSh, .ref aMk, .ref aFa, .ref aDe, .ref aNe, .ref aBy, .ref aPi, .int (pd), .ref aNw, .ref aNs, .ref aBf, .int (rn), .int (rr)])), (aSh, .inl (cI, 4, .inl (fun r => nI (RV r)))), (aMk, .inl (cI, 4, .inl (Ms)))] sz) := by
  refine Met.ofW (cc := cM_result) (maxL := 3) (ret := (some .int)) (by decide) rfl ?_
  intro p e s m args below meth c s₁ B hml hv0
  have hx := B.exec
  have hb := B.bytes
  have hr := B.returns
  have hts := atoms_spec (ws := wsM_result) B.pre
  have hown : s.vm.findClass RM = some m.cls := findClass_of_methodNamed B.named
  have hlocks := B.notSynchronized
  obtain ⟨rfl, hsz, hG⟩ := dw_enter hv0
  generalize va_A [(m0, .inr (5, [.int (ft), .int (nI (n)), .ref aMd, .ref aO1, .ref aT2, .int (nI (R)), .ref aSh, .ref aMk, .ref aFa, .ref aDe, .ref aNe, .ref aBy, .ref aPi, .int (pd), .ref aNw, .ref aNs, .ref aBf, .int (rn), .int (rr)])), (aSh, .inl (cI, 4, .inl (fun r => nI (RV r)))), (aMk, .inl (cI, 4, .inl (Ms)))] sz = A at hG ⊢
  have hl := lv_entry ([.ref m0, .int (v), .int (mk)]) (n := 3) (Nat.le_of_ble_eq_true rfl)
  rw [lg_entry_eq]
  generalize (lg_sl ([.ref m0, .int (v), .int (mk)]) ++ List.replicate (3 - (lg_sl ([.ref m0, .int (v), .int (mk)])).length) Slot.unset).toArray = ls at hl ⊢
  have hl : lv_has ls 3 [(0, .ref m0), (1, .int (v)), (2, .int (mk))] := hl
  have hw494 := hts _ (List.mem_cons_of_mem _ tw_494)
  refine dw_Q (fun Q hQ => ?_)
  suffices hgo : ∀ (H : Heap) (locs : List Loc), dw_G (dC, dI) vwCl [(cI, .int), (cZ, .boolean)] A s.heap s [(m0, .inr (5, [.int (ft), .int (nI (n)), .ref aMd, .ref aO1, .ref aT2, .int (nI (R)), .ref aSh, .ref aMk, .ref aFa, .ref aDe, .ref aNe, .ref aBy, .ref aPi, .int (pd), .ref aNw, .ref aNs, .ref aBf, .int (rn), .int (rr)])), (aSh, .inl (cI, 4, .inl (fun r => nI (RV r)))), (aMk, .inl (cI, 4, .inl (Ms)))] H locs → W p l e (headSpec wsM_result { frames := 1, cells := 0, slots := 0, locals := 30 }).room s m [.ref m0, .int (v), .int (mk)].toArray below meth c H locs 0 0 Q (F0 m 0 ls []) from hgo _ _ hG
  clear hG
  intro H locs hG
  refine lv_aload_n hx hb dM_result_0 rfl (lv_at hl 0 rfl) ?_
  refine lv_aload_n hx hb dM_result_1 rfl (lv_at hl 0 rfl) ?_
  refine lv_iload_n hx hb dM_result_2 rfl (lv_at hl 1 rfl) ?_
  refine dw_calli (wc := [(m0, .inr (5, [.int (ft), .int (nI (n)), .ref aMd, .ref aO1, .ref aT2, .int (nI (R)), .ref aSh, .ref aMk, .ref aFa, .ref aDe, .ref aNe, .ref aBy, .ref aPi, .int (pd), .ref aNw, .ref aNs, .ref aBf, .int (rn), .int (rr)]))]) (wr := [(aSh, .inl (cI, 4, .inl (fun r => nI (RV r)))), (aMk, .inl (cI, 4, .inl (Ms)))]) hG [0] [1, 2] rfl rfl (by decide) (by decide) (va_runV (As := [.int (v)]) (rest := [.ref m0]) ⟨hx, hb, hml, hown, hts⟩ (rf_isValue l dC dI cI cZ m0 aMd aO1 aT2 aSh aMk aFa aDe aNe aBy aPi aNw aNs aBf ft (nI n) (nI R) pd rn rr (v) H.size ) (dc_V 1 hts tw_573 tw_575 tp_M_isValue tw_7 tw_576 rfl rfl (by decide +kernel) ⟨Nat.le_of_ble_eq_true rfl, Nat.le_of_ble_eq_true rfl⟩) (dw_preV (ci := 5) hG [0] [0, 1] rfl rfl (by decide) rfl rfl (q0 := 0) rfl) rfl rfl hl.1 rfl (lv_room (Nat.le_of_ble_eq_true rfl)) dM_result_3 ⟨Nat.le_refl _, Nat.le_refl _⟩) (fun r u H locs hp hG => ?_)
  subst hp
  have hG : dw_G (dC, dI) vwCl [(cI, .int), (cZ, .boolean)] A s.heap s [(aSh, .inl (cI, 4, .inl (fun r => nI (RV r)))), (aMk, .inl (cI, 4, .inl (Ms))), (m0, .inr (5, [.int (ft), .int (nI (n)), .ref aMd, .ref aO1, .ref aT2, .int (nI (R)), .ref aSh, .ref aMk, .ref aFa, .ref aDe, .ref aNe, .ref aBy, .ref aPi, .int (pd), .ref aNw, .ref aNs, .ref aBf, .int (rn), .int (rr)]))] H locs := hG
  refine lv_topi (nm_r (show (db_isv (v) (nI n) : Int32) = 0 from hinv) ?_)
  refine lv_if_ne (tgt := 13) hx hb dM_result_6 (by decide) (fun h6 => ?_) (fun h6 => ?_)
  · skip
    replace h6 : ¬ 0 = 0 := fun hq0 => h6 ((nI_eq (a := 0) (b := 0) (by omega) (by omega)).mpr hq0)
    (exfalso; omega)
  replace h6 := (nI_eq (a := 0) (b := 0) (by omega) (by omega)).mp h6
  refine lv_iconst (v := 1) hx hb dM_result_9 (by decide) ?_
  refine lv_goto (tgt := 26) hx hb dM_result_10 (by decide) ?_
  refine dw_put (ws' := [(aSh, .inl (cI, 4, .inl (fun r => nI (RV r)))), (aMk, .inl (cI, 4, .inl (Ms))), (m0, .inr (5, [.int (1), .int (nI (n)), .ref aMd, .ref aO1, .ref aT2, .int (nI (R)), .ref aSh, .ref aMk, .ref aFa, .ref aDe, .ref aNe, .ref aBy, .ref aPi, .int (pd), .ref aNw, .ref aNs, .ref aBf, .int (rn), .int (rr)]))]) hx hb hts inMc tyM tyM_ok nmM hown hG 2 0 rfl rfl (by decide) hw494 rfl rfl (ty := .int) (by decide +kernel) rfl rfl (Nat.le_of_ble_eq_true rfl) dM_result_26 rfl (fun H locs hG => ?_)
  refine lv_aload_n hx hb dM_result_29 rfl (lv_at hl 0 rfl) ?_
  refine dw_get hx hb hts inMc hown hG 2 0 rfl rfl (by decide) hw494 rfl rfl dM_result_30 ?_
  refine lv_if_le (tgt := 38) hx hb dM_result_33 (by decide) (fun h33 => ?_) (fun h33 => ?_)
  · skip
    replace h33 := (nI_leI (a := 1) (b := 0) (by omega) (by omega)).mp h33
    (exfalso; omega)
  replace h33 : ¬ 1 ≤ 0 := fun hq0 => h33 ((nI_leI (a := 1) (b := 0) (by omega) (by omega)).mpr hq0)
  refine lv_iconst (v := 0) hx hb dM_result_36 (by decide) ?_
  subst hQ
  exact dw_iret hx hb hr (dw_perm hG [2, 0, 1] (by decide) rfl rfl) (()) rfl rfl dM_result_37 hlocks

set_option maxRecDepth 100000 in
set_option maxHeartbeats 4000000 in
theorem rf_result_2 (l : Launch) (dC : Nat → ClassId) (dI : Nat → Nat → Nat) (cI cZ : ClassId) (m0 aMd aO1 aT2 aSh aMk aFa aDe aNe aBy aPi aNw aNs aBf n R : Nat) (ft pd rn rr : Int32) (RV : Nat → Nat) (Ms : Nat → Int32) (v : Nat) (mk : Int32) (sz : Nat) (hv : v < n) (hn : n ≤ 24) (hR : R = 4) : Met l yM_result wsM_result { frames := 1, cells := 0, slots := 0, locals := 30 } (va_Pc [.ref m0, .int (nI (v)), .int (mk)] (dw_pre (dC, dI) vwCl [(m0, .inr (5, [.int (ft), .int (nI (n)), .ref aMd, .ref aO1, .ref aT2, .int (nI (R)), .ref aSh, .ref aMk, .ref aFa, .ref aDe, .ref aNe, .ref aBy, .ref aPi, .int (pd), .ref aNw, .ref aNs, .ref aBf, .int (rn), .int (rr)])), (aSh, .inl (cI, 4, .inl (fun r => nI (RV r)))), (aMk, .inl (cI, 4, .inl (Ms)))] [(cI, .int), (cZ, .boolean)] sz)) (va_Qi (fun (r : Int32) (u : Unit) => r = 0) (fun u t => dw_post (dC, dI) vwCl [(m0, .inr (5, [.int (2), .int (nI (n)), .ref aMd, .ref aO1, .ref aT2, .int (nI (R)), .ref aSh, .ref aMk, .ref aFa, .ref aDe, .ref aNe, .ref aBy, .ref aPi, .int (pd), .ref aNw, .ref aNs, .ref aBf, .int (rn), .int (rr)])), (aSh, .inl (cI, 4, .inl (fun r => nI (RV r)))), (aMk, .inl (cI, 4, .inl (Ms)))] [(cI, .int), (cZ, .boolean)] (va_A [(m0, .inr (5, [.int (ft), .int (nI (n)), .ref aMd, .ref aO1, .ref aT2, .int (nI (R)), .ref aSh, .ref aMk, .ref aFa, .ref aDe, .ref aNe, .ref aBy, .ref aPi, .int (pd), .ref aNw, .ref aNs, .ref aBf, .int (rn), .int (rr)])), (aSh, .inl (cI, 4, .inl (fun r => nI (RV r)))), (aMk, .inl (cI, 4, .inl (Ms)))] sz) t) (va_A [(m0, .inr (5, [.int (ft), .int (nI (n)), .ref aMd, .ref aO1, .ref aT2, .int (nI (R)), .ref aSh, .ref aMk, .ref aFa, .ref aDe, .ref aNe, .ref aBy, .ref aPi, .int (pd), .ref aNw, .ref aNs, .ref aBf, .int (rn), .int (rr)])), (aSh, .inl (cI, 4, .inl (fun r => nI (RV r)))), (aMk, .inl (cI, 4, .inl (Ms)))] sz)) 0 0 (va_A [(m0, .inr (5, [.int (ft), .int (nI (n)), .ref aMd, .ref aO1, .ref aT2, .int (nI (R)), .ref aSh, .ref aMk, .ref aFa, .ref aDe, .ref aNe, .ref aBy, .ref aPi, .int (pd), .ref aNw, .ref aNs, .ref aBf, .int (rn), .int (rr)])), (aSh, .inl (cI, 4, .inl (fun r => nI (RV r)))), (aMk, .inl (cI, 4, .inl (Ms)))] sz) := by
  refine Met.ofW (cc := cM_result) (maxL := 3) (ret := (some .int)) (by decide) rfl ?_
  intro p e s m args below meth c s₁ B hml hv0
  have hx := B.exec
  have hb := B.bytes
  have hr := B.returns
  have hts := atoms_spec (ws := wsM_result) B.pre
  have hown : s.vm.findClass RM = some m.cls := findClass_of_methodNamed B.named
  have hlocks := B.notSynchronized
  obtain ⟨rfl, hsz, hG⟩ := dw_enter hv0
  generalize va_A [(m0, .inr (5, [.int (ft), .int (nI (n)), .ref aMd, .ref aO1, .ref aT2, .int (nI (R)), .ref aSh, .ref aMk, .ref aFa, .ref aDe, .ref aNe, .ref aBy, .ref aPi, .int (pd), .ref aNw, .ref aNs, .ref aBf, .int (rn), .int (rr)])), (aSh, .inl (cI, 4, .inl (fun r => nI (RV r)))), (aMk, .inl (cI, 4, .inl (Ms)))] sz = A at hG ⊢
  have hl := lv_entry ([.ref m0, .int (nI (v)), .int (mk)]) (n := 3) (Nat.le_of_ble_eq_true rfl)
  rw [lg_entry_eq]
  generalize (lg_sl ([.ref m0, .int (nI (v)), .int (mk)]) ++ List.replicate (3 - (lg_sl ([.ref m0, .int (nI (v)), .int (mk)])).length) Slot.unset).toArray = ls at hl ⊢
  have hl : lv_has ls 3 [(0, .ref m0), (1, .int (nI (v))), (2, .int (mk))] := hl
  have hw499 := hts _ (List.mem_cons_of_mem _ tw_499)
  have hw494 := hts _ (List.mem_cons_of_mem _ tw_494)
  refine dw_Q (fun Q hQ => ?_)
  suffices hgo : ∀ (H : Heap) (locs : List Loc), dw_G (dC, dI) vwCl [(cI, .int), (cZ, .boolean)] A s.heap s [(m0, .inr (5, [.int (ft), .int (nI (n)), .ref aMd, .ref aO1, .ref aT2, .int (nI (R)), .ref aSh, .ref aMk, .ref aFa, .ref aDe, .ref aNe, .ref aBy, .ref aPi, .int (pd), .ref aNw, .ref aNs, .ref aBf, .int (rn), .int (rr)])), (aSh, .inl (cI, 4, .inl (fun r => nI (RV r)))), (aMk, .inl (cI, 4, .inl (Ms)))] H locs → W p l e (headSpec wsM_result { frames := 1, cells := 0, slots := 0, locals := 30 }).room s m [.ref m0, .int (nI (v)), .int (mk)].toArray below meth c H locs 0 0 Q (F0 m 0 ls []) from hgo _ _ hG
  clear hG
  intro H locs hG
  refine lv_aload_n hx hb dM_result_0 rfl (lv_at hl 0 rfl) ?_
  refine lv_aload_n hx hb dM_result_1 rfl (lv_at hl 0 rfl) ?_
  refine lv_iload_n hx hb dM_result_2 rfl (lv_at hl 1 rfl) ?_
  refine dw_calli (wc := [(m0, .inr (5, [.int (ft), .int (nI (n)), .ref aMd, .ref aO1, .ref aT2, .int (nI (R)), .ref aSh, .ref aMk, .ref aFa, .ref aDe, .ref aNe, .ref aBy, .ref aPi, .int (pd), .ref aNw, .ref aNs, .ref aBf, .int (rn), .int (rr)]))]) (wr := [(aSh, .inl (cI, 4, .inl (fun r => nI (RV r)))), (aMk, .inl (cI, 4, .inl (Ms)))]) hG [0] [1, 2] rfl rfl (by decide) (by decide) (va_runV (As := [.int (nI (v))]) (rest := [.ref m0]) ⟨hx, hb, hml, hown, hts⟩ (rf_isValue l dC dI cI cZ m0 aMd aO1 aT2 aSh aMk aFa aDe aNe aBy aPi aNw aNs aBf ft (nI n) (nI R) pd rn rr (nI (v)) H.size ) (dc_V 1 hts tw_573 tw_575 tp_M_isValue tw_7 tw_576 rfl rfl (by decide +kernel) ⟨Nat.le_of_ble_eq_true rfl, Nat.le_of_ble_eq_true rfl⟩) (dw_preV (ci := 5) hG [0] [0, 1] rfl rfl (by decide) rfl rfl (q0 := 0) rfl) rfl rfl hl.1 rfl (lv_room (Nat.le_of_ble_eq_true rfl)) dM_result_3 ⟨Nat.le_refl _, Nat.le_refl _⟩) (fun r u H locs hp hG => ?_)
  subst hp
  have hG : dw_G (dC, dI) vwCl [(cI, .int), (cZ, .boolean)] A s.heap s [(aSh, .inl (cI, 4, .inl (fun r => nI (RV r)))), (aMk, .inl (cI, 4, .inl (Ms))), (m0, .inr (5, [.int (ft), .int (nI (n)), .ref aMd, .ref aO1, .ref aT2, .int (nI (R)), .ref aSh, .ref aMk, .ref aFa, .ref aDe, .ref aNe, .ref aBy, .ref aPi, .int (pd), .ref aNw, .ref aNs, .ref aBf, .int (rn), .int (rr)]))] H locs := hG
  refine lv_topi (nm_r (show (db_isv (nI (v)) (nI n) : Int32) = 1 from (db_isv_y (by omega) (by omega))) ?_)
  refine lv_if_ne (tgt := 13) hx hb dM_result_6 (by decide) (fun h6 => ?_) (fun h6 => ?_)
  · skip
    replace h6 : ¬ 1 = 0 := fun hq0 => h6 ((nI_eq (a := 1) (b := 0) (by omega) (by omega)).mpr hq0)
    refine lv_aload_n hx hb dM_result_13 rfl (lv_at hl 0 rfl) ?_
    refine dw_get hx hb hts inMc hown hG 2 5 rfl rfl (by decide) hw499 rfl rfl dM_result_14 ?_
    refine lv_iconst (v := 4) hx hb dM_result_17 (by decide) ?_
    refine lv_icmp_ne (tgt := 25) hx hb dM_result_18 (by decide) (fun h18 => ?_) (fun h18 => ?_)
    · skip
      replace h18 : ¬ R = 4 := fun hq0 => h18 ((nI_eq (a := R) (b := 4) (by omega) (by omega)).mpr hq0)
      (exfalso; omega)
    replace h18 := (nI_eq (a := R) (b := 4) (by omega) (by omega)).mp h18
    refine lv_iconst (v := 2) hx hb dM_result_21 (by decide) ?_
    refine lv_goto (tgt := 26) hx hb dM_result_22 (by decide) ?_
    refine dw_put (ws' := [(aSh, .inl (cI, 4, .inl (fun r => nI (RV r)))), (aMk, .inl (cI, 4, .inl (Ms))), (m0, .inr (5, [.int (2), .int (nI (n)), .ref aMd, .ref aO1, .ref aT2, .int (nI (R)), .ref aSh, .ref aMk, .ref aFa, .ref aDe, .ref aNe, .ref aBy, .ref aPi, .int (pd), .ref aNw, .ref aNs, .ref aBf, .int (rn), .int (rr)]))]) hx hb hts inMc tyM tyM_ok nmM hown hG 2 0 rfl rfl (by decide) hw494 rfl rfl (ty := .int) (by decide +kernel) rfl rfl (Nat.le_of_ble_eq_true rfl) dM_result_26 rfl (fun H locs hG => ?_)
    refine lv_aload_n hx hb dM_result_29 rfl (lv_at hl 0 rfl) ?_
    refine dw_get hx hb hts inMc hown hG 2 0 rfl rfl (by decide) hw494 rfl rfl dM_result_30 ?_
    refine lv_if_le (tgt := 38) hx hb dM_result_33 (by decide) (fun h33 => ?_) (fun h33 => ?_)
    · skip
      replace h33 := (nI_leI (a := 2) (b := 0) (by omega) (by omega)).mp h33
      (exfalso; omega)
    replace h33 : ¬ 2 ≤ 0 := fun hq0 => h33 ((nI_leI (a := 2) (b := 0) (by omega) (by omega)).mpr hq0)
    refine lv_iconst (v := 0) hx hb dM_result_36 (by decide) ?_
    subst hQ
    exact dw_iret hx hb hr (dw_perm hG [2, 0, 1] (by decide) rfl rfl) (()) rfl rfl dM_result_37 hlocks
  replace h6 := (nI_eq (a := 1) (b := 0) (by omega) (by omega)).mp h6
  (exfalso; omega)

