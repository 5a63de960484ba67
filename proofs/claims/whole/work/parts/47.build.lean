set_option maxRecDepth 100000 in
set_option maxHeartbeats 4000000 in
theorem rf_input_0 (l : Launch) (dC : Nat → ClassId) (dI : Nat → Nat → Nat) (cI cZ : ClassId) (m0 aMd aO1 aT2 aSh aMk aFa aDe aNe aBy aPi aNw aNs aBf n : Nat) (ft rs pd rn rr : Int32) (K X Y : Nat → Nat) (Nm : Nat → Int32) (d : Nat) (sz : Nat) (hd : d < 3) (hn : n < 24) : Met l yM_input wsM_input { frames := 1, cells := 0, slots := 0, locals := 30 } (va_Pc [.ref m0, .int (nI (d))] (dw_pre (dC, dI) vwCl [(m0, .inr (5, [.int (ft), .int (nI (n)), .ref aMd, .ref aO1, .ref aT2, .int (rs), .ref aSh, .ref aMk, .ref aFa, .ref aDe, .ref aNe, .ref aBy, .ref aPi, .int (pd), .ref aNw, .ref aNs, .ref aBf, .int (rn), .int (rr)])), (aMd, .inl (cI, 24, .inl (fun w => nI (db_rk (K w))))), (aO1, .inl (cI, 24, .inl (db_one1 K X Nm))), (aT2, .inl (cI, 24, .inl (db_two2 K Y Nm)))] [(cI, .int), (cZ, .boolean)] sz)) (va_Qi (fun (r : Int32) (u : Unit) => r = nI n) (fun u t => dw_post (dC, dI) vwCl [(m0, .inr (5, [.int (0), .int (nI (n + 1)), .ref aMd, .ref aO1, .ref aT2, .int (rs), .ref aSh, .ref aMk, .ref aFa, .ref aDe, .ref aNe, .ref aBy, .ref aPi, .int (pd), .ref aNw, .ref aNs, .ref aBf, .int (rn), .int (rr)])), (aMd, .inl (cI, 24, .inl (fun w => nI (db_rk ((db_upN K n 9) w))))), (aO1, .inl (cI, 24, .inl (db_one1 (db_upN K n 9) (db_upN X n 0) (upd Nm n (nI d))))), (aT2, .inl (cI, 24, .inl (db_two2 (db_upN K n 9) (db_upN Y n 0) (upd Nm n (nI d)))))] [(cI, .int), (cZ, .boolean)] (va_A [(m0, .inr (5, [.int (ft), .int (nI (n)), .ref aMd, .ref aO1, .ref aT2, .int (rs), .ref aSh, .ref aMk, .ref aFa, .ref aDe, .ref aNe, .ref aBy, .ref aPi, .int (pd), .ref aNw, .ref aNs, .ref aBf, .int (rn), .int (rr)])), (aMd, .inl (cI, 24, .inl (fun w => nI (db_rk (K w))))), (aO1, .inl (cI, 24, .inl (db_one1 K X Nm))), (aT2, .inl (cI, 24, .inl (db_two2 K Y Nm)))] sz) t) (va_A [(m0, .inr (5, [.int (ft), .int (nI (n)), .ref aMd, .ref aO1, .ref aT2, .int (rs), .ref aSh, .ref aMk, .ref aFa, .ref aDe, .ref aNe, .ref aBy, .ref aPi, .int (pd), .ref aNw, .ref aNs, .ref aBf, .int (rn), .int (rr)])), (aMd, .inl (cI, 24, .inl (fun w => nI (db_rk (K w))))), (aO1, .inl (cI, 24, .inl (db_one1 K X Nm))), (aT2, .inl (cI, 24, .inl (db_two2 K Y Nm)))] sz)) 0 0 (va_A [(m0, .inr (5, [.int (ft), .int (nI (n)), .ref aMd, .ref aO1, .ref aT2, .int (rs), .ref aSh, .ref aMk, .ref aFa, .ref aDe, .ref aNe, .ref aBy, .ref aPi, .int (pd), .ref aNw, .ref aNs, .ref aBf, .int (rn), .int (rr)])), (aMd, .inl (cI, 24, .inl (fun w => nI (db_rk (K w))))), (aO1, .inl (cI, 24, .inl (db_one1 K X Nm))), (aT2, .inl (cI, 24, .inl (db_two2 K Y Nm)))] sz) := by
  refine Met.ofW (cc := cM_input) (maxL := 2) (ret := (some .int)) (by decide) rfl ?_
  intro p e s m args below meth c s₁ B hml hv0
  have hx := B.exec
  have hb := B.bytes
  have hr := B.returns
  have hts := atoms_spec (ws := wsM_input) B.pre
  have hown : s.vm.findClass RM = some m.cls := findClass_of_methodNamed B.named
  have hlocks := B.notSynchronized
  obtain ⟨rfl, hsz, hG⟩ := dw_enter hv0
  generalize va_A [(m0, .inr (5, [.int (ft), .int (nI (n)), .ref aMd, .ref aO1, .ref aT2, .int (rs), .ref aSh, .ref aMk, .ref aFa, .ref aDe, .ref aNe, .ref aBy, .ref aPi, .int (pd), .ref aNw, .ref aNs, .ref aBf, .int (rn), .int (rr)])), (aMd, .inl (cI, 24, .inl (fun w => nI (db_rk (K w))))), (aO1, .inl (cI, 24, .inl (db_one1 K X Nm))), (aT2, .inl (cI, 24, .inl (db_two2 K Y Nm)))] sz = A at hG ⊢
  have hl := lv_entry ([.ref m0, .int (nI (d))]) (n := 2) (Nat.le_of_ble_eq_true rfl)
  rw [lg_entry_eq]
  generalize (lg_sl ([.ref m0, .int (nI (d))]) ++ List.replicate (2 - (lg_sl ([.ref m0, .int (nI (d))])).length) Slot.unset).toArray = ls at hl ⊢
  have hl : lv_has ls 2 [(0, .ref m0), (1, .int (nI (d)))] := hl
  have hw495 := hts _ (List.mem_cons_of_mem _ tw_495)
  refine dw_Q (fun Q hQ => ?_)
  suffices hgo : ∀ (H : Heap) (locs : List Loc), dw_G (dC, dI) vwCl [(cI, .int), (cZ, .boolean)] A s.heap s [(m0, .inr (5, [.int (ft), .int (nI (n)), .ref aMd, .ref aO1, .ref aT2, .int (rs), .ref aSh, .ref aMk, .ref aFa, .ref aDe, .ref aNe, .ref aBy, .ref aPi, .int (pd), .ref aNw, .ref aNs, .ref aBf, .int (rn), .int (rr)])), (aMd, .inl (cI, 24, .inl (fun w => nI (db_rk (K w))))), (aO1, .inl (cI, 24, .inl (db_one1 K X Nm))), (aT2, .inl (cI, 24, .inl (db_two2 K Y Nm)))] H locs → W p l e (headSpec wsM_input { frames := 1, cells := 0, slots := 0, locals := 30 }).room s m [.ref m0, .int (nI (d))].toArray below meth c H locs 0 0 Q (F0 m 0 ls []) from hgo _ _ hG
  clear hG
  intro H locs hG
  refine lv_aload_n hx hb dM_input_0 rfl (lv_at hl 0 rfl) ?_
  refine lv_iload_n hx hb dM_input_1 rfl (lv_at hl 1 rfl) ?_
  refine lv_if_lt (tgt := 10) hx hb dM_input_2 (by decide) (fun h2 => ?_) (fun h2 => ?_)
  · skip
    replace h2 := (nI_ltI (a := d) (b := 0) (by omega) (by omega)).mp h2
    (exfalso; omega)
  replace h2 : ¬ d < 0 := fun hq0 => h2 ((nI_ltI (a := d) (b := 0) (by omega) (by omega)).mpr hq0)
  refine lv_iload_n hx hb dM_input_5 rfl (lv_at hl 1 rfl) ?_
  refine lv_iconst (v := 2) hx hb dM_input_6 (by decide) ?_
  refine lv_icmp_le (tgt := 14) hx hb dM_input_7 (by decide) (fun h7 => ?_) (fun h7 => ?_)
  · skip
    replace h7 := (nI_leI (a := d) (b := 2) (by omega) (by omega)).mp h7
    refine lv_aload_n hx hb dM_input_14 rfl (lv_at hl 0 rfl) ?_
    refine dw_get hx hb hts inMc hown hG 0 1 rfl rfl (by decide) hw495 rfl rfl dM_input_15 ?_
    refine lv_bipush (v := 24) hx hb dM_input_18 (by decide) ?_
    refine lv_icmp_ne (tgt := 27) hx hb dM_input_20 (by decide) (fun h20 => ?_) (fun h20 => ?_)
    · skip
      replace h20 : ¬ n = 24 := fun hq0 => h20 ((nI_eq (a := n) (b := 24) (by omega) (by omega)).mpr hq0)
      refine lv_iconst (v := 0) hx hb dM_input_27 (by decide) ?_
      refine lv_bipush (v := 12) hx hb dM_input_28 (by decide) ?_
      refine lv_iload_n hx hb dM_input_30 rfl (lv_at hl 1 rfl) ?_
      refine lv_iconst (v := 0) hx hb dM_input_31 (by decide) ?_
      refine dw_calli (wc := [(m0, .inr (5, [.int (ft), .int (nI (n)), .ref aMd, .ref aO1, .ref aT2, .int (rs), .ref aSh, .ref aMk, .ref aFa, .ref aDe, .ref aNe, .ref aBy, .ref aPi, .int (pd), .ref aNw, .ref aNs, .ref aBf, .int (rn), .int (rr)])), (aMd, .inl (cI, 24, .inl (fun w => nI (db_rk (K w))))), (aO1, .inl (cI, 24, .inl (db_one1 K X Nm))), (aT2, .inl (cI, 24, .inl (db_two2 K Y Nm)))]) (wr := []) hG [0, 1, 2, 3] [] rfl rfl (by decide) (by decide) (va_runV (As := [.int (0), .int (12), .int (nI (d)), .int (0)]) (rest := []) ⟨hx, hb, hml, hown, hts⟩ (rf_make0 l dC dI cI cZ m0 aMd aO1 aT2 aSh aMk aFa aDe aNe aBy aPi aNw aNs aBf n ft rs pd rn rr (fun w => nI (db_rk (K w))) (db_one1 K X Nm) (db_two2 K Y Nm) (12) (nI (d)) (0) H.size (by omega)) (dc_V 4 hts tw_561 tw_563 tp_M_make tw_7 tw_564 rfl rfl (by decide +kernel) ⟨Nat.le_of_ble_eq_true rfl, Nat.le_of_ble_eq_true rfl⟩) (dw_preV (ci := 5) hG [0, 1, 2, 3] [0, 1] rfl rfl (by decide) rfl rfl (q0 := 0) rfl) rfl rfl hl.1 rfl (lv_room (Nat.le_of_ble_eq_true rfl)) dM_input_32 ⟨Nat.le_refl _, Nat.le_refl _⟩) (fun r u H locs hp hG => ?_)
      subst hp
      have hG : dw_G (dC, dI) vwCl [(cI, .int), (cZ, .boolean)] A s.heap s [(m0, .inr (5, [.int (0), .int (nI (n + 1)), .ref aMd, .ref aO1, .ref aT2, .int (rs), .ref aSh, .ref aMk, .ref aFa, .ref aDe, .ref aNe, .ref aBy, .ref aPi, .int (pd), .ref aNw, .ref aNs, .ref aBf, .int (rn), .int (rr)])), (aMd, .inl (cI, 24, .inl (upd (fun w => nI (db_rk (K w))) n (12)))), (aO1, .inl (cI, 24, .inl (upd (db_one1 K X Nm) n (nI (d))))), (aT2, .inl (cI, 24, .inl (upd (db_two2 K Y Nm) n (0))))] H locs := hG
      subst hQ
      exact dw_iret hx hb hr hG (()) (by rw [db_md_up K n 9 (12) rfl, db_o1_up K X Nm n 9 0 (nI d) (nI (d)) rfl, db_t2_up K Y Nm n 9 0 (nI d) (0) rfl]) rfl dM_input_35 hlocks
    replace h20 := (nI_eq (a := n) (b := 24) (by omega) (by omega)).mp h20
    (exfalso; omega)
  replace h7 : ¬ d ≤ 2 := fun hq0 => h7 ((nI_leI (a := d) (b := 2) (by omega) (by omega)).mpr hq0)
  (exfalso; omega)

set_option maxRecDepth 100000 in
set_option maxHeartbeats 4000000 in
theorem rf_input_1 (l : Launch) (dC : Nat → ClassId) (dI : Nat → Nat → Nat) (cI cZ : ClassId) (m0 aMd aO1 aT2 aSh aMk aFa aDe aNe aBy aPi aNw aNs aBf n : Nat) (ft rs pd rn rr : Int32) (K X Y : Nat → Nat) (Nm : Nat → Int32) (k : Int32) (sz : Nat) (hn : n ≤ 24) (hbad : k < 0 ∨ 2 < k) : Met l yM_input wsM_input { frames := 1, cells := 0, slots := 0, locals := 30 } (va_Pc [.ref m0, .int (k)] (dw_pre (dC, dI) vwCl [(m0, .inr (5, [.int (ft), .int (nI (n)), .ref aMd, .ref aO1, .ref aT2, .int (rs), .ref aSh, .ref aMk, .ref aFa, .ref aDe, .ref aNe, .ref aBy, .ref aPi, .int (pd), .ref aNw, .ref aNs, .ref aBf, .int (rn), .int (rr)])), (aMd, .inl (cI, 24, .inl (fun w => nI (db_rk (K w))))), (aO1, .inl (cI, 24, .inl (db_one1 K X Nm))), (aT2, .inl (cI, 24, .inl (db_two2 K Y Nm)))] [(cI, .int), (cZ, .boolean)] sz)) (va_Qi (fun (r : Int32) (u : Unit) => r = 0) (fun u t => dw_post (dC, dI) vwCl [(m0, .inr (5, [.int (1), .int (nI (n)), .ref aMd, .ref aO1, .ref aT2, .int (rs), .ref aSh, .ref aMk, .ref aFa, .ref aDe, .ref aNe, .ref aBy, .ref aPi, .int (pd), .ref aNw, .ref aNs, .ref aBf, .int (rn), .int (rr)])), (aMd, .inl (cI, 24, .inl (fun w => nI (db_rk (K w))))), (aO1, .inl (cI, 24, .inl (db_one1 K X Nm))), (aT2, .inl (cI, 24, .inl (db_two2 K Y Nm)))] [(cI, .int), (cZ, .boolean)] (va_A [(m0, .inr (5, [.int (ft), .int (nI (n)), .ref aMd, .ref aO1, .ref aT2, .int (rs), .ref aSh, .ref aMk, .ref aFa, .ref aDe, .ref aNe, .ref aBy, .ref aPi, .int (pd), .ref aNw, .ref aNs, .ref aBf, .int (rn), .int (rr)])), (aMd, .inl (cI, 24, .inl (fun w => nI (db_rk (K w))))), (aO1, .inl (cI, 24, .inl (db_one1 K X Nm))), (aT2, .inl (cI, 24, .inl (db_two2 K Y Nm)))] sz) t) (va_A [(m0, .inr (5, [.int (ft), .int (nI (n)), .ref aMd, .ref aO1, .ref aT2, .int (rs), .ref aSh, .ref aMk, .ref aFa, .ref aDe, .ref aNe, .ref aBy, .ref aPi, .int (pd), .ref aNw, .ref aNs, .ref aBf, .int (rn), .int (rr)])), (aMd, .inl (cI, 24, .inl (fun w => nI (db_rk (K w))))), (aO1, .inl (cI, 24, .inl (db_one1 K X Nm))), (aT2, .inl (cI, 24, .inl (db_two2 K Y Nm)))] sz)) 0 0 (va_A [(m0, .inr (5, [.int (ft), .int (nI (n)), .ref aMd, .ref aO1, .ref aT2, .int (rs), .ref aSh, .ref aMk, .ref aFa, .ref aDe, .ref aNe, .ref aBy, .ref aPi, .int (pd), .ref aNw, .ref aNs, .ref aBf, .int (rn), .int (rr)])), (aMd, .inl (cI, 24, .inl (fun w => nI (db_rk (K w))))), (aO1, .inl (cI, 24, .inl (db_one1 K X Nm))), (aT2, .inl (cI, 24, .inl (db_two2 K Y Nm)))] sz) := by
  refine Met.ofW (cc := cM_input) (maxL := 2) (ret := (some .int)) (by decide) rfl ?_
  intro p e s m args below meth c s₁ B hml hv0
  have hx := B.exec
  have hb := B.bytes
  have hr := B.returns
  have hts := atoms_spec (ws := wsM_input) B.pre
  have hown : s.vm.findClass RM = some m.cls := findClass_of_methodNamed B.named
  have hlocks := B.notSynchronized
  obtain ⟨rfl, hsz, hG⟩ := dw_enter hv0
  generalize va_A [(m0, .inr (5, [.int (ft), .int (nI (n)), .ref aMd, .ref aO1, .ref aT2, .int (rs), .ref aSh, .ref aMk, .ref aFa, .ref aDe, .ref aNe, .ref aBy, .ref aPi, .int (pd), .ref aNw, .ref aNs, .ref aBf, .int (rn), .int (rr)])), (aMd, .inl (cI, 24, .inl (fun w => nI (db_rk (K w))))), (aO1, .inl (cI, 24, .inl (db_one1 K X Nm))), (aT2, .inl (cI, 24, .inl (db_two2 K Y Nm)))] sz = A at hG ⊢
  have hl := lv_entry ([.ref m0, .int (k)]) (n := 2) (Nat.le_of_ble_eq_true rfl)
  rw [lg_entry_eq]
  generalize (lg_sl ([.ref m0, .int (k)]) ++ List.replicate (2 - (lg_sl ([.ref m0, .int (k)])).length) Slot.unset).toArray = ls at hl ⊢
  have hl : lv_has ls 2 [(0, .ref m0), (1, .int (k))] := hl
  refine dw_Q (fun Q hQ => ?_)
  suffices hgo : ∀ (H : Heap) (locs : List Loc), dw_G (dC, dI) vwCl [(cI, .int), (cZ, .boolean)] A s.heap s [(m0, .inr (5, [.int (ft), .int (nI (n)), .ref aMd, .ref aO1, .ref aT2, .int (rs), .ref aSh, .ref aMk, .ref aFa, .ref aDe, .ref aNe, .ref aBy, .ref aPi, .int (pd), .ref aNw, .ref aNs, .ref aBf, .int (rn), .int (rr)])), (aMd, .inl (cI, 24, .inl (fun w => nI (db_rk (K w))))), (aO1, .inl (cI, 24, .inl (db_one1 K X Nm))), (aT2, .inl (cI, 24, .inl (db_two2 K Y Nm)))] H locs → W p l e (headSpec wsM_input { frames := 1, cells := 0, slots := 0, locals := 30 }).room s m [.ref m0, .int (k)].toArray below meth c H locs 0 0 Q (F0 m 0 ls []) from hgo _ _ hG
  clear hG
  intro H locs hG
  refine lv_aload_n hx hb dM_input_0 rfl (lv_at hl 0 rfl) ?_
  refine lv_iload_n hx hb dM_input_1 rfl (lv_at hl 1 rfl) ?_
  refine lv_if_lt (tgt := 10) hx hb dM_input_2 (by decide) (fun h2 => ?_) (fun h2 => ?_)
  · skip
    refine lv_iconst (v := 1) hx hb dM_input_10 (by decide) ?_
    refine lv_goto (tgt := 28) hx hb dM_input_11 (by decide) ?_
    refine lv_bipush (v := 12) hx hb dM_input_28 (by decide) ?_
    refine lv_iload_n hx hb dM_input_30 rfl (lv_at hl 1 rfl) ?_
    refine lv_iconst (v := 0) hx hb dM_input_31 (by decide) ?_
    refine dw_calli (wc := [(m0, .inr (5, [.int (ft), .int (nI (n)), .ref aMd, .ref aO1, .ref aT2, .int (rs), .ref aSh, .ref aMk, .ref aFa, .ref aDe, .ref aNe, .ref aBy, .ref aPi, .int (pd), .ref aNw, .ref aNs, .ref aBf, .int (rn), .int (rr)])), (aMd, .inl (cI, 24, .inl (fun w => nI (db_rk (K w))))), (aO1, .inl (cI, 24, .inl (db_one1 K X Nm))), (aT2, .inl (cI, 24, .inl (db_two2 K Y Nm)))]) (wr := []) hG [0, 1, 2, 3] [] rfl rfl (by decide) (by decide) (va_runV (As := [.int (1), .int (12), .int (k), .int (0)]) (rest := []) ⟨hx, hb, hml, hown, hts⟩ (rf_makeW1 l dC dI cI cZ m0 aMd aO1 aT2 aSh aMk aFa aDe aNe aBy aPi aNw aNs aBf n ft rs pd rn rr (fun w => nI (db_rk (K w))) (db_one1 K X Nm) (db_two2 K Y Nm) (12) (k) (0) H.size ) (dc_V 4 hts tw_561 tw_563 tp_M_make tw_7 tw_564 rfl rfl (by decide +kernel) ⟨Nat.le_of_ble_eq_true rfl, Nat.le_of_ble_eq_true rfl⟩) (dw_preV (ci := 5) hG [0, 1, 2, 3] [0, 1] rfl rfl (by decide) rfl rfl (q0 := 0) rfl) rfl rfl hl.1 rfl (lv_room (Nat.le_of_ble_eq_true rfl)) dM_input_32 ⟨Nat.le_refl _, Nat.le_refl _⟩) (fun r u H locs hp hG => ?_)
    subst hp
    have hG : dw_G (dC, dI) vwCl [(cI, .int), (cZ, .boolean)] A s.heap s [(m0, .inr (5, [.int (1), .int (nI (n)), .ref aMd, .ref aO1, .ref aT2, .int (rs), .ref aSh, .ref aMk, .ref aFa, .ref aDe, .ref aNe, .ref aBy, .ref aPi, .int (pd), .ref aNw, .ref aNs, .ref aBf, .int (rn), .int (rr)])), (aMd, .inl (cI, 24, .inl (fun w => nI (db_rk (K w))))), (aO1, .inl (cI, 24, .inl (db_one1 K X Nm))), (aT2, .inl (cI, 24, .inl (db_two2 K Y Nm)))] H locs := hG
    subst hQ
    exact dw_iret hx hb hr hG (()) rfl rfl dM_input_35 hlocks
  refine lv_iload_n hx hb dM_input_5 rfl (lv_at hl 1 rfl) ?_
  refine lv_iconst (v := 2) hx hb dM_input_6 (by decide) ?_
  refine lv_icmp_le (tgt := 14) hx hb dM_input_7 (by decide) (fun h7 => ?_) (fun h7 => ?_)
  · skip
    exact absurd hbad (fun q => q.elim h2 (fun z => Int32.not_lt.mpr h7 z))
  refine lv_iconst (v := 1) hx hb dM_input_10 (by decide) ?_
  refine lv_goto (tgt := 28) hx hb dM_input_11 (by decide) ?_
  refine lv_bipush (v := 12) hx hb dM_input_28 (by decide) ?_
  refine lv_iload_n hx hb dM_input_30 rfl (lv_at hl 1 rfl) ?_
  refine lv_iconst (v := 0) hx hb dM_input_31 (by decide) ?_
  refine dw_calli (wc := [(m0, .inr (5, [.int (ft), .int (nI (n)), .ref aMd, .ref aO1, .ref aT2, .int (rs), .ref aSh, .ref aMk, .ref aFa, .ref aDe, .ref aNe, .ref aBy, .ref aPi, .int (pd), .ref aNw, .ref aNs, .ref aBf, .int (rn), .int (rr)])), (aMd, .inl (cI, 24, .inl (fun w => nI (db_rk (K w))))), (aO1, .inl (cI, 24, .inl (db_one1 K X Nm))), (aT2, .inl (cI, 24, .inl (db_two2 K Y Nm)))]) (wr := []) hG [0, 1, 2, 3] [] rfl rfl (by decide) (by decide) (va_runV (As := [.int (1), .int (12), .int (k), .int (0)]) (rest := []) ⟨hx, hb, hml, hown, hts⟩ (rf_makeW1 l dC dI cI cZ m0 aMd aO1 aT2 aSh aMk aFa aDe aNe aBy aPi aNw aNs aBf n ft rs pd rn rr (fun w => nI (db_rk (K w))) (db_one1 K X Nm) (db_two2 K Y Nm) (12) (k) (0) H.size ) (dc_V 4 hts tw_561 tw_563 tp_M_make tw_7 tw_564 rfl rfl (by decide +kernel) ⟨Nat.le_of_ble_eq_true rfl, Nat.le_of_ble_eq_true rfl⟩) (dw_preV (ci := 5) hG [0, 1, 2, 3] [0, 1] rfl rfl (by decide) rfl rfl (q0 := 0) rfl) rfl rfl hl.1 rfl (lv_room (Nat.le_of_ble_eq_true rfl)) dM_input_32 ⟨Nat.le_refl _, Nat.le_refl _⟩) (fun r u H locs hp hG => ?_)
  subst hp
  have hG : dw_G (dC, dI) vwCl [(cI, .int), (cZ, .boolean)] A s.heap s [(m0, .inr (5, [.int (1), .int (nI (n)), .ref aMd, .ref aO1, .ref aT2, .int (rs), .ref aSh, .ref aMk, .ref aFa, .ref aDe, .ref aNe, .ref aBy, .ref aPi, .int (pd), .ref aNw, .ref aNs, .ref aBf, .int (rn), .int (rr)])), (aMd, .inl (cI, 24, .inl (fun w => nI (db_rk (K w))))), (aO1, .inl (cI, 24, .inl (db_one1 K X Nm))), (aT2, .inl (cI, 24, .inl (db_two2 K Y Nm)))] H locs := hG
  subst hQ
  exact dw_iret hx hb hr hG (()) rfl rfl dM_input_35 hlocks

set_option maxRecDepth 100000 in
set_option maxHeartbeats 4000000 in
theorem rf_input_2 (l : Launch) (dC : Nat → ClassId) (dI : Nat → Nat → Nat) (cI cZ : ClassId) (m0 aMd aO1 aT2 aSh aMk aFa aDe aNe aBy aPi aNw aNs aBf n : Nat) (ft rs pd rn rr : Int32) (K X Y : Nat → Nat) (Nm : Nat → Int32) (d : Nat) (sz : Nat) (hd : d < 3) (hn : n = 24) : Met l yM_input wsM_input { frames := 1, cells := 0, slots := 0, locals := 30 } (va_Pc [.ref m0, .int (nI (d))] (dw_pre (dC, dI) vwCl [(m0, .inr (5, [.int (ft), .int (nI (n)), .ref aMd, .ref aO1, .ref aT2, .int (rs), .ref aSh, .ref aMk, .ref aFa, .ref aDe, .ref aNe, .ref aBy, .ref aPi, .int (pd), .ref aNw, .ref aNs, .ref aBf, .int (rn), .int (rr)])), (aMd, .inl (cI, 24, .inl (fun w => nI (db_rk (K w))))), (aO1, .inl (cI, 24, .inl (db_one1 K X Nm))), (aT2, .inl (cI, 24, .inl (db_two2 K Y Nm)))] [(cI, .int), (cZ, .boolean)] sz)) (va_Qi (fun (r : Int32) (u : Unit) => r = 0) (fun u t => dw_post (dC, dI) vwCl [(m0, .inr (5, [.int (2), .int (nI (n)), .ref aMd, .ref aO1, .ref aT2, .int (rs), .ref aSh, .ref aMk, .ref aFa, .ref aDe, .ref aNe, .ref aBy, .ref aPi, .int (pd), .ref aNw, .ref aNs, .ref aBf, .int (rn), .int (rr)])), (aMd, .inl (cI, 24, .inl (fun w => nI (db_rk (K w))))), (aO1, .inl (cI, 24, .inl (db_one1 K X Nm))), (aT2, .inl (cI, 24, .inl (db_two2 K Y Nm)))] [(cI, .int), (cZ, .boolean)] (va_A [(m0, .inr (5, [.int (ft), .int (nI (n)), .ref aMd, .ref aO1, .ref aT2, .int (rs), .ref aSh, .ref aMk, .ref aFa, .ref aDe, .ref aNe, .ref aBy, .ref aPi, .int (pd), .ref aNw, .ref aNs, .ref aBf, .int (rn), .int (rr)])), (aMd, .inl (cI, 24, .inl (fun w => nI (db_rk (K w))))), (aO1, .inl (cI, 24, .inl (db_one1 K X Nm))), (aT2, .inl (cI, 24, .inl (db_two2 K Y Nm)))] sz) t) (va_A [(m0, .inr (5, [.int (ft), .int (nI (n)), .ref aMd, .ref aO1, .ref aT2, .int (rs), .ref aSh, .ref aMk, .ref aFa, .ref aDe, .ref aNe, .ref aBy, .ref aPi, .int (pd), .ref aNw, .ref aNs, .ref aBf, .int (rn), .int (rr)])), (aMd, .inl (cI, 24, .inl (fun w => nI (db_rk (K w))))), (aO1, .inl (cI, 24, .inl (db_one1 K X Nm))), (aT2, .inl (cI, 24, .inl (db_two2 K Y Nm)))] sz)) 0 0 (va_A [(m0, .inr (5, [.int (ft), .int (nI (n)), .ref aMd, .ref aO1, .ref aT2, .int (rs), .ref aSh, .ref aMk, .ref aFa, .ref aDe, .ref aNe, .ref aBy, .ref aPi, .int (pd), .ref aNw, .ref aNs, .ref aBf, .int (rn), .int (rr)])), (aMd, .inl (cI, 24, .inl (fun w => nI (db_rk (K w))))), (aO1, .inl (cI, 24, .inl (db_one1 K X Nm))), (aT2, .inl (cI, 24, .inl (db_two2 K Y Nm)))] sz) := by
  refine Met.ofW (cc := cM_input) (maxL := 2) (ret := (some .int)) (by decide) rfl ?_
  intro p e s m args below meth c s₁ B hml hv0
  have hx := B.exec
  have hb := B.bytes
  have hr := B.returns
  have hts := atoms_spec (ws := wsM_input) B.pre
  have hown : s.vm.findClass RM = some m.cls := findClass_of_methodNamed B.named
  have hlocks := B.notSynchronized
  obtain ⟨rfl, hsz, hG⟩ := dw_enter hv0
  generalize va_A [(m0, .inr (5, [.int (ft), .int (nI (n)), .ref aMd, .ref aO1, .ref aT2, .int (rs), .ref aSh, .ref aMk, .ref aFa, .ref aDe, .ref aNe, .ref aBy, .ref aPi, .int (pd), .ref aNw, .ref aNs, .ref aBf, .int (rn), .int (rr)])), (aMd, .inl (cI, 24, .inl (fun w => nI (db_rk (K w))))), (aO1, .inl (cI, 24, .inl (db_one1 K X Nm))), (aT2, .inl (cI, 24, .inl (db_two2 K Y Nm)))] sz = A at hG ⊢
  have hl := lv_entry ([.ref m0, .int (nI (d))]) (n := 2) (Nat.le_of_ble_eq_true rfl)
  rw [lg_entry_eq]
  generalize (lg_sl ([.ref m0, .int (nI (d))]) ++ List.replicate (2 - (lg_sl ([.ref m0, .int (nI (d))])).length) Slot.unset).toArray = ls at hl ⊢
  have hl : lv_has ls 2 [(0, .ref m0), (1, .int (nI (d)))] := hl
  have hw495 := hts _ (List.mem_cons_of_mem _ tw_495)
  refine dw_Q (fun Q hQ => ?_)
  suffices hgo : ∀ (H : Heap) (locs : List Loc), dw_G (dC, dI) vwCl [(cI, .int), (cZ, .boolean)] A s.heap s [(m0, .inr (5, [.int (ft), .int (nI (n)), .ref aMd, .ref aO1, .ref aT2, .int (rs), .ref aSh, .ref aMk, .ref aFa, .ref aDe, .ref aNe, .ref aBy, .ref aPi, .int (pd), .ref aNw, .ref aNs, .ref aBf, .int (rn), .int (rr)])), (aMd, .inl (cI, 24, .inl (fun w => nI (db_rk (K w))))), (aO1, .inl (cI, 24, .inl (db_one1 K X Nm))), (aT2, .inl (cI, 24, .inl (db_two2 K Y Nm)))] H locs → W p l e (headSpec wsM_input { frames := 1, cells := 0, slots := 0, locals := 30 }).room s m [.ref m0, .int (nI (d))].toArray below meth c H locs 0 0 Q (F0 m 0 ls []) from hgo _ _ hG
  clear hG
  intro H locs hG
  refine lv_aload_n hx hb dM_input_0 rfl (lv_at hl 0 rfl) ?_
  refine lv_iload_n hx hb dM_input_1 rfl (lv_at hl 1 rfl) ?_
  refine lv_if_lt (tgt := 10) hx hb dM_input_2 (by decide) (fun h2 => ?_) (fun h2 => ?_)
  · skip
    replace h2 := (nI_ltI (a := d) (b := 0) (by omega) (by omega)).mp h2
    (exfalso; omega)
  replace h2 : ¬ d < 0 := fun hq0 => h2 ((nI_ltI (a := d) (b := 0) (by omega) (by omega)).mpr hq0)
  refine lv_iload_n hx hb dM_input_5 rfl (lv_at hl 1 rfl) ?_
  refine lv_iconst (v := 2) hx hb dM_input_6 (by decide) ?_
  refine lv_icmp_le (tgt := 14) hx hb dM_input_7 (by decide) (fun h7 => ?_) (fun h7 => ?_)
  · skip
    replace h7 := (nI_leI (a := d) (b := 2) (by omega) (by omega)).mp h7
    refine lv_aload_n hx hb dM_input_14 rfl (lv_at hl 0 rfl) ?_
    refine dw_get hx hb hts inMc hown hG 0 1 rfl rfl (by decide) hw495 rfl rfl dM_input_15 ?_
    refine lv_bipush (v := 24) hx hb dM_input_18 (by decide) ?_
    refine lv_icmp_ne (tgt := 27) hx hb dM_input_20 (by decide) (fun h20 => ?_) (fun h20 => ?_)
    · skip
      replace h20 : ¬ n = 24 := fun hq0 => h20 ((nI_eq (a := n) (b := 24) (by omega) (by omega)).mpr hq0)
      (exfalso; omega)
    replace h20 := (nI_eq (a := n) (b := 24) (by omega) (by omega)).mp h20
    refine lv_iconst (v := 2) hx hb dM_input_23 (by decide) ?_
    refine lv_goto (tgt := 28) hx hb dM_input_24 (by decide) ?_
    refine lv_bipush (v := 12) hx hb dM_input_28 (by decide) ?_
    refine lv_iload_n hx hb dM_input_30 rfl (lv_at hl 1 rfl) ?_
    refine lv_iconst (v := 0) hx hb dM_input_31 (by decide) ?_
    refine dw_calli (wc := [(m0, .inr (5, [.int (ft), .int (nI (n)), .ref aMd, .ref aO1, .ref aT2, .int (rs), .ref aSh, .ref aMk, .ref aFa, .ref aDe, .ref aNe, .ref aBy, .ref aPi, .int (pd), .ref aNw, .ref aNs, .ref aBf, .int (rn), .int (rr)])), (aMd, .inl (cI, 24, .inl (fun w => nI (db_rk (K w))))), (aO1, .inl (cI, 24, .inl (db_one1 K X Nm))), (aT2, .inl (cI, 24, .inl (db_two2 K Y Nm)))]) (wr := []) hG [0, 1, 2, 3] [] rfl rfl (by decide) (by decide) (va_runV (As := [.int (2), .int (12), .int (nI (d)), .int (0)]) (rest := []) ⟨hx, hb, hml, hown, hts⟩ (rf_makeW2 l dC dI cI cZ m0 aMd aO1 aT2 aSh aMk aFa aDe aNe aBy aPi aNw aNs aBf n ft rs pd rn rr (fun w => nI (db_rk (K w))) (db_one1 K X Nm) (db_two2 K Y Nm) (12) (nI (d)) (0) H.size ) (dc_V 4 hts tw_561 tw_563 tp_M_make tw_7 tw_564 rfl rfl (by decide +kernel) ⟨Nat.le_of_ble_eq_true rfl, Nat.le_of_ble_eq_true rfl⟩) (dw_preV (ci := 5) hG [0, 1, 2, 3] [0, 1] rfl rfl (by decide) rfl rfl (q0 := 0) rfl) rfl rfl hl.1 rfl (lv_room (Nat.le_of_ble_eq_true rfl)) dM_input_32 ⟨Nat.le_refl _, Nat.le_refl _⟩) (fun r u H locs hp hG => ?_)
    subst hp
    have hG : dw_G (dC, dI) vwCl [(cI, .int), (cZ, .boolean)] A s.heap s [(m0, .inr (5, [.int (2), .int (nI (n)), .ref aMd, .ref aO1, .ref aT2, .int (rs), .ref aSh, .ref aMk, .ref aFa, .ref aDe, .ref aNe, .ref aBy, .ref aPi, .int (pd), .ref aNw, .ref aNs, .ref aBf, .int (rn), .int (rr)])), (aMd, .inl (cI, 24, .inl (fun w => nI (db_rk (K w))))), (aO1, .inl (cI, 24, .inl (db_one1 K X Nm))), (aT2, .inl (cI, 24, .inl (db_two2 K Y Nm)))] H locs := hG
    subst hQ
    exact dw_iret hx hb hr hG (()) rfl rfl dM_input_35 hlocks
  replace h7 : ¬ d ≤ 2 := fun hq0 => h7 ((nI_leI (a := d) (b := 2) (by omega) (by omega)).mpr hq0)
  (exfalso; omega)

set_option maxRecDepth 100000 in
set_option maxHeartbeats 4000000 in
theorem rf_constant_0 (l : Launch) (dC : Nat → ClassId) (dI : Nat → Nat → Nat) (cI cZ : ClassId) (m0 aMd aO1 aT2 aSh aMk aFa aDe aNe aBy aPi aNw aNs aBf n : Nat) (ft rs pd rn rr : Int32) (K X Y : Nat → Nat) (Nm : Nat → Int32) (c9 : Int32) (sz : Nat) (hn : n < 24) : Met l yM_constant wsM_constant { frames := 1, cells := 0, slots := 0, locals := 30 } (va_Pc [.ref m0, .int (c9)] (dw_pre (dC, dI) vwCl [(m0, .inr (5, [.int (ft), .int (nI (n)), .ref aMd, .ref aO1, .ref aT2, .int (rs), .ref aSh, .ref aMk, .ref aFa, .ref aDe, .ref aNe, .ref aBy, .ref aPi, .int (pd), .ref aNw, .ref aNs, .ref aBf, .int (rn), .int (rr)])), (aMd, .inl (cI, 24, .inl (fun w => nI (db_rk (K w))))), (aO1, .inl (cI, 24, .inl (db_one1 K X Nm))), (aT2, .inl (cI, 24, .inl (db_two2 K Y Nm)))] [(cI, .int), (cZ, .boolean)] sz)) (va_Qi (fun (r : Int32) (u : Unit) => r = nI n) (fun u t => dw_post (dC, dI) vwCl [(m0, .inr (5, [.int (0), .int (nI (n + 1)), .ref aMd, .ref aO1, .ref aT2, .int (rs), .ref aSh, .ref aMk, .ref aFa, .ref aDe, .ref aNe, .ref aBy, .ref aPi, .int (pd), .ref aNw, .ref aNs, .ref aBf, .int (rn), .int (rr)])), (aMd, .inl (cI, 24, .inl (fun w => nI (db_rk ((db_upN K n 10) w))))), (aO1, .inl (cI, 24, .inl (db_one1 (db_upN K n 10) (db_upN X n 0) (upd Nm n c9)))), (aT2, .inl (cI, 24, .inl (db_two2 (db_upN K n 10) (db_upN Y n 0) (upd Nm n c9))))] [(cI, .int), (cZ, .boolean)] (va_A [(m0, .inr (5, [.int (ft), .int (nI (n)), .ref aMd, .ref aO1, .ref aT2, .int (rs), .ref aSh, .ref aMk, .ref aFa, .ref aDe, .ref aNe, .ref aBy, .ref aPi, .int (pd), .ref aNw, .ref aNs, .ref aBf, .int (rn), .int (rr)])), (aMd, .inl (cI, 24, .inl (fun w => nI (db_rk (K w))))), (aO1, .inl (cI, 24, .inl (db_one1 K X Nm))), (aT2, .inl (cI, 24, .inl (db_two2 K Y Nm)))] sz) t) (va_A [(m0, .inr (5, [.int (ft), .int (nI (n)), .ref aMd, .ref aO1, .ref aT2, .int (rs), .ref aSh, .ref aMk, .ref aFa, .ref aDe, .ref aNe, .ref aBy, .ref aPi, .int (pd), .ref aNw, .ref aNs, .ref aBf, .int (rn), .int (rr)])), (aMd, .inl (cI, 24, .inl (fun w => nI (db_rk (K w))))), (aO1, .inl (cI, 24, .inl (db_one1 K X Nm))), (aT2, .inl (cI, 24, .inl (db_two2 K Y Nm)))] sz)) 0 0 (va_A [(m0, .inr (5, [.int (ft), .int (nI (n)), .ref aMd, .ref aO1, .ref aT2, .int (rs), .ref aSh, .ref aMk, .ref aFa, .ref aDe, .ref aNe, .ref aBy, .ref aPi, .int (pd), .ref aNw, .ref aNs, .ref aBf, .int (rn), .int (rr)])), (aMd, .inl (cI, 24, .inl (fun w => nI (db_rk (K w))))), (aO1, .inl (cI, 24, .inl (db_one1 K X Nm))), (aT2, .inl (cI, 24, .inl (db_two2 K Y Nm)))] sz) := by
  refine Met.ofW (cc := cM_constant) (maxL := 2) (ret := (some .int)) (by decide) rfl ?_
  intro p e s m args below meth c s₁ B hml hv0
  have hx := B.exec
  have hb := B.bytes
  have hr := B.returns
  have hts := atoms_spec (ws := wsM_constant) B.pre
  have hown : s.vm.findClass RM = some m.cls := findClass_of_methodNamed B.named
  have hlocks := B.notSynchronized
  obtain ⟨rfl, hsz, hG⟩ := dw_enter hv0
  generalize va_A [(m0, .inr (5, [.int (ft), .int (nI (n)), .ref aMd, .ref aO1, .ref aT2, .int (rs), .ref aSh, .ref aMk, .ref aFa, .ref aDe, .ref aNe, .ref aBy, .ref aPi, .int (pd), .ref aNw, .ref aNs, .ref aBf, .int (rn), .int (rr)])), (aMd, .inl (cI, 24, .inl (fun w => nI (db_rk (K w))))), (aO1, .inl (cI, 24, .inl (db_one1 K X Nm))), (aT2, .inl (cI, 24, .inl (db_two2 K Y Nm)))] sz = A at hG ⊢
  have hl := lv_entry ([.ref m0, .int (c9)]) (n := 2) (Nat.le_of_ble_eq_true rfl)
  rw [lg_entry_eq]
  generalize (lg_sl ([.ref m0, .int (c9)]) ++ List.replicate (2 - (lg_sl ([.ref m0, .int (c9)])).length) Slot.unset).toArray = ls at hl ⊢
  have hl : lv_has ls 2 [(0, .ref m0), (1, .int (c9))] := hl
  have hw495 := hts _ (List.mem_cons_of_mem _ tw_495)
  refine dw_Q (fun Q hQ => ?_)
  suffices hgo : ∀ (H : Heap) (locs : List Loc), dw_G (dC, dI) vwCl [(cI, .int), (cZ, .boolean)] A s.heap s [(m0, .inr (5, [.int (ft), .int (nI (n)), .ref aMd, .ref aO1, .ref aT2, .int (rs), .ref aSh, .ref aMk, .ref aFa, .ref aDe, .ref aNe, .ref aBy, .ref aPi, .int (pd), .ref aNw, .ref aNs, .ref aBf, .int (rn), .int (rr)])), (aMd, .inl (cI, 24, .inl (fun w => nI (db_rk (K w))))), (aO1, .inl (cI, 24, .inl (db_one1 K X Nm))), (aT2, .inl (cI, 24, .inl (db_two2 K Y Nm)))] H locs → W p l e (headSpec wsM_constant { frames := 1, cells := 0, slots := 0, locals := 30 }).room s m [.ref m0, .int (c9)].toArray below meth c H locs 0 0 Q (F0 m 0 ls []) from hgo _ _ hG
  clear hG
  intro H locs hG
  refine lv_aload_n hx hb dM_constant_0 rfl (lv_at hl 0 rfl) ?_
  refine lv_aload_n hx hb dM_constant_1 rfl (lv_at hl 0 rfl) ?_
  refine dw_get hx hb hts inMc hown hG 0 1 rfl rfl (by decide) hw495 rfl rfl dM_constant_2 ?_
  refine lv_bipush (v := 24) hx hb dM_constant_5 (by decide) ?_
  refine lv_icmp_ne (tgt := 14) hx hb dM_constant_7 (by decide) (fun h7 => ?_) (fun h7 => ?_)
  · skip
    replace h7 : ¬ n = 24 := fun hq0 => h7 ((nI_eq (a := n) (b := 24) (by omega) (by omega)).mpr hq0)
    refine lv_iconst (v := 0) hx hb dM_constant_14 (by decide) ?_
    refine lv_bipush (v := 13) hx hb dM_constant_15 (by decide) ?_
    refine lv_iload_n hx hb dM_constant_17 rfl (lv_at hl 1 rfl) ?_
    refine lv_iconst (v := 0) hx hb dM_constant_18 (by decide) ?_
    refine dw_calli (wc := [(m0, .inr (5, [.int (ft), .int (nI (n)), .ref aMd, .ref aO1, .ref aT2, .int (rs), .ref aSh, .ref aMk, .ref aFa, .ref aDe, .ref aNe, .ref aBy, .ref aPi, .int (pd), .ref aNw, .ref aNs, .ref aBf, .int (rn), .int (rr)])), (aMd, .inl (cI, 24, .inl (fun w => nI (db_rk (K w))))), (aO1, .inl (cI, 24, .inl (db_one1 K X Nm))), (aT2, .inl (cI, 24, .inl (db_two2 K Y Nm)))]) (wr := []) hG [0, 1, 2, 3] [] rfl rfl (by decide) (by decide) (va_runV (As := [.int (0), .int (13), .int (c9), .int (0)]) (rest := []) ⟨hx, hb, hml, hown, hts⟩ (rf_make0 l dC dI cI cZ m0 aMd aO1 aT2 aSh aMk aFa aDe aNe aBy aPi aNw aNs aBf n ft rs pd rn rr (fun w => nI (db_rk (K w))) (db_one1 K X Nm) (db_two2 K Y Nm) (13) (c9) (0) H.size (by omega)) (dc_V 4 hts tw_561 tw_563 tp_M_make tw_7 tw_564 rfl rfl (by decide +kernel) ⟨Nat.le_of_ble_eq_true rfl, Nat.le_of_ble_eq_true rfl⟩) (dw_preV (ci := 5) hG [0, 1, 2, 3] [0, 1] rfl rfl (by decide) rfl rfl (q0 := 0) rfl) rfl rfl hl.1 rfl (lv_room (Nat.le_of_ble_eq_true rfl)) dM_constant_19 ⟨Nat.le_refl _, Nat.le_refl _⟩) (fun r u H locs hp hG => ?_)
    subst hp
    have hG : dw_G (dC, dI) vwCl [(cI, .int), (cZ, .boolean)] A s.heap s [(m0, .inr (5, [.int (0), .int (nI (n + 1)), .ref aMd, .ref aO1, .ref aT2, .int (rs), .ref aSh, .ref aMk, .ref aFa, .ref aDe, .ref aNe, .ref aBy, .ref aPi, .int (pd), .ref aNw, .ref aNs, .ref aBf, .int (rn), .int (rr)])), (aMd, .inl (cI, 24, .inl (upd (fun w => nI (db_rk (K w))) n (13)))), (aO1, .inl (cI, 24, .inl (upd (db_one1 K X Nm) n (c9)))), (aT2, .inl (cI, 24, .inl (upd (db_two2 K Y Nm) n (0))))] H locs := hG
    subst hQ
    exact dw_iret hx hb hr hG (()) (by rw [db_md_up K n 10 (13) rfl, db_o1_up K X Nm n 10 0 c9 (c9) rfl, db_t2_up K Y Nm n 10 0 c9 (0) rfl]) rfl dM_constant_22 hlocks
  replace h7 := (nI_eq (a := n) (b := 24) (by omega) (by omega)).mp h7
  (exfalso; omega)

set_option maxRecDepth 100000 in
set_option maxHeartbeats 4000000 in
theorem rf_constant_1 (l : Launch) (dC : Nat → ClassId) (dI : Nat → Nat → Nat) (cI cZ : ClassId) (m0 aMd aO1 aT2 aSh aMk aFa aDe aNe aBy aPi aNw aNs aBf n : Nat) (ft rs pd rn rr : Int32) (K X Y : Nat → Nat) (Nm : Nat → Int32) (c9 : Int32) (sz : Nat) (hn : n = 24) : Met l yM_constant wsM_constant { frames := 1, cells := 0, slots := 0, locals := 30 } (va_Pc [.ref m0, .int (c9)] (dw_pre (dC, dI) vwCl [(m0, .inr (5, [.int (ft), .int (nI (n)), .ref aMd, .ref aO1, .ref aT2, .int (rs), .ref aSh, .ref aMk, .ref aFa, .ref aDe, .ref aNe, .ref aBy, .ref aPi, .int (pd), .ref aNw, .ref aNs, .ref aBf, .int (rn), .int (rr)])), (aMd, .inl (cI, 24, .inl (fun w => nI (db_rk (K w))))), (aO1, .inl (cI, 24, .inl (db_one1 K X Nm))), (aT2, .inl (cI, 24, .inl (db_two2 K Y Nm)))] [(cI, .int), (cZ, .boolean)] sz)) (va_Qi (fun (r : Int32) (u : Unit) => r = 0) (fun u t => dw_post (dC, dI) vwCl [(m0, .inr (5, [.int (1), .int (nI (n)), .ref aMd, .ref aO1, .ref aT2, .int (rs), .ref aSh, .ref aMk, .ref aFa, .ref aDe, .ref aNe, .ref aBy, .ref aPi, .int (pd), .ref aNw, .ref aNs, .ref aBf, .int (rn), .int (rr)])), (aMd, .inl (cI, 24, .inl (fun w => nI (db_rk (K w))))), (aO1, .inl (cI, 24, .inl (db_one1 K X Nm))), (aT2, .inl (cI, 24, .inl (db_two2 K Y Nm)))] [(cI, .int), (cZ, .boolean)] (va_A [(m0, .inr (5, [.int (ft), .int (nI (n)), .ref aMd, .ref aO1, .ref aT2, .int (rs), .ref aSh, .ref aMk, .ref aFa, .ref aDe, .ref aNe, .ref aBy, .ref aPi, .int (pd), .ref aNw, .ref aNs, .ref aBf, .int (rn), .int (rr)])), (aMd, .inl (cI, 24, .inl (fun w => nI (db_rk (K w))))), (aO1, .inl (cI, 24, .inl (db_one1 K X Nm))), (aT2, .inl (cI, 24, .inl (db_two2 K Y Nm)))] sz) t) (va_A [(m0, .inr (5, [.int (ft), .int (nI (n)), .ref aMd, .ref aO1, .ref aT2, .int (rs), .ref aSh, .ref aMk, .ref aFa, .ref aDe, .ref aNe, .ref aBy, .ref aPi, .int (pd), .ref aNw, .ref aNs, .ref aBf, .int (rn), .int (rr)])), (aMd, .inl (cI, 24, .inl (fun w => nI (db_rk (K w))))), (aO1, .inl (cI, 24, .inl (db_one1 K X Nm))), (aT2, .inl (cI, 24, .inl (db_two2 K Y Nm)))] sz)) 0 0 (va_A [(m0, .inr (5, [.int (ft), .int (nI (n)), .ref aMd, .ref aO1, .ref aT2, .int (rs), .ref aSh, .ref aMk, .ref aFa, .ref aDe, .ref aNe, .ref aBy, .ref aPi, .int (pd), .ref aNw, .ref aNs, .ref aBf, .int (rn), .int (rr)])), (aMd, .inl (cI, 24, .inl (fun w => nI (db_rk (K w))))), (aO1, .inl (cI, 24, .inl (db_one1 K X Nm))), (aT2, .inl (cI, 24, .inl (db_two2 K Y Nm)))] sz) := by
  refine Met.ofW (cc := cM_constant) (maxL := 2) (ret := (some .int)) (by decide) rfl ?_
  intro p e s m args below meth c s₁ B hml hv0
  have hx := B.exec
  have hb := B.bytes
  have hr := B.returns
  have hts := atoms_spec (ws := wsM_constant) B.pre
  have hown : s.vm.findClass RM = some m.cls := findClass_of_methodNamed B.named
  have hlocks := B.notSynchronized
  obtain ⟨rfl, hsz, hG⟩ := dw_enter hv0
  generalize va_A [(m0, .inr (5, [.int (ft), .int (nI (n)), .ref aMd, .ref aO1, .ref aT2, .int (rs), .ref aSh, .ref aMk, .ref aFa, .ref aDe, .ref aNe, .ref aBy, .ref aPi, .int (pd), .ref aNw, .ref aNs, .ref aBf, .int (rn), .int (rr)])), (aMd, .inl (cI, 24, .inl (fun w => nI (db_rk (K w))))), (aO1, .inl (cI, 24, .inl (db_one1 K X Nm))), (aT2, .inl (cI, 24, .inl (db_two2 K Y Nm)))] sz = A at hG ⊢
  have hl := lv_entry ([.ref m0, .int (c9)]) (n := 2) (Nat.le_of_ble_eq_true rfl)
  rw [lg_entry_eq]
  generalize (lg_sl ([.ref m0, .int (c9)]) ++ List.replicate (2 - (lg_sl ([.ref m0, .int (c9)])).length) Slot.unset).toArray = ls at hl ⊢
  have hl : lv_has ls 2 [(0, .ref m0), (1, .int (c9))] := hl
  have hw495 := hts _ (List.mem_cons_of_mem _ tw_495)
  refine dw_Q (fun Q hQ => ?_)
  suffices hgo : ∀ (H : Heap) (locs : List Loc), dw_G (dC, dI) vwCl [(cI, .int), (cZ, .boolean)] A s.heap s [(m0, .inr (5, [.int (ft), .int (nI (n)), .ref aMd, .ref aO1, .ref aT2, .int (rs), .ref aSh, .ref aMk, .ref aFa, .ref aDe, .ref aNe, .ref aBy, .ref aPi, .int (pd), .ref aNw, .ref aNs, .ref aBf, .int (rn), .int (rr)])), (aMd, .inl (cI, 24, .inl (fun w => nI (db_rk (K w))))), (aO1, .inl (cI, 24, .inl (db_one1 K X Nm))), (aT2, .inl (cI, 24, .inl (db_two2 K Y Nm)))] H locs → W p l e (headSpec wsM_constant { frames := 1, cells := 0, slots := 0, locals := 30 }).room s m [.ref m0, .int (c9)].toArray below meth c H locs 0 0 Q (F0 m 0 ls []) from hgo _ _ hG
  clear hG
  intro H locs hG
  refine lv_aload_n hx hb dM_constant_0 rfl (lv_at hl 0 rfl) ?_
  refine lv_aload_n hx hb dM_constant_1 rfl (lv_at hl 0 rfl) ?_
  refine dw_get hx hb hts inMc hown hG 0 1 rfl rfl (by decide) hw495 rfl rfl dM_constant_2 ?_
  refine lv_bipush (v := 24) hx hb dM_constant_5 (by decide) ?_
  refine lv_icmp_ne (tgt := 14) hx hb dM_constant_7 (by decide) (fun h7 => ?_) (fun h7 => ?_)
  · skip
    replace h7 : ¬ n = 24 := fun hq0 => h7 ((nI_eq (a := n) (b := 24) (by omega) (by omega)).mpr hq0)
    (exfalso; omega)
  replace h7 := (nI_eq (a := n) (b := 24) (by omega) (by omega)).mp h7
  refine lv_iconst (v := 1) hx hb dM_constant_10 (by decide) ?_
  refine lv_goto (tgt := 15) hx hb dM_constant_11 (by decide) ?_
  refine lv_bipush (v := 13) hx hb dM_constant_15 (by decide) ?_
  refine lv_iload_n hx hb dM_constant_17 rfl (lv_at hl 1 rfl) ?_
  refine lv_iconst (v := 0) hx hb dM_constant_18 (by decide) ?_
  refine dw_calli (wc := [(m0, .inr (5, [.int (ft), .int (nI (n)), .ref aMd, .ref aO1, .ref aT2, .int (rs), .ref aSh, .ref aMk, .ref aFa, .ref aDe, .ref aNe, .ref aBy, .ref aPi, .int (pd), .ref aNw, .ref aNs, .ref aBf, .int (rn), .int (rr)])), (aMd, .inl (cI, 24, .inl (fun w => nI (db_rk (K w))))), (aO1, .inl (cI, 24, .inl (db_one1 K X Nm))), (aT2, .inl (cI, 24, .inl (db_two2 K Y Nm)))]) (wr := []) hG [0, 1, 2, 3] [] rfl rfl (by decide) (by decide) (va_runV (As := [.int (1), .int (13), .int (c9), .int (0)]) (rest := []) ⟨hx, hb, hml, hown, hts⟩ (rf_makeW1 l dC dI cI cZ m0 aMd aO1 aT2 aSh aMk aFa aDe aNe aBy aPi aNw aNs aBf n ft rs pd rn rr (fun w => nI (db_rk (K w))) (db_one1 K X Nm) (db_two2 K Y Nm) (13) (c9) (0) H.size ) (dc_V 4 hts tw_561 tw_563 tp_M_make tw_7 tw_564 rfl rfl (by decide +kernel) ⟨Nat.le_of_ble_eq_true rfl, Nat.le_of_ble_eq_true rfl⟩) (dw_preV (ci := 5) hG [0, 1, 2, 3] [0, 1] rfl rfl (by decide) rfl rfl (q0 := 0) rfl) rfl rfl hl.1 rfl (lv_room (Nat.le_of_ble_eq_true rfl)) dM_constant_19 ⟨Nat.le_refl _, Nat.le_refl _⟩) (fun r u H locs hp hG => ?_)
  subst hp
  have hG : dw_G (dC, dI) vwCl [(cI, .int), (cZ, .boolean)] A s.heap s [(m0, .inr (5, [.int (1), .int (nI (n)), .ref aMd, .ref aO1, .ref aT2, .int (rs), .ref aSh, .ref aMk, .ref aFa, .ref aDe, .ref aNe, .ref aBy, .ref aPi, .int (pd), .ref aNw, .ref aNs, .ref aBf, .int (rn), .int (rr)])), (aMd, .inl (cI, 24, .inl (fun w => nI (db_rk (K w))))), (aO1, .inl (cI, 24, .inl (db_one1 K X Nm))), (aT2, .inl (cI, 24, .inl (db_two2 K Y Nm)))] H locs := hG
  subst hQ
  exact dw_iret hx hb hr hG (()) rfl rfl dM_constant_22 hlocks

set_option maxRecDepth 100000 in
set_option maxHeartbeats 4000000 in
theorem rf_binary_0 (l : Launch) (dC : Nat → ClassId) (dI : Nat → Nat → Nat) (cI cZ : ClassId) (m0 aMd aO1 aT2 aSh aMk aFa aDe aNe aBy aPi aNw aNs aBf n : Nat) (ft rs pd rn rr : Int32) (K X Y : Nat → Nat) (Nm : Nat → Int32) (op x y : Nat) (sz : Nat) (ho : op ≤ 5) (hx9 : x < n) (hy9 : y < n) (hn : n < 24) : Met l yM_binary wsM_binary { frames := 1, cells := 0, slots := 0, locals := 30 } (va_Pc [.ref m0, .int (nI (op)), .int (nI (x)), .int (nI (y))] (dw_pre (dC, dI) vwCl [(m0, .inr (5, [.int (ft), .int (nI (n)), .ref aMd, .ref aO1, .ref aT2, .int (rs), .ref aSh, .ref aMk, .ref aFa, .ref aDe, .ref aNe, .ref aBy, .ref aPi, .int (pd), .ref aNw, .ref aNs, .ref aBf, .int (rn), .int (rr)])), (aMd, .inl (cI, 24, .inl (fun w => nI (db_rk (K w))))), (aO1, .inl (cI, 24, .inl (db_one1 K X Nm))), (aT2, .inl (cI, 24, .inl (db_two2 K Y Nm)))] [(cI, .int), (cZ, .boolean)] sz)) (va_Qi (fun (r : Int32) (u : Unit) => r = nI n) (fun u t => dw_post (dC, dI) vwCl [(m0, .inr (5, [.int (0), .int (nI (n + 1)), .ref aMd, .ref aO1, .ref aT2, .int (rs), .ref aSh, .ref aMk, .ref aFa, .ref aDe, .ref aNe, .ref aBy, .ref aPi, .int (pd), .ref aNw, .ref aNs, .ref aBf, .int (rn), .int (rr)])), (aMd, .inl (cI, 24, .inl (fun w => nI (db_rk ((db_upN K n op) w))))), (aO1, .inl (cI, 24, .inl (db_one1 (db_upN K n op) (db_upN X n x) (upd Nm n 0)))), (aT2, .inl (cI, 24, .inl (db_two2 (db_upN K n op) (db_upN Y n y) (upd Nm n 0))))] [(cI, .int), (cZ, .boolean)] (va_A [(m0, .inr (5, [.int (ft), .int (nI (n)), .ref aMd, .ref aO1, .ref aT2, .int (rs), .ref aSh, .ref aMk, .ref aFa, .ref aDe, .ref aNe, .ref aBy, .ref aPi, .int (pd), .ref aNw, .ref aNs, .ref aBf, .int (rn), .int (rr)])), (aMd, .inl (cI, 24, .inl (fun w => nI (db_rk (K w))))), (aO1, .inl (cI, 24, .inl (db_one1 K X Nm))), (aT2, .inl (cI, 24, .inl (db_two2 K Y Nm)))] sz) t) (va_A [(m0, .inr (5, [.int (ft), .int (nI (n)), .ref aMd, .ref aO1, .ref aT2, .int (rs), .ref aSh, .ref aMk, .ref aFa, .ref aDe, .ref aNe, .ref aBy, .ref aPi, .int (pd), .ref aNw, .ref aNs, .ref aBf, .int (rn), .int (rr)])), (aMd, .inl (cI, 24, .inl (fun w => nI (db_rk (K w))))), (aO1, .inl (cI, 24, .inl (db_one1 K X Nm))), (aT2, .inl (cI, 24, .inl (db_two2 K Y Nm)))] sz)) 0 0 (va_A [(m0, .inr (5, [.int (ft), .int (nI (n)), .ref aMd, .ref aO1, .ref aT2, .int (rs), .ref aSh, .ref aMk, .ref aFa, .ref aDe, .ref aNe, .ref aBy, .ref aPi, .int (pd), .ref aNw, .ref aNs, .ref aBf, .int (rn), .int (rr)])), (aMd, .inl (cI, 24, .inl (fun w => nI (db_rk (K w))))), (aO1, .inl (cI, 24, .inl (db_one1 K X Nm))), (aT2, .inl (cI, 24, .inl (db_two2 K Y Nm)))] sz) := by
  refine Met.ofW (cc := cM_binary) (maxL := 4) (ret := (some .int)) (by decide) rfl ?_
  intro p e s m args below meth c s₁ B hml hv0
  have hx := B.exec
  have hb := B.bytes
  have hr := B.returns
  have hts := atoms_spec (ws := wsM_binary) B.pre
  have hown : s.vm.findClass RM = some m.cls := findClass_of_methodNamed B.named
  have hlocks := B.notSynchronized
  obtain ⟨rfl, hsz, hG⟩ := dw_enter hv0
  generalize va_A [(m0, .inr (5, [.int (ft), .int (nI (n)), .ref aMd, .ref aO1, .ref aT2, .int (rs), .ref aSh, .ref aMk, .ref aFa, .ref aDe, .ref aNe, .ref aBy, .ref aPi, .int (pd), .ref aNw, .ref aNs, .ref aBf, .int (rn), .int (rr)])), (aMd, .inl (cI, 24, .inl (fun w => nI (db_rk (K w))))), (aO1, .inl (cI, 24, .inl (db_one1 K X Nm))), (aT2, .inl (cI, 24, .inl (db_two2 K Y Nm)))] sz = A at hG ⊢
  have hl := lv_entry ([.ref m0, .int (nI (op)), .int (nI (x)), .int (nI (y))]) (n := 4) (Nat.le_of_ble_eq_true rfl)
  rw [lg_entry_eq]
  generalize (lg_sl ([.ref m0, .int (nI (op)), .int (nI (x)), .int (nI (y))]) ++ List.replicate (4 - (lg_sl ([.ref m0, .int (nI (op)), .int (nI (x)), .int (nI (y))])).length) Slot.unset).toArray = ls at hl ⊢
  have hl : lv_has ls 4 [(0, .ref m0), (1, .int (nI (op))), (2, .int (nI (x))), (3, .int (nI (y)))] := hl
  have hw495 := hts _ (List.mem_cons_of_mem _ tw_495)
  refine dw_Q (fun Q hQ => ?_)
  suffices hgo : ∀ (H : Heap) (locs : List Loc), dw_G (dC, dI) vwCl [(cI, .int), (cZ, .boolean)] A s.heap s [(m0, .inr (5, [.int (ft), .int (nI (n)), .ref aMd, .ref aO1, .ref aT2, .int (rs), .ref aSh, .ref aMk, .ref aFa, .ref aDe, .ref aNe, .ref aBy, .ref aPi, .int (pd), .ref aNw, .ref aNs, .ref aBf, .int (rn), .int (rr)])), (aMd, .inl (cI, 24, .inl (fun w => nI (db_rk (K w))))), (aO1, .inl (cI, 24, .inl (db_one1 K X Nm))), (aT2, .inl (cI, 24, .inl (db_two2 K Y Nm)))] H locs → W p l e (headSpec wsM_binary { frames := 1, cells := 0, slots := 0, locals := 30 }).room s m [.ref m0, .int (nI (op)), .int (nI (x)), .int (nI (y))].toArray below meth c H locs 0 0 Q (F0 m 0 ls []) from hgo _ _ hG
  clear hG
  intro H locs hG
  refine lv_aload_n hx hb dM_binary_0 rfl (lv_at hl 0 rfl) ?_
  refine lv_iload_n hx hb dM_binary_1 rfl (lv_at hl 1 rfl) ?_
  refine lv_if_lt (tgt := 10) hx hb dM_binary_2 (by decide) (fun h2 => ?_) (fun h2 => ?_)
  · skip
    replace h2 := (nI_ltI (a := op) (b := 0) (by omega) (by omega)).mp h2
    (exfalso; omega)
  replace h2 : ¬ op < 0 := fun hq0 => h2 ((nI_ltI (a := op) (b := 0) (by omega) (by omega)).mpr hq0)
  refine lv_iload_n hx hb dM_binary_5 rfl (lv_at hl 1 rfl) ?_
  refine lv_iconst (v := 5) hx hb dM_binary_6 (by decide) ?_
  refine lv_icmp_le (tgt := 14) hx hb dM_binary_7 (by decide) (fun h7 => ?_) (fun h7 => ?_)
  · skip
    replace h7 := (nI_leI (a := op) (b := 5) (by omega) (by omega)).mp h7
    refine lv_aload_n hx hb dM_binary_14 rfl (lv_at hl 0 rfl) ?_
    refine lv_iload_n hx hb dM_binary_15 rfl (lv_at hl 2 rfl) ?_
    refine dw_calli (wc := [(m0, .inr (5, [.int (ft), .int (nI (n)), .ref aMd, .ref aO1, .ref aT2, .int (rs), .ref aSh, .ref aMk, .ref aFa, .ref aDe, .ref aNe, .ref aBy, .ref aPi, .int (pd), .ref aNw, .ref aNs, .ref aBf, .int (rn), .int (rr)]))]) (wr := [(aMd, .inl (cI, 24, .inl (fun w => nI (db_rk (K w))))), (aO1, .inl (cI, 24, .inl (db_one1 K X Nm))), (aT2, .inl (cI, 24, .inl (db_two2 K Y Nm)))]) hG [0] [1, 2, 3] rfl rfl (by decide) (by decide) (va_runV (As := [.int (nI (x))]) (rest := [.ref m0]) ⟨hx, hb, hml, hown, hts⟩ (rf_isValue l dC dI cI cZ m0 aMd aO1 aT2 aSh aMk aFa aDe aNe aBy aPi aNw aNs aBf ft (nI n) rs pd rn rr (nI (x)) H.size ) (dc_V 1 hts tw_573 tw_575 tp_M_isValue tw_7 tw_576 rfl rfl (by decide +kernel) ⟨Nat.le_of_ble_eq_true rfl, Nat.le_of_ble_eq_true rfl⟩) (dw_preV (ci := 5) hG [0] [0, 1] rfl rfl (by decide) rfl rfl (q0 := 0) rfl) rfl rfl hl.1 rfl (lv_room (Nat.le_of_ble_eq_true rfl)) dM_binary_16 ⟨Nat.le_refl _, Nat.le_refl _⟩) (fun r u H locs hp hG => ?_)
    subst hp
    have hG : dw_G (dC, dI) vwCl [(cI, .int), (cZ, .boolean)] A s.heap s [(aMd, .inl (cI, 24, .inl (fun w => nI (db_rk (K w))))), (aO1, .inl (cI, 24, .inl (db_one1 K X Nm))), (aT2, .inl (cI, 24, .inl (db_two2 K Y Nm))), (m0, .inr (5, [.int (ft), .int (nI (n)), .ref aMd, .ref aO1, .ref aT2, .int (rs), .ref aSh, .ref aMk, .ref aFa, .ref aDe, .ref aNe, .ref aBy, .ref aPi, .int (pd), .ref aNw, .ref aNs, .ref aBf, .int (rn), .int (rr)]))] H locs := hG
    refine lv_topi (nm_r (show (db_isv (nI (x)) (nI n) : Int32) = 1 from (db_isv_y (by omega) (by omega))) ?_)
    refine lv_if_eq (tgt := 30) hx hb dM_binary_19 (by decide) (fun h19 => ?_) (fun h19 => ?_)
    · skip
      replace h19 := (nI_eq (a := 1) (b := 0) (by omega) (by omega)).mp h19
      (exfalso; omega)
    replace h19 : ¬ 1 = 0 := fun hq0 => h19 ((nI_eq (a := 1) (b := 0) (by omega) (by omega)).mpr hq0)
    refine lv_aload_n hx hb dM_binary_22 rfl (lv_at hl 0 rfl) ?_
    refine lv_iload_n hx hb dM_binary_23 rfl (lv_at hl 3 rfl) ?_
    refine dw_calli (wc := [(m0, .inr (5, [.int (ft), .int (nI (n)), .ref aMd, .ref aO1, .ref aT2, .int (rs), .ref aSh, .ref aMk, .ref aFa, .ref aDe, .ref aNe, .ref aBy, .ref aPi, .int (pd), .ref aNw, .ref aNs, .ref aBf, .int (rn), .int (rr)]))]) (wr := [(aMd, .inl (cI, 24, .inl (fun w => nI (db_rk (K w))))), (aO1, .inl (cI, 24, .inl (db_one1 K X Nm))), (aT2, .inl (cI, 24, .inl (db_two2 K Y Nm)))]) hG [3] [0, 1, 2] rfl rfl (by decide) (by decide) (va_runV (As := [.int (nI (y))]) (rest := [.ref m0]) ⟨hx, hb, hml, hown, hts⟩ (rf_isValue l dC dI cI cZ m0 aMd aO1 aT2 aSh aMk aFa aDe aNe aBy aPi aNw aNs aBf ft (nI n) rs pd rn rr (nI (y)) H.size ) (dc_V 1 hts tw_573 tw_575 tp_M_isValue tw_7 tw_576 rfl rfl (by decide +kernel) ⟨Nat.le_of_ble_eq_true rfl, Nat.le_of_ble_eq_true rfl⟩) (dw_preV (ci := 5) hG [3] [0, 1] rfl rfl (by decide) rfl rfl (q0 := 3) rfl) rfl rfl hl.1 rfl (lv_room (Nat.le_of_ble_eq_true rfl)) dM_binary_24 ⟨Nat.le_refl _, Nat.le_refl _⟩) (fun r u H locs hp hG => ?_)
    subst hp
    have hG : dw_G (dC, dI) vwCl [(cI, .int), (cZ, .boolean)] A s.heap s [(aMd, .inl (cI, 24, .inl (fun w => nI (db_rk (K w))))), (aO1, .inl (cI, 24, .inl (db_one1 K X Nm))), (aT2, .inl (cI, 24, .inl (db_two2 K Y Nm))), (m0, .inr (5, [.int (ft), .int (nI (n)), .ref aMd, .ref aO1, .ref aT2, .int (rs), .ref aSh, .ref aMk, .ref aFa, .ref aDe, .ref aNe, .ref aBy, .ref aPi, .int (pd), .ref aNw, .ref aNs, .ref aBf, .int (rn), .int (rr)]))] H locs := hG
    refine lv_topi (nm_r (show (db_isv (nI (y)) (nI n) : Int32) = 1 from (db_isv_y (by omega) (by omega))) ?_)
    refine lv_if_ne (tgt := 34) hx hb dM_binary_27 (by decide) (fun h27 => ?_) (fun h27 => ?_)
    · skip
      replace h27 : ¬ 1 = 0 := fun hq0 => h27 ((nI_eq (a := 1) (b := 0) (by omega) (by omega)).mpr hq0)
      refine lv_aload_n hx hb dM_binary_34 rfl (lv_at hl 0 rfl) ?_
      refine dw_get hx hb hts inMc hown hG 3 1 rfl rfl (by decide) hw495 rfl rfl dM_binary_35 ?_
      refine lv_bipush (v := 24) hx hb dM_binary_38 (by decide) ?_
      refine lv_icmp_ne (tgt := 47) hx hb dM_binary_40 (by decide) (fun h40 => ?_) (fun h40 => ?_)
      · skip
        replace h40 : ¬ n = 24 := fun hq0 => h40 ((nI_eq (a := n) (b := 24) (by omega) (by omega)).mpr hq0)
        refine lv_iconst (v := 0) hx hb dM_binary_47 (by decide) ?_
        refine lv_iload_n hx hb dM_binary_48 rfl (lv_at hl 1 rfl) ?_
        refine lv_iload_n hx hb dM_binary_49 rfl (lv_at hl 2 rfl) ?_
        refine lv_iload_n hx hb dM_binary_50 rfl (lv_at hl 3 rfl) ?_
        refine dw_calli (wc := [(m0, .inr (5, [.int (ft), .int (nI (n)), .ref aMd, .ref aO1, .ref aT2, .int (rs), .ref aSh, .ref aMk, .ref aFa, .ref aDe, .ref aNe, .ref aBy, .ref aPi, .int (pd), .ref aNw, .ref aNs, .ref aBf, .int (rn), .int (rr)])), (aMd, .inl (cI, 24, .inl (fun w => nI (db_rk (K w))))), (aO1, .inl (cI, 24, .inl (db_one1 K X Nm))), (aT2, .inl (cI, 24, .inl (db_two2 K Y Nm)))]) (wr := []) hG [3, 0, 1, 2] [] rfl rfl (by decide) (by decide) (va_runV (As := [.int (0), .int (nI (op)), .int (nI (x)), .int (nI (y))]) (rest := []) ⟨hx, hb, hml, hown, hts⟩ (rf_make0 l dC dI cI cZ m0 aMd aO1 aT2 aSh aMk aFa aDe aNe aBy aPi aNw aNs aBf n ft rs pd rn rr (fun w => nI (db_rk (K w))) (db_one1 K X Nm) (db_two2 K Y Nm) (nI (op)) (nI (x)) (nI (y)) H.size (by omega)) (dc_V 4 hts tw_561 tw_563 tp_M_make tw_7 tw_564 rfl rfl (by decide +kernel) ⟨Nat.le_of_ble_eq_true rfl, Nat.le_of_ble_eq_true rfl⟩) (dw_preV (ci := 5) hG [3, 0, 1, 2] [0, 1] rfl rfl (by decide) rfl rfl (q0 := 3) rfl) rfl rfl hl.1 rfl (lv_room (Nat.le_of_ble_eq_true rfl)) dM_binary_51 ⟨Nat.le_refl _, Nat.le_refl _⟩) (fun r u H locs hp hG => ?_)
        subst hp
        have hG : dw_G (dC, dI) vwCl [(cI, .int), (cZ, .boolean)] A s.heap s [(m0, .inr (5, [.int (0), .int (nI (n + 1)), .ref aMd, .ref aO1, .ref aT2, .int (rs), .ref aSh, .ref aMk, .ref aFa, .ref aDe, .ref aNe, .ref aBy, .ref aPi, .int (pd), .ref aNw, .ref aNs, .ref aBf, .int (rn), .int (rr)])), (aMd, .inl (cI, 24, .inl (upd (fun w => nI (db_rk (K w))) n (nI (op))))), (aO1, .inl (cI, 24, .inl (upd (db_one1 K X Nm) n (nI (x))))), (aT2, .inl (cI, 24, .inl (upd (db_two2 K Y Nm) n (nI (y)))))] H locs := hG
        subst hQ
        exact dw_iret hx hb hr hG (()) (by rw [db_md_up K n op (nI (op)) (by have q : ∀ k, k < 6 → nI k = nI (db_rk k) := (by decide); exact q op (by omega)), db_o1_up K X Nm n op x 0 (nI (x)) (by rw [if_neg (by omega)]), db_t2_up K Y Nm n op y 0 (nI (y)) (by rw [if_neg (by omega)])]) rfl dM_binary_54 hlocks
      replace h40 := (nI_eq (a := n) (b := 24) (by omega) (by omega)).mp h40
      (exfalso; omega)
    replace h27 := (nI_eq (a := 1) (b := 0) (by omega) (by omega)).mp h27
    (exfalso; omega)
  replace h7 : ¬ op ≤ 5 := fun hq0 => h7 ((nI_leI (a := op) (b := 5) (by omega) (by omega)).mpr hq0)
  (exfalso; omega)

set_option maxRecDepth 100000 in
set_option maxHeartbeats 4000000 in
theorem rf_binary_1 (l : Launch) (dC : Nat → ClassId) (dI : Nat → Nat → Nat) (cI cZ : ClassId) (m0 aMd aO1 aT2 aSh aMk aFa aDe aNe aBy aPi aNw aNs aBf n : Nat) (ft rs pd rn rr : Int32) (K X Y : Nat → Nat) (Nm : Nat → Int32) (op x y : Int32) (sz : Nat) (hn : n ≤ 24) (hbad : op < 0 ∨ 5 < op) : Met l yM_binary wsM_binary { frames := 1, cells := 0, slots := 0, locals := 30 } (va_Pc [.ref m0, .int (op), .int (x), .int (y)] (dw_pre (dC, dI) vwCl [(m0, .inr (5, [.int (ft), .int (nI (n)), .ref aMd, .ref aO1, .ref aT2, .int (rs), .ref aSh, .ref aMk, .ref aFa, .ref aDe, .ref aNe, .ref aBy, .ref aPi, .int (pd), .ref aNw, .ref aNs, .ref aBf, .int (rn), .int (rr)])), (aMd, .inl (cI, 24, .inl (fun w => nI (db_rk (K w))))), (aO1, .inl (cI, 24, .inl (db_one1 K X Nm))), (aT2, .inl (cI, 24, .inl (db_two2 K Y Nm)))] [(cI, .int), (cZ, .boolean)] sz)) (va_Qi (fun (r : Int32) (u : Unit) => r = 0) (fun u t => dw_post (dC, dI) vwCl [(m0, .inr (5, [.int (1), .int (nI (n)), .ref aMd, .ref aO1, .ref aT2, .int (rs), .ref aSh, .ref aMk, .ref aFa, .ref aDe, .ref aNe, .ref aBy, .ref aPi, .int (pd), .ref aNw, .ref aNs, .ref aBf, .int (rn), .int (rr)])), (aMd, .inl (cI, 24, .inl (fun w => nI (db_rk (K w))))), (aO1, .inl (cI, 24, .inl (db_one1 K X Nm))), (aT2, .inl (cI, 24, .inl (db_two2 K Y Nm)))] [(cI, .int), (cZ, .boolean)] (va_A [(m0, .inr (5, [.int (ft), .int (nI (n)), .ref aMd, .ref aO1, .ref aT2, .int (rs), .ref aSh, .ref aMk, .ref aFa, .ref aDe, .ref aNe, .ref aBy, .ref aPi, .int (pd), .ref aNw, .ref aNs, .ref aBf, .int (rn), .int (rr)])), (aMd, .inl (cI, 24, .inl (fun w => nI (db_rk (K w))))), (aO1, .inl (cI, 24, .inl (db_one1 K X Nm))), (aT2, .inl (cI, 24, .inl (db_two2 K Y Nm)))] sz) t) (va_A [(m0, .inr (5, [.int (ft), .int (nI (n)), .ref aMd, .ref aO1, .ref aT2, .int (rs), .ref aSh, .ref aMk, .ref aFa, .ref aDe, .ref aNe, .ref aBy, .ref aPi, .int (pd), .ref aNw, .ref aNs, .ref aBf, .int (rn), .int (rr)])), (aMd, .inl (cI, 24, .inl (fun w => nI (db_rk (K w))))), (aO1, .inl (cI, 24, .inl (db_one1 K X Nm))), (aT2, .inl (cI, 24, .inl (db_two2 K Y Nm)))] sz)) 0 0 (va_A [(m0, .inr (5, [.int (ft), .int (nI (n)), .ref aMd, .ref aO1, .ref aT2, .int (rs), .ref aSh, .ref aMk, .ref aFa, .ref aDe, .ref aNe, .ref aBy, .ref aPi, .int (pd), .ref aNw, .ref aNs, .ref aBf, .int (rn), .int (rr)])), (aMd, .inl (cI, 24, .inl (fun w => nI (db_rk (K w))))), (aO1, .inl (cI, 24, .inl (db_one1 K X Nm))), (aT2, .inl (cI, 24, .inl (db_two2 K Y Nm)))] sz) := by
  refine Met.ofW (cc := cM_binary) (maxL := 4) (ret := (some .int)) (by decide) rfl ?_
  intro p e s m args below meth c s₁ B hml hv0
  have hx := B.exec
  have hb := B.bytes
  have hr := B.returns
  have hts := atoms_spec (ws := wsM_binary) B.pre
  have hown : s.vm.findClass RM = some m.cls := findClass_of_methodNamed B.named
  have hlocks := B.notSynchronized
  obtain ⟨rfl, hsz, hG⟩ := dw_enter hv0
  generalize va_A [(m0, .inr (5, [.int (ft), .int (nI (n)), .ref aMd, .ref aO1, .ref aT2, .int (rs), .ref aSh, .ref aMk, .ref aFa, .ref aDe, .ref aNe, .ref aBy, .ref aPi, .int (pd), .ref aNw, .ref aNs, .ref aBf, .int (rn), .int (rr)])), (aMd, .inl (cI, 24, .inl (fun w => nI (db_rk (K w))))), (aO1, .inl (cI, 24, .inl (db_one1 K X Nm))), (aT2, .inl (cI, 24, .inl (db_two2 K Y Nm)))] sz = A at hG ⊢
  have hl := lv_entry ([.ref m0, .int (op), .int (x), .int (y)]) (n := 4) (Nat.le_of_ble_eq_true rfl)
  rw [lg_entry_eq]
  generalize (lg_sl ([.ref m0, .int (op), .int (x), .int (y)]) ++ List.replicate (4 - (lg_sl ([.ref m0, .int (op), .int (x), .int (y)])).length) Slot.unset).toArray = ls at hl ⊢
  have hl : lv_has ls 4 [(0, .ref m0), (1, .int (op)), (2, .int (x)), (3, .int (y))] := hl
  refine dw_Q (fun Q hQ => ?_)
  suffices hgo : ∀ (H : Heap) (locs : List Loc), dw_G (dC, dI) vwCl [(cI, .int), (cZ, .boolean)] A s.heap s [(m0, .inr (5, [.int (ft), .int (nI (n)), .ref aMd, .ref aO1, .ref aT2, .int (rs), .ref aSh, .ref aMk, .ref aFa, .ref aDe, .ref aNe, .ref aBy, .ref aPi, .int (pd), .ref aNw, .ref aNs, .ref aBf, .int (rn), .int (rr)])), (aMd, .inl (cI, 24, .inl (fun w => nI (db_rk (K w))))), (aO1, .inl (cI, 24, .inl (db_one1 K X Nm))), (aT2, .inl (cI, 24, .inl (db_two2 K Y Nm)))] H locs → W p l e (headSpec wsM_binary { frames := 1, cells := 0, slots := 0, locals := 30 }).room s m [.ref m0, .int (op), .int (x), .int (y)].toArray below meth c H locs 0 0 Q (F0 m 0 ls []) from hgo _ _ hG
  clear hG
  intro H locs hG
  refine lv_aload_n hx hb dM_binary_0 rfl (lv_at hl 0 rfl) ?_
  refine lv_iload_n hx hb dM_binary_1 rfl (lv_at hl 1 rfl) ?_
  refine lv_if_lt (tgt := 10) hx hb dM_binary_2 (by decide) (fun h2 => ?_) (fun h2 => ?_)
  · skip
    refine lv_iconst (v := 1) hx hb dM_binary_10 (by decide) ?_
    refine lv_goto (tgt := 48) hx hb dM_binary_11 (by decide) ?_
    refine lv_iload_n hx hb dM_binary_48 rfl (lv_at hl 1 rfl) ?_
    refine lv_iload_n hx hb dM_binary_49 rfl (lv_at hl 2 rfl) ?_
    refine lv_iload_n hx hb dM_binary_50 rfl (lv_at hl 3 rfl) ?_
    refine dw_calli (wc := [(m0, .inr (5, [.int (ft), .int (nI (n)), .ref aMd, .ref aO1, .ref aT2, .int (rs), .ref aSh, .ref aMk, .ref aFa, .ref aDe, .ref aNe, .ref aBy, .ref aPi, .int (pd), .ref aNw, .ref aNs, .ref aBf, .int (rn), .int (rr)])), (aMd, .inl (cI, 24, .inl (fun w => nI (db_rk (K w))))), (aO1, .inl (cI, 24, .inl (db_one1 K X Nm))), (aT2, .inl (cI, 24, .inl (db_two2 K Y Nm)))]) (wr := []) hG [0, 1, 2, 3] [] rfl rfl (by decide) (by decide) (va_runV (As := [.int (1), .int (op), .int (x), .int (y)]) (rest := []) ⟨hx, hb, hml, hown, hts⟩ (rf_makeW1 l dC dI cI cZ m0 aMd aO1 aT2 aSh aMk aFa aDe aNe aBy aPi aNw aNs aBf n ft rs pd rn rr (fun w => nI (db_rk (K w))) (db_one1 K X Nm) (db_two2 K Y Nm) (op) (x) (y) H.size ) (dc_V 4 hts tw_561 tw_563 tp_M_make tw_7 tw_564 rfl rfl (by decide +kernel) ⟨Nat.le_of_ble_eq_true rfl, Nat.le_of_ble_eq_true rfl⟩) (dw_preV (ci := 5) hG [0, 1, 2, 3] [0, 1] rfl rfl (by decide) rfl rfl (q0 := 0) rfl) rfl rfl hl.1 rfl (lv_room (Nat.le_of_ble_eq_true rfl)) dM_binary_51 ⟨Nat.le_refl _, Nat.le_refl _⟩) (fun r u H locs hp hG => ?_)
    subst hp
    have hG : dw_G (dC, dI) vwCl [(cI, .int), (cZ, .boolean)] A s.heap s [(m0, .inr (5, [.int (1), .int (nI (n)), .ref aMd, .ref aO1, .ref aT2, .int (rs), .ref aSh, .ref aMk, .ref aFa, .ref aDe, .ref aNe, .ref aBy, .ref aPi, .int (pd), .ref aNw, .ref aNs, .ref aBf, .int (rn), .int (rr)])), (aMd, .inl (cI, 24, .inl (fun w => nI (db_rk (K w))))), (aO1, .inl (cI, 24, .inl (db_one1 K X Nm))), (aT2, .inl (cI, 24, .inl (db_two2 K Y Nm)))] H locs := hG
    subst hQ
    exact dw_iret hx hb hr hG (()) rfl rfl dM_binary_54 hlocks
  refine lv_iload_n hx hb dM_binary_5 rfl (lv_at hl 1 rfl) ?_
  refine lv_iconst (v := 5) hx hb dM_binary_6 (by decide) ?_
  refine lv_icmp_le (tgt := 14) hx hb dM_binary_7 (by decide) (fun h7 => ?_) (fun h7 => ?_)
  · skip
    exact absurd hbad (fun q => q.elim h2 (fun z => Int32.not_lt.mpr h7 z))
  refine lv_iconst (v := 1) hx hb dM_binary_10 (by decide) ?_
  refine lv_goto (tgt := 48) hx hb dM_binary_11 (by decide) ?_
  refine lv_iload_n hx hb dM_binary_48 rfl (lv_at hl 1 rfl) ?_
  refine lv_iload_n hx hb dM_binary_49 rfl (lv_at hl 2 rfl) ?_
  refine lv_iload_n hx hb dM_binary_50 rfl (lv_at hl 3 rfl) ?_
  refine dw_calli (wc := [(m0, .inr (5, [.int (ft), .int (nI (n)), .ref aMd, .ref aO1, .ref aT2, .int (rs), .ref aSh, .ref aMk, .ref aFa, .ref aDe, .ref aNe, .ref aBy, .ref aPi, .int (pd), .ref aNw, .ref aNs, .ref aBf, .int (rn), .int (rr)])), (aMd, .inl (cI, 24, .inl (fun w => nI (db_rk (K w))))), (aO1, .inl (cI, 24, .inl (db_one1 K X Nm))), (aT2, .inl (cI, 24, .inl (db_two2 K Y Nm)))]) (wr := []) hG [0, 1, 2, 3] [] rfl rfl (by decide) (by decide) (va_runV (As := [.int (1), .int (op), .int (x), .int (y)]) (rest := []) ⟨hx, hb, hml, hown, hts⟩ (rf_makeW1 l dC dI cI cZ m0 aMd aO1 aT2 aSh aMk aFa aDe aNe aBy aPi aNw aNs aBf n ft rs pd rn rr (fun w => nI (db_rk (K w))) (db_one1 K X Nm) (db_two2 K Y Nm) (op) (x) (y) H.size ) (dc_V 4 hts tw_561 tw_563 tp_M_make tw_7 tw_564 rfl rfl (by decide +kernel) ⟨Nat.le_of_ble_eq_true rfl, Nat.le_of_ble_eq_true rfl⟩) (dw_preV (ci := 5) hG [0, 1, 2, 3] [0, 1] rfl rfl (by decide) rfl rfl (q0 := 0) rfl) rfl rfl hl.1 rfl (lv_room (Nat.le_of_ble_eq_true rfl)) dM_binary_51 ⟨Nat.le_refl _, Nat.le_refl _⟩) (fun r u H locs hp hG => ?_)
  subst hp
  have hG : dw_G (dC, dI) vwCl [(cI, .int), (cZ, .boolean)] A s.heap s [(m0, .inr (5, [.int (1), .int (nI (n)), .ref aMd, .ref aO1, .ref aT2, .int (rs), .ref aSh, .ref aMk, .ref aFa, .ref aDe, .ref aNe, .ref aBy, .ref aPi, .int (pd), .ref aNw, .ref aNs, .ref aBf, .int (rn), .int (rr)])), (aMd, .inl (cI, 24, .inl (fun w => nI (db_rk (K w))))), (aO1, .inl (cI, 24, .inl (db_one1 K X Nm))), (aT2, .inl (cI, 24, .inl (db_two2 K Y Nm)))] H locs := hG
  subst hQ
  exact dw_iret hx hb hr hG (()) rfl rfl dM_binary_54 hlocks

set_option maxRecDepth 100000 in
set_option maxHeartbeats 4000000 in
theorem rf_binary_2x (l : Launch) (dC : Nat → ClassId) (dI : Nat → Nat → Nat) (cI cZ : ClassId) (m0 aMd aO1 aT2 aSh aMk aFa aDe aNe aBy aPi aNw aNs aBf n : Nat) (ft rs pd rn rr : Int32) (K X Y : Nat → Nat) (Nm : Nat → Int32) (op : Nat) (x y : Int32) (sz : Nat) (ho : op ≤ 5) (hn : n ≤ 24) (hinv : db_isv x (nI n) = 0) : Met l yM_binary wsM_binary { frames := 1, cells := 0, slots := 0, locals := 30 } (va_Pc [.ref m0, .int (nI (op)), .int (x), .int (y)] (dw_pre (dC, dI) vwCl [(m0, .inr (5, [.int (ft), .int (nI (n)), .ref aMd, .ref aO1, .ref aT2, .int (rs), .ref aSh, .ref aMk, .ref aFa, .ref aDe, .ref aNe, .ref aBy, .ref aPi, .int (pd), .ref aNw, .ref aNs, .ref aBf, .int (rn), .int (rr)])), (aMd, .inl (cI, 24, .inl (fun w => nI (db_rk (K w))))), (aO1, .inl (cI, 24, .inl (db_one1 K X Nm))), (aT2, .inl (cI, 24, .inl (db_two2 K Y Nm)))] [(cI, .int), (cZ, .boolean)] sz)) (va_Qi (fun (r : Int32) (u : Unit) => r = 0) (fun u t => dw_post (dC, dI) vwCl [(m0, .inr (5, [.int (2), .int (nI (n)), .ref aMd, .ref aO1, .ref aT2, .int (rs), .ref aSh, .ref aMk, .ref aFa, .ref aDe, .ref aNe, .ref aBy, .ref aPi, .int (pd), .ref aNw, .ref aNs, .ref aBf, .int (rn), .int (rr)])), (aMd, .inl (cI, 24, .inl (fun w => nI (db_rk (K w))))), (aO1, .inl (cI, 24, .inl (db_one1 K X Nm))), (aT2, .inl (cI, 24, .inl (db_two2 K Y Nm)))] [(cI, .int), (cZ, .boolean)] (va_A [(m0, .inr (5, [.int (ft), .int (nI (n)), .ref aMd, .ref aO1, .ref aT2, .int (rs), .ref aSh, .ref aMk, .ref aFa, .ref aDe, .ref aNe, .ref aBy, .ref aPi, .int (pd), .ref aNw, .ref aNs, .ref aBf, .int (rn), .int (rr)])), (aMd, .inl (cI, 24, .inl (fun w => nI (db_rk (K w))))), (aO1, .inl (cI, 24, .inl (db_one1 K X Nm))), (aT2, .inl (cI, 24, .inl (db_two2 K Y Nm)))] sz) t) (va_A [(m0, .inr (5, [.int (ft), .int (nI (n)), .ref aMd, .ref aO1, .ref aT2, .int (rs), .ref aSh, .ref aMk, .ref aFa, .ref aDe, .ref aNe, .ref aBy, .ref aPi, .int (pd), .ref aNw, .ref aNs, .ref aBf, .int (rn), .int (rr)])), (aMd, .inl (cI, 24, .inl (fun w => nI (db_rk (K w))))), (aO1, .inl (cI, 24, .inl (db_one1 K X Nm))), (aT2, .inl (cI, 24, .inl (db_two2 K Y Nm)))] sz)) 0 0 (va_A [(m0, .inr (5, [.int (ft), .int (nI (n)), .ref aMd, .ref aO1, .ref aT2, .int (rs), .ref aSh, .ref aMk, .ref aFa, .ref aDe, .ref aNe, .ref aBy, .ref aPi, .int (pd), .ref aNw, .ref aNs, .ref aBf, .int (rn), .int (rr)])), (aMd, .inl (cI, 24, .inl (fun w => nI (db_rk (K w))))), (aO1, .inl (cI, 24, .inl (db_one1 K X Nm))), (aT2, .inl (cI, 24, .inl (db_two2 K Y Nm)))] sz) := by
  refine Met.ofW (cc := cM_binary) (maxL := 4) (ret := (some .int)) (by decide) rfl ?_
  intro p e s m args below meth c s₁ B hml hv0
  have hx := B.exec
  have hb := B.bytes
  have hr := B.returns
  have hts := atoms_spec (ws := wsM_binary) B.pre
  have hown : s.vm.findClass RM = some m.cls := findClass_of_methodNamed B.named
  have hlocks := B.notSynchronized
  obtain ⟨rfl, hsz, hG⟩ := dw_enter hv0
  generalize va_A [(m0, .inr (5, [.int (ft), .int (nI (n)), .ref aMd, .ref aO1, .ref aT2, .int (rs), .ref aSh, .ref aMk, .ref aFa, .ref aDe, .ref aNe, .ref aBy, .ref aPi, .int (pd), .ref aNw, .ref aNs, .ref aBf, .int (rn), .int (rr)])), (aMd, .inl (cI, 24, .inl (fun w => nI (db_rk (K w))))), (aO1, .inl (cI, 24, .inl (db_one1 K X Nm))), (aT2, .inl (cI, 24, .inl (db_two2 K Y Nm)))] sz = A at hG ⊢
  have hl := lv_entry ([.ref m0, .int (nI (op)), .int (x), .int (y)]) (n := 4) (Nat.le_of_ble_eq_true rfl)
  rw [lg_entry_eq]
  generalize (lg_sl ([.ref m0, .int (nI (op)), .int (x), .int (y)]) ++ List.replicate (4 - (lg_sl ([.ref m0, .int (nI (op)), .int (x), .int (y)])).length) Slot.unset).toArray = ls at hl ⊢
  have hl : lv_has ls 4 [(0, .ref m0), (1, .int (nI (op))), (2, .int (x)), (3, .int (y))] := hl
  refine dw_Q (fun Q hQ => ?_)
  suffices hgo : ∀ (H : Heap) (locs : List Loc), dw_G (dC, dI) vwCl [(cI, .int), (cZ, .boolean)] A s.heap s [(m0, .inr (5, [.int (ft), .int (nI (n)), .ref aMd, .ref aO1, .ref aT2, .int (rs), .ref aSh, .ref aMk, .ref aFa, .ref aDe, .ref aNe, .ref aBy, .ref aPi, .int (pd), .ref aNw, .ref aNs, .ref aBf, .int (rn), .int (rr)])), (aMd, .inl (cI, 24, .inl (fun w => nI (db_rk (K w))))), (aO1, .inl (cI, 24, .inl (db_one1 K X Nm))), (aT2, .inl (cI, 24, .inl (db_two2 K Y Nm)))] H locs → W p l e (headSpec wsM_binary { frames := 1, cells := 0, slots := 0, locals := 30 }).room s m [.ref m0, .int (nI (op)), .int (x), .int (y)].toArray below meth c H locs 0 0 Q (F0 m 0 ls []) from hgo _ _ hG
  clear hG
  intro H locs hG
  refine lv_aload_n hx hb dM_binary_0 rfl (lv_at hl 0 rfl) ?_
  refine lv_iload_n hx hb dM_binary_1 rfl (lv_at hl 1 rfl) ?_
  refine lv_if_lt (tgt := 10) hx hb dM_binary_2 (by decide) (fun h2 => ?_) (fun h2 => ?_)
  · skip
    replace h2 := (nI_ltI (a := op) (b := 0) (by omega) (by omega)).mp h2
    (exfalso; omega)
  replace h2 : ¬ op < 0 := fun hq0 => h2 ((nI_ltI (a := op) (b := 0) (by omega) (by omega)).mpr hq0)
  refine lv_iload_n hx hb dM_binary_5 rfl (lv_at hl 1 rfl) ?_
  refine lv_iconst (v := 5) hx hb dM_binary_6 (by decide) ?_
  refine lv_icmp_le (tgt := 14) hx hb dM_binary_7 (by decide) (fun h7 => ?_) (fun h7 => ?_)
  · skip
    replace h7 := (nI_leI (a := op) (b := 5) (by omega) (by omega)).mp h7
    refine lv_aload_n hx hb dM_binary_14 rfl (lv_at hl 0 rfl) ?_
    refine lv_iload_n hx hb dM_binary_15 rfl (lv_at hl 2 rfl) ?_
    refine dw_calli (wc := [(m0, .inr (5, [.int (ft), .int (nI (n)), .ref aMd, .ref aO1, .ref aT2, .int (rs), .ref aSh, .ref aMk, .ref aFa, .ref aDe, .ref aNe, .ref aBy, .ref aPi, .int (pd), .ref aNw, .ref aNs, .ref aBf, .int (rn), .int (rr)]))]) (wr := [(aMd, .inl (cI, 24, .inl (fun w => nI (db_rk (K w))))), (aO1, .inl (cI, 24, .inl (db_one1 K X Nm))), (aT2, .inl (cI, 24, .inl (db_two2 K Y Nm)))]) hG [0] [1, 2, 3] rfl rfl (by decide) (by decide) (va_runV (As := [.int (x)]) (rest := [.ref m0]) ⟨hx, hb, hml, hown, hts⟩ (rf_isValue l dC dI cI cZ m0 aMd aO1 aT2 aSh aMk aFa aDe aNe aBy aPi aNw aNs aBf ft (nI n) rs pd rn rr (x) H.size ) (dc_V 1 hts tw_573 tw_575 tp_M_isValue tw_7 tw_576 rfl rfl (by decide +kernel) ⟨Nat.le_of_ble_eq_true rfl, Nat.le_of_ble_eq_true rfl⟩) (dw_preV (ci := 5) hG [0] [0, 1] rfl rfl (by decide) rfl rfl (q0 := 0) rfl) rfl rfl hl.1 rfl (lv_room (Nat.le_of_ble_eq_true rfl)) dM_binary_16 ⟨Nat.le_refl _, Nat.le_refl _⟩) (fun r u H locs hp hG => ?_)
    subst hp
    have hG : dw_G (dC, dI) vwCl [(cI, .int), (cZ, .boolean)] A s.heap s [(aMd, .inl (cI, 24, .inl (fun w => nI (db_rk (K w))))), (aO1, .inl (cI, 24, .inl (db_one1 K X Nm))), (aT2, .inl (cI, 24, .inl (db_two2 K Y Nm))), (m0, .inr (5, [.int (ft), .int (nI (n)), .ref aMd, .ref aO1, .ref aT2, .int (rs), .ref aSh, .ref aMk, .ref aFa, .ref aDe, .ref aNe, .ref aBy, .ref aPi, .int (pd), .ref aNw, .ref aNs, .ref aBf, .int (rn), .int (rr)]))] H locs := hG
    refine lv_topi (nm_r (show (db_isv (x) (nI n) : Int32) = 0 from hinv) ?_)
    refine lv_if_eq (tgt := 30) hx hb dM_binary_19 (by decide) (fun h19 => ?_) (fun h19 => ?_)
    · skip
      replace h19 := (nI_eq (a := 0) (b := 0) (by omega) (by omega)).mp h19
      refine lv_iconst (v := 2) hx hb dM_binary_30 (by decide) ?_
      refine lv_goto (tgt := 48) hx hb dM_binary_31 (by decide) ?_
      refine lv_iload_n hx hb dM_binary_48 rfl (lv_at hl 1 rfl) ?_
      refine lv_iload_n hx hb dM_binary_49 rfl (lv_at hl 2 rfl) ?_
      refine lv_iload_n hx hb dM_binary_50 rfl (lv_at hl 3 rfl) ?_
      refine dw_calli (wc := [(m0, .inr (5, [.int (ft), .int (nI (n)), .ref aMd, .ref aO1, .ref aT2, .int (rs), .ref aSh, .ref aMk, .ref aFa, .ref aDe, .ref aNe, .ref aBy, .ref aPi, .int (pd), .ref aNw, .ref aNs, .ref aBf, .int (rn), .int (rr)])), (aMd, .inl (cI, 24, .inl (fun w => nI (db_rk (K w))))), (aO1, .inl (cI, 24, .inl (db_one1 K X Nm))), (aT2, .inl (cI, 24, .inl (db_two2 K Y Nm)))]) (wr := []) hG [3, 0, 1, 2] [] rfl rfl (by decide) (by decide) (va_runV (As := [.int (2), .int (nI (op)), .int (x), .int (y)]) (rest := []) ⟨hx, hb, hml, hown, hts⟩ (rf_makeW2 l dC dI cI cZ m0 aMd aO1 aT2 aSh aMk aFa aDe aNe aBy aPi aNw aNs aBf n ft rs pd rn rr (fun w => nI (db_rk (K w))) (db_one1 K X Nm) (db_two2 K Y Nm) (nI (op)) (x) (y) H.size ) (dc_V 4 hts tw_561 tw_563 tp_M_make tw_7 tw_564 rfl rfl (by decide +kernel) ⟨Nat.le_of_ble_eq_true rfl, Nat.le_of_ble_eq_true rfl⟩) (dw_preV (ci := 5) hG [3, 0, 1, 2] [0, 1] rfl rfl (by decide) rfl rfl (q0 := 3) rfl) rfl rfl hl.1 rfl (lv_room (Nat.le_of_ble_eq_true rfl)) dM_binary_51 ⟨Nat.le_refl _, Nat.le_refl _⟩) (fun r u H locs hp hG => ?_)
      subst hp
      have hG : dw_G (dC, dI) vwCl [(cI, .int), (cZ, .boolean)] A s.heap s [(m0, .inr (5, [.int (2), .int (nI (n)), .ref aMd, .ref aO1, .ref aT2, .int (rs), .ref aSh, .ref aMk, .ref aFa, .ref aDe, .ref aNe, .ref aBy, .ref aPi, .int (pd), .ref aNw, .ref aNs, .ref aBf, .int (rn), .int (rr)])), (aMd, .inl (cI, 24, .inl (fun w => nI (db_rk (K w))))), (aO1, .inl (cI, 24, .inl (db_one1 K X Nm))), (aT2, .inl (cI, 24, .inl (db_two2 K Y Nm)))] H locs := hG
      subst hQ
      exact dw_iret hx hb hr hG (()) rfl rfl dM_binary_54 hlocks
    replace h19 : ¬ 0 = 0 := fun hq0 => h19 ((nI_eq (a := 0) (b := 0) (by omega) (by omega)).mpr hq0)
    (exfalso; omega)
  replace h7 : ¬ op ≤ 5 := fun hq0 => h7 ((nI_leI (a := op) (b := 5) (by omega) (by omega)).mpr hq0)
  (exfalso; omega)

set_option maxRecDepth 100000 in
set_option maxHeartbeats 4000000 in
theorem rf_binary_2y (l : Launch) (dC : Nat → ClassId) (dI : Nat → Nat → Nat) (cI cZ : ClassId) (m0 aMd aO1 aT2 aSh aMk aFa aDe aNe aBy aPi aNw aNs aBf n : Nat) (ft rs pd rn rr : Int32) (K X Y : Nat → Nat) (Nm : Nat → Int32) (op x : Nat) (y : Int32) (sz : Nat) (ho : op ≤ 5) (hn : n ≤ 24) (hx9 : x < n) (hinv : db_isv y (nI n) = 0) : Met l yM_binary wsM_binary { frames := 1, cells := 0, slots := 0, locals := 30 } (va_Pc [.ref m0, .int (nI (op)), .int (nI (x)), .int (y)] (dw_pre (dC, dI) vwCl [(m0, .inr (5, [.int (ft), .int (nI (n)), .ref aMd, .ref aO1, .ref aT2, .int (rs), .ref aSh, .ref aMk, .ref aFa, .ref aDe, .ref aNe, .ref aBy, .ref aPi, .int (pd), .ref aNw, .ref aNs, .ref aBf, .int (rn), .int (rr)])), (aMd, .inl (cI, 24, .inl (fun w => nI (db_rk (K w))))), (aO1, .inl (cI, 24, .inl (db_one1 K X Nm))), (aT2, .inl (cI, 24, .inl (db_two2 K Y Nm)))] [(cI, .int), (cZ, .boolean)] sz)) (va_Qi (fun (r : Int32) (u : Unit) => r = 0) (fun u t => dw_post (dC, dI) vwCl [(m0, .inr (5, [.int (2), .int (nI (n)), .ref aMd, .ref aO1, .ref aT2, .int (rs), .ref aSh, .ref aMk, .ref aFa, .ref aDe, .ref aNe, .ref aBy, .ref aPi, .int (pd), .ref aNw, .ref aNs, .ref aBf, .int (rn), .int (rr)])), (aMd, .inl (cI, 24, .inl (fun w => nI (db_rk (K w))))), (aO1, .inl (cI, 24, .inl (db_one1 K X Nm))), (aT2, .inl (cI, 24, .inl (db_two2 K Y Nm)))] [(cI, .int), (cZ, .boolean)] (va_A [(m0, .inr (5, [.int (ft), .int (nI (n)), .ref aMd, .ref aO1, .ref aT2, .int (rs), .ref aSh, .ref aMk, .ref aFa, .ref aDe, .ref aNe, .ref aBy, .ref aPi, .int (pd), .ref aNw, .ref aNs, .ref aBf, .int (rn), .int (rr)])), (aMd, .inl (cI, 24, .inl (fun w => nI (db_rk (K w))))), (aO1, .inl (cI, 24, .inl (db_one1 K X Nm))), (aT2, .inl (cI, 24, .inl (db_two2 K Y Nm)))] sz) t) (va_A [(m0, .inr (5, [.int (ft), .int (nI (n)), .ref aMd, .ref aO1, .ref aT2, .int (rs), .ref aSh, .ref aMk, .ref aFa, .ref aDe, .ref aNe, .ref aBy, .ref aPi, .int (pd), .ref aNw, .ref aNs, .ref aBf, .int (rn), .int (rr)])), (aMd, .inl (cI, 24, .inl (fun w => nI (db_rk (K w))))), (aO1, .inl (cI, 24, .inl (db_one1 K X Nm))), (aT2, .inl (cI, 24, .inl (db_two2 K Y Nm)))] sz)) 0 0 (va_A [(m0, .inr (5, [.int (ft), .int (nI (n)), .ref aMd, .ref aO1, .ref aT2, .int (rs), .ref aSh, .ref aMk, .ref aFa, .ref aDe, .ref aNe, .ref aBy, .ref aPi, .int (pd), .ref aNw, .ref aNs, .ref aBf, .int (rn), .int (rr)])), (aMd, .inl (cI, 24, .inl (fun w => nI (db_rk (K w))))), (aO1, .inl (cI, 24, .inl (db_one1 K X Nm))), (aT2, .inl (cI, 24, .inl (db_two2 K Y Nm)))] sz) := by
  refine Met.ofW (cc := cM_binary) (maxL := 4) (ret := (some .int)) (by decide) rfl ?_
  intro p e s m args below meth c s₁ B hml hv0
  have hx := B.exec
  have hb := B.bytes
  have hr := B.returns
  have hts := atoms_spec (ws := wsM_binary) B.pre
  have hown : s.vm.findClass RM = some m.cls := findClass_of_methodNamed B.named
  have hlocks := B.notSynchronized
  obtain ⟨rfl, hsz, hG⟩ := dw_enter hv0
  generalize va_A [(m0, .inr (5, [.int (ft), .int (nI (n)), .ref aMd, .ref aO1, .ref aT2, .int (rs), .ref aSh, .ref aMk, .ref aFa, .ref aDe, .ref aNe, .ref aBy, .ref aPi, .int (pd), .ref aNw, .ref aNs, .ref aBf, .int (rn), .int (rr)])), (aMd, .inl (cI, 24, .inl (fun w => nI (db_rk (K w))))), (aO1, .inl (cI, 24, .inl (db_one1 K X Nm))), (aT2, .inl (cI, 24, .inl (db_two2 K Y Nm)))] sz = A at hG ⊢
  have hl := lv_entry ([.ref m0, .int (nI (op)), .int (nI (x)), .int (y)]) (n := 4) (Nat.le_of_ble_eq_true rfl)
  rw [lg_entry_eq]
  generalize (lg_sl ([.ref m0, .int (nI (op)), .int (nI (x)), .int (y)]) ++ List.replicate (4 - (lg_sl ([.ref m0, .int (nI (op)), .int (nI (x)), .int (y)])).length) Slot.unset).toArray = ls at hl ⊢
  have hl : lv_has ls 4 [(0, .ref m0), (1, .int (nI (op))), (2, .int (nI (x))), (3, .int (y))] := hl
  refine dw_Q (fun Q hQ => ?_)
  suffices hgo : ∀ (H : Heap) (locs : List Loc), dw_G (dC, dI) vwCl [(cI, .int), (cZ, .boolean)] A s.heap s [(m0, .inr (5, [.int (ft), .int (nI (n)), .ref aMd, .ref aO1, .ref aT2, .int (rs), .ref aSh, .ref aMk, .ref aFa, .ref aDe, .ref aNe, .ref aBy, .ref aPi, .int (pd), .ref aNw, .ref aNs, .ref aBf, .int (rn), .int (rr)])), (aMd, .inl (cI, 24, .inl (fun w => nI (db_rk (K w))))), (aO1, .inl (cI, 24, .inl (db_one1 K X Nm))), (aT2, .inl (cI, 24, .inl (db_two2 K Y Nm)))] H locs → W p l e (headSpec wsM_binary { frames := 1, cells := 0, slots := 0, locals := 30 }).room s m [.ref m0, .int (nI (op)), .int (nI (x)), .int (y)].toArray below meth c H locs 0 0 Q (F0 m 0 ls []) from hgo _ _ hG
  clear hG
  intro H locs hG
  refine lv_aload_n hx hb dM_binary_0 rfl (lv_at hl 0 rfl) ?_
  refine lv_iload_n hx hb dM_binary_1 rfl (lv_at hl 1 rfl) ?_
  refine lv_if_lt (tgt := 10) hx hb dM_binary_2 (by decide) (fun h2 => ?_) (fun h2 => ?_)
  · skip
    replace h2 := (nI_ltI (a := op) (b := 0) (by omega) (by omega)).mp h2
    (exfalso; omega)
  replace h2 : ¬ op < 0 := fun hq0 => h2 ((nI_ltI (a := op) (b := 0) (by omega) (by omega)).mpr hq0)
  refine lv_iload_n hx hb dM_binary_5 rfl (lv_at hl 1 rfl) ?_
  refine lv_iconst (v := 5) hx hb dM_binary_6 (by decide) ?_
  refine lv_icmp_le (tgt := 14) hx hb dM_binary_7 (by decide) (fun h7 => ?_) (fun h7 => ?_)
  · skip
    replace h7 := (nI_leI (a := op) (b := 5) (by omega) (by omega)).mp h7
    refine lv_aload_n hx hb dM_binary_14 rfl (lv_at hl 0 rfl) ?_
    refine lv_iload_n hx hb dM_binary_15 rfl (lv_at hl 2 rfl) ?_
    refine dw_calli (wc := [(m0, .inr (5, [.int (ft), .int (nI (n)), .ref aMd, .ref aO1, .ref aT2, .int (rs), .ref aSh, .ref aMk, .ref aFa, .ref aDe, .ref aNe, .ref aBy, .ref aPi, .int (pd), .ref aNw, .ref aNs, .ref aBf, .int (rn), .int (rr)]))]) (wr := [(aMd, .inl (cI, 24, .inl (fun w => nI (db_rk (K w))))), (aO1, .inl (cI, 24, .inl (db_one1 K X Nm))), (aT2, .inl (cI, 24, .inl (db_two2 K Y Nm)))]) hG [0] [1, 2, 3] rfl rfl (by decide) (by decide) (va_runV (As := [.int (nI (x))]) (rest := [.ref m0]) ⟨hx, hb, hml, hown, hts⟩ (rf_isValue l dC dI cI cZ m0 aMd aO1 aT2 aSh aMk aFa aDe aNe aBy aPi aNw aNs aBf ft (nI n) rs pd rn rr (nI (x)) H.size ) (dc_V 1 hts tw_573 tw_575 tp_M_isValue tw_7 tw_576 rfl rfl (by decide +kernel) ⟨Nat.le_of_ble_eq_true rfl, Nat.le_of_ble_eq_true rfl⟩) (dw_preV (ci := 5) hG [0] [0, 1] rfl rfl (by decide) rfl rfl (q0 := 0) rfl) rfl rfl hl.1 rfl (lv_room (Nat.le_of_ble_eq_true rfl)) dM_binary_16 ⟨Nat.le_refl _, Nat.le_refl _⟩) (fun r u H locs hp hG => ?_)
    subst hp
    have hG : dw_G (dC, dI) vwCl [(cI, .int), (cZ, .boolean)] A s.heap s [(aMd, .inl (cI, 24, .inl (fun w => nI (db_rk (K w))))), (aO1, .inl (cI, 24, .inl (db_one1 K X Nm))), (aT2, .inl (cI, 24, .inl (db_two2 K Y Nm))), (m0, .inr (5, [.int (ft), .int (nI (n)), .ref aMd, .ref aO1, .ref aT2, .int (rs), .ref aSh, .ref aMk, .ref aFa, .ref aDe, .ref aNe, .ref aBy, .ref aPi, .int (pd), .ref aNw, .ref aNs, .ref aBf, .int (rn), .int (rr)]))] H locs := hG
    refine lv_topi (nm_r (show (db_isv (nI (x)) (nI n) : Int32) = 1 from (db_isv_y (by omega) (by omega))) ?_)
    refine lv_if_eq (tgt := 30) hx hb dM_binary_19 (by decide) (fun h19 => ?_) (fun h19 => ?_)
    · skip
      replace h19 := (nI_eq (a := 1) (b := 0) (by omega) (by omega)).mp h19
      (exfalso; omega)
    replace h19 : ¬ 1 = 0 := fun hq0 => h19 ((nI_eq (a := 1) (b := 0) (by omega) (by omega)).mpr hq0)
    refine lv_aload_n hx hb dM_binary_22 rfl (lv_at hl 0 rfl) ?_
    refine lv_iload_n hx hb dM_binary_23 rfl (lv_at hl 3 rfl) ?_
    refine dw_calli (wc := [(m0, .inr (5, [.int (ft), .int (nI (n)), .ref aMd, .ref aO1, .ref aT2, .int (rs), .ref aSh, .ref aMk, .ref aFa, .ref aDe, .ref aNe, .ref aBy, .ref aPi, .int (pd), .ref aNw, .ref aNs, .ref aBf, .int (rn), .int (rr)]))]) (wr := [(aMd, .inl (cI, 24, .inl (fun w => nI (db_rk (K w))))), (aO1, .inl (cI, 24, .inl (db_one1 K X Nm))), (aT2, .inl (cI, 24, .inl (db_two2 K Y Nm)))]) hG [3] [0, 1, 2] rfl rfl (by decide) (by decide) (va_runV (As := [.int (y)]) (rest := [.ref m0]) ⟨hx, hb, hml, hown, hts⟩ (rf_isValue l dC dI cI cZ m0 aMd aO1 aT2 aSh aMk aFa aDe aNe aBy aPi aNw aNs aBf ft (nI n) rs pd rn rr (y) H.size ) (dc_V 1 hts tw_573 tw_575 tp_M_isValue tw_7 tw_576 rfl rfl (by decide +kernel) ⟨Nat.le_of_ble_eq_true rfl, Nat.le_of_ble_eq_true rfl⟩) (dw_preV (ci := 5) hG [3] [0, 1] rfl rfl (by decide) rfl rfl (q0 := 3) rfl) rfl rfl hl.1 rfl (lv_room (Nat.le_of_ble_eq_true rfl)) dM_binary_24 ⟨Nat.le_refl _, Nat.le_refl _⟩) (fun r u H locs hp hG => ?_)
    subst hp
    have hG : dw_G (dC, dI) vwCl [(cI, .int), (cZ, .boolean)] A s.heap s [(aMd, .inl (cI, 24, .inl (fun w => nI (db_rk (K w))))), (aO1, .inl (cI, 24, .inl (db_one1 K X Nm))), (aT2, .inl (cI, 24, .inl (db_two2 K Y Nm))), (m0, .inr (5, [.int (ft), .int (nI (n)), .ref aMd, .ref aO1, .ref aT2, .int (rs), .ref aSh, .ref aMk, .ref aFa, .ref aDe, .ref aNe, .ref aBy, .ref aPi, .int (pd), .ref aNw, .ref aNs, .ref aBf, .int (rn), .int (rr)]))] H locs := hG
    refine lv_topi (nm_r (show (db_isv (y) (nI n) : Int32) = 0 from hinv) ?_)
    refine lv_if_ne (tgt := 34) hx hb dM_binary_27 (by decide) (fun h27 => ?_) (fun h27 => ?_)
    · skip
      replace h27 : ¬ 0 = 0 := fun hq0 => h27 ((nI_eq (a := 0) (b := 0) (by omega) (by omega)).mpr hq0)
      (exfalso; omega)
    replace h27 := (nI_eq (a := 0) (b := 0) (by omega) (by omega)).mp h27
    refine lv_iconst (v := 2) hx hb dM_binary_30 (by decide) ?_
    refine lv_goto (tgt := 48) hx hb dM_binary_31 (by decide) ?_
    refine lv_iload_n hx hb dM_binary_48 rfl (lv_at hl 1 rfl) ?_
    refine lv_iload_n hx hb dM_binary_49 rfl (lv_at hl 2 rfl) ?_
    refine lv_iload_n hx hb dM_binary_50 rfl (lv_at hl 3 rfl) ?_
    refine dw_calli (wc := [(m0, .inr (5, [.int (ft), .int (nI (n)), .ref aMd, .ref aO1, .ref aT2, .int (rs), .ref aSh, .ref aMk, .ref aFa, .ref aDe, .ref aNe, .ref aBy, .ref aPi, .int (pd), .ref aNw, .ref aNs, .ref aBf, .int (rn), .int (rr)])), (aMd, .inl (cI, 24, .inl (fun w => nI (db_rk (K w))))), (aO1, .inl (cI, 24, .inl (db_one1 K X Nm))), (aT2, .inl (cI, 24, .inl (db_two2 K Y Nm)))]) (wr := []) hG [3, 0, 1, 2] [] rfl rfl (by decide) (by decide) (va_runV (As := [.int (2), .int (nI (op)), .int (nI (x)), .int (y)]) (rest := []) ⟨hx, hb, hml, hown, hts⟩ (rf_makeW2 l dC dI cI cZ m0 aMd aO1 aT2 aSh aMk aFa aDe aNe aBy aPi aNw aNs aBf n ft rs pd rn rr (fun w => nI (db_rk (K w))) (db_one1 K X Nm) (db_two2 K Y Nm) (nI (op)) (nI (x)) (y) H.size ) (dc_V 4 hts tw_561 tw_563 tp_M_make tw_7 tw_564 rfl rfl (by decide +kernel) ⟨Nat.le_of_ble_eq_true rfl, Nat.le_of_ble_eq_true rfl⟩) (dw_preV (ci := 5) hG [3, 0, 1, 2] [0, 1] rfl rfl (by decide) rfl rfl (q0 := 3) rfl) rfl rfl hl.1 rfl (lv_room (Nat.le_of_ble_eq_true rfl)) dM_binary_51 ⟨Nat.le_refl _, Nat.le_refl _⟩) (fun r u H locs hp hG => ?_)
    subst hp
    have hG : dw_G (dC, dI) vwCl [(cI, .int), (cZ, .boolean)] A s.heap s [(m0, .inr (5, [.int (2), .int (nI (n)), .ref aMd, .ref aO1, .ref aT2, .int (rs), .ref aSh, .ref aMk, .ref aFa, .ref aDe, .ref aNe, .ref aBy, .ref aPi, .int (pd), .ref aNw, .ref aNs, .ref aBf, .int (rn), .int (rr)])), (aMd, .inl (cI, 24, .inl (fun w => nI (db_rk (K w))))), (aO1, .inl (cI, 24, .inl (db_one1 K X Nm))), (aT2, .inl (cI, 24, .inl (db_two2 K Y Nm)))] H locs := hG
    subst hQ
    exact dw_iret hx hb hr hG (()) rfl rfl dM_binary_54 hlocks
  replace h7 : ¬ op ≤ 5 := fun hq0 => h7 ((nI_leI (a := op) (b := 5) (by omega) (by omega)).mpr hq0)
  (exfalso; omega)

set_option maxRecDepth 100000 in
set_option maxHeartbeats 4000000 in
theorem rf_binary_3 (l : Launch) (dC : Nat → ClassId) (dI : Nat → Nat → Nat) (cI cZ : ClassId) (m0 aMd aO1 aT2 aSh aMk aFa aDe aNe aBy aPi aNw aNs aBf n : Nat) (ft rs pd rn rr : Int32) (K X Y : Nat → Nat) (Nm : Nat → Int32) (op x y : Nat) (sz : Nat) (ho : op ≤ 5) (hx9 : x < n) (hy9 : y < n) (hn : n = 24) : Met l yM_binary wsM_binary { frames := 1, cells := 0, slots := 0, locals := 30 } (va_Pc [.ref m0, .int (nI (op)), .int (nI (x)), .int (nI (y))] (dw_pre (dC, dI) vwCl [(m0, .inr (5, [.int (ft), .int (nI (n)), .ref aMd, .ref aO1, .ref aT2, .int (rs), .ref aSh, .ref aMk, .ref aFa, .ref aDe, .ref aNe, .ref aBy, .ref aPi, .int (pd), .ref aNw, .ref aNs, .ref aBf, .int (rn), .int (rr)])), (aMd, .inl (cI, 24, .inl (fun w => nI (db_rk (K w))))), (aO1, .inl (cI, 24, .inl (db_one1 K X Nm))), (aT2, .inl (cI, 24, .inl (db_two2 K Y Nm)))] [(cI, .int), (cZ, .boolean)] sz)) (va_Qi (fun (r : Int32) (u : Unit) => r = 0) (fun u t => dw_post (dC, dI) vwCl [(m0, .inr (5, [.int (3), .int (nI (n)), .ref aMd, .ref aO1, .ref aT2, .int (rs), .ref aSh, .ref aMk, .ref aFa, .ref aDe, .ref aNe, .ref aBy, .ref aPi, .int (pd), .ref aNw, .ref aNs, .ref aBf, .int (rn), .int (rr)])), (aMd, .inl (cI, 24, .inl (fun w => nI (db_rk (K w))))), (aO1, .inl (cI, 24, .inl (db_one1 K X Nm))), (aT2, .inl (cI, 24, .inl (db_two2 K Y Nm)))] [(cI, .int), (cZ, .boolean)] (va_A [(m0, .inr (5, [.int (ft), .int (nI (n)), .ref aMd, .ref aO1, .ref aT2, .int (rs), .ref aSh, .ref aMk, .ref aFa, .ref aDe, .ref aNe, .ref aBy, .ref aPi, .int (pd), .ref aNw, .ref aNs, .ref aBf, .int (rn), .int (rr)])), (aMd, .inl (cI, 24, .inl (fun w => nI (db_rk (K w))))), (aO1, .inl (cI, 24, .inl (db_one1 K X Nm))), (aT2, .inl (cI, 24, .inl (db_two2 K Y Nm)))] sz) t) (va_A [(m0, .inr (5, [.int (ft), .int (nI (n)), .ref aMd, .ref aO1, .ref aT2, .int (rs), .ref aSh, .ref aMk, .ref aFa, .ref aDe, .ref aNe, .ref aBy, .ref aPi, .int (pd), .ref aNw, .ref aNs, .ref aBf, .int (rn), .int (rr)])), (aMd, .inl (cI, 24, .inl (fun w => nI (db_rk (K w))))), (aO1, .inl (cI, 24, .inl (db_one1 K X Nm))), (aT2, .inl (cI, 24, .inl (db_two2 K Y Nm)))] sz)) 0 0 (va_A [(m0, .inr (5, [.int (ft), .int (nI (n)), .ref aMd, .ref aO1, .ref aT2, .int (rs), .ref aSh, .ref aMk, .ref aFa, .ref aDe, .ref aNe, .ref aBy, .ref aPi, .int (pd), .ref aNw, .ref aNs, .ref aBf, .int (rn), .int (rr)])), (aMd, .inl (cI, 24, .inl (fun w => nI (db_rk (K w))))), (aO1, .inl (cI, 24, .inl (db_one1 K X Nm))), (aT2, .inl (cI, 24, .inl (db_two2 K Y Nm)))] sz) := by
  refine Met.ofW (cc := cM_binary) (maxL := 4) (ret := (some .int)) (by decide) rfl ?_
  intro p e s m args below meth c s₁ B hml hv0
  have hx := B.exec
  have hb := B.bytes
  have hr := B.returns
  have hts := atoms_spec (ws := wsM_binary) B.pre
  have hown : s.vm.findClass RM = some m.cls := findClass_of_methodNamed B.named
  have hlocks := B.notSynchronized
  obtain ⟨rfl, hsz, hG⟩ := dw_enter hv0
  generalize va_A [(m0, .inr (5, [.int (ft), .int (nI (n)), .ref aMd, .ref aO1, .ref aT2, .int (rs), .ref aSh, .ref aMk, .ref aFa, .ref aDe, .ref aNe, .ref aBy, .ref aPi, .int (pd), .ref aNw, .ref aNs, .ref aBf, .int (rn), .int (rr)])), (aMd, .inl (cI, 24, .inl (fun w => nI (db_rk (K w))))), (aO1, .inl (cI, 24, .inl (db_one1 K X Nm))), (aT2, .inl (cI, 24, .inl (db_two2 K Y Nm)))] sz = A at hG ⊢
  have hl := lv_entry ([.ref m0, .int (nI (op)), .int (nI (x)), .int (nI (y))]) (n := 4) (Nat.le_of_ble_eq_true rfl)
  rw [lg_entry_eq]
  generalize (lg_sl ([.ref m0, .int (nI (op)), .int (nI (x)), .int (nI (y))]) ++ List.replicate (4 - (lg_sl ([.ref m0, .int (nI (op)), .int (nI (x)), .int (nI (y))])).length) Slot.unset).toArray = ls at hl ⊢
  have hl : lv_has ls 4 [(0, .ref m0), (1, .int (nI (op))), (2, .int (nI (x))), (3, .int (nI (y)))] := hl
  have hw495 := hts _ (List.mem_cons_of_mem _ tw_495)
  refine dw_Q (fun Q hQ => ?_)
  suffices hgo : ∀ (H : Heap) (locs : List Loc), dw_G (dC, dI) vwCl [(cI, .int), (cZ, .boolean)] A s.heap s [(m0, .inr (5, [.int (ft), .int (nI (n)), .ref aMd, .ref aO1, .ref aT2, .int (rs), .ref aSh, .ref aMk, .ref aFa, .ref aDe, .ref aNe, .ref aBy, .ref aPi, .int (pd), .ref aNw, .ref aNs, .ref aBf, .int (rn), .int (rr)])), (aMd, .inl (cI, 24, .inl (fun w => nI (db_rk (K w))))), (aO1, .inl (cI, 24, .inl (db_one1 K X Nm))), (aT2, .inl (cI, 24, .inl (db_two2 K Y Nm)))] H locs → W p l e (headSpec wsM_binary { frames := 1, cells := 0, slots := 0, locals := 30 }).room s m [.ref m0, .int (nI (op)), .int (nI (x)), .int (nI (y))].toArray below meth c H locs 0 0 Q (F0 m 0 ls []) from hgo _ _ hG
  clear hG
  intro H locs hG
  refine lv_aload_n hx hb dM_binary_0 rfl (lv_at hl 0 rfl) ?_
  refine lv_iload_n hx hb dM_binary_1 rfl (lv_at hl 1 rfl) ?_
  refine lv_if_lt (tgt := 10) hx hb dM_binary_2 (by decide) (fun h2 => ?_) (fun h2 => ?_)
  · skip
    replace h2 := (nI_ltI (a := op) (b := 0) (by omega) (by omega)).mp h2
    (exfalso; omega)
  replace h2 : ¬ op < 0 := fun hq0 => h2 ((nI_ltI (a := op) (b := 0) (by omega) (by omega)).mpr hq0)
  refine lv_iload_n hx hb dM_binary_5 rfl (lv_at hl 1 rfl) ?_
  refine lv_iconst (v := 5) hx hb dM_binary_6 (by decide) ?_
  refine lv_icmp_le (tgt := 14) hx hb dM_binary_7 (by decide) (fun h7 => ?_) (fun h7 => ?_)
  · skip
    replace h7 := (nI_leI (a := op) (b := 5) (by omega) (by omega)).mp h7
    refine lv_aload_n hx hb dM_binary_14 rfl (lv_at hl 0 rfl) ?_
    refine lv_iload_n hx hb dM_binary_15 rfl (lv_at hl 2 rfl) ?_
    refine dw_calli (wc := [(m0, .inr (5, [.int (ft), .int (nI (n)), .ref aMd, .ref aO1, .ref aT2, .int (rs), .ref aSh, .ref aMk, .ref aFa, .ref aDe, .ref aNe, .ref aBy, .ref aPi, .int (pd), .ref aNw, .ref aNs, .ref aBf, .int (rn), .int (rr)]))]) (wr := [(aMd, .inl (cI, 24, .inl (fun w => nI (db_rk (K w))))), (aO1, .inl (cI, 24, .inl (db_one1 K X Nm))), (aT2, .inl (cI, 24, .inl (db_two2 K Y Nm)))]) hG [0] [1, 2, 3] rfl rfl (by decide) (by decide) (va_runV (As := [.int (nI (x))]) (rest := [.ref m0]) ⟨hx, hb, hml, hown, hts⟩ (rf_isValue l dC dI cI cZ m0 aMd aO1 aT2 aSh aMk aFa aDe aNe aBy aPi aNw aNs aBf ft (nI n) rs pd rn rr (nI (x)) H.size ) (dc_V 1 hts tw_573 tw_575 tp_M_isValue tw_7 tw_576 rfl rfl (by decide +kernel) ⟨Nat.le_of_ble_eq_true rfl, Nat.le_of_ble_eq_true rfl⟩) (dw_preV (ci := 5) hG [0] [0, 1] rfl rfl (by decide) rfl rfl (q0 := 0) rfl) rfl rfl hl.1 rfl (lv_room (Nat.le_of_ble_eq_true rfl)) dM_binary_16 ⟨Nat.le_refl _, Nat.le_refl _⟩) (fun r u H locs hp hG => ?_)
    subst hp
    have hG : dw_G (dC, dI) vwCl [(cI, .int), (cZ, .boolean)] A s.heap s [(aMd, .inl (cI, 24, .inl (fun w => nI (db_rk (K w))))), (aO1, .inl (cI, 24, .inl (db_one1 K X Nm))), (aT2, .inl (cI, 24, .inl (db_two2 K Y Nm))), (m0, .inr (5, [.int (ft), .int (nI (n)), .ref aMd, .ref aO1, .ref aT2, .int (rs), .ref aSh, .ref aMk, .ref aFa, .ref aDe, .ref aNe, .ref aBy, .ref aPi, .int (pd), .ref aNw, .ref aNs, .ref aBf, .int (rn), .int (rr)]))] H locs := hG
    refine lv_topi (nm_r (show (db_isv (nI (x)) (nI n) : Int32) = 1 from (db_isv_y (by omega) (by omega))) ?_)
    refine lv_if_eq (tgt := 30) hx hb dM_binary_19 (by decide) (fun h19 => ?_) (fun h19 => ?_)
    · skip
      replace h19 := (nI_eq (a := 1) (b := 0) (by omega) (by omega)).mp h19
      (exfalso; omega)
    replace h19 : ¬ 1 = 0 := fun hq0 => h19 ((nI_eq (a := 1) (b := 0) (by omega) (by omega)).mpr hq0)
    refine lv_aload_n hx hb dM_binary_22 rfl (lv_at hl 0 rfl) ?_
    refine lv_iload_n hx hb dM_binary_23 rfl (lv_at hl 3 rfl) ?_
    refine dw_calli (wc := [(m0, .inr (5, [.int (ft), .int (nI (n)), .ref aMd, .ref aO1, .ref aT2, .int (rs), .ref aSh, .ref aMk, .ref aFa, .ref aDe, .ref aNe, .ref aBy, .ref aPi, .int (pd), .ref aNw, .ref aNs, .ref aBf, .int (rn), .int (rr)]))]) (wr := [(aMd, .inl (cI, 24, .inl (fun w => nI (db_rk (K w))))), (aO1, .inl (cI, 24, .inl (db_one1 K X Nm))), (aT2, .inl (cI, 24, .inl (db_two2 K Y Nm)))]) hG [3] [0, 1, 2] rfl rfl (by decide) (by decide) (va_runV (As := [.int (nI (y))]) (rest := [.ref m0]) ⟨hx, hb, hml, hown, hts⟩ (rf_isValue l dC dI cI cZ m0 aMd aO1 aT2 aSh aMk aFa aDe aNe aBy aPi aNw aNs aBf ft (nI n) rs pd rn rr (nI (y)) H.size ) (dc_V 1 hts tw_573 tw_575 tp_M_isValue tw_7 tw_576 rfl rfl (by decide +kernel) ⟨Nat.le_of_ble_eq_true rfl, Nat.le_of_ble_eq_true rfl⟩) (dw_preV (ci := 5) hG [3] [0, 1] rfl rfl (by decide) rfl rfl (q0 := 3) rfl) rfl rfl hl.1 rfl (lv_room (Nat.le_of_ble_eq_true rfl)) dM_binary_24 ⟨Nat.le_refl _, Nat.le_refl _⟩) (fun r u H locs hp hG => ?_)
    subst hp
    have hG : dw_G (dC, dI) vwCl [(cI, .int), (cZ, .boolean)] A s.heap s [(aMd, .inl (cI, 24, .inl (fun w => nI (db_rk (K w))))), (aO1, .inl (cI, 24, .inl (db_one1 K X Nm))), (aT2, .inl (cI, 24, .inl (db_two2 K Y Nm))), (m0, .inr (5, [.int (ft), .int (nI (n)), .ref aMd, .ref aO1, .ref aT2, .int (rs), .ref aSh, .ref aMk, .ref aFa, .ref aDe, .ref aNe, .ref aBy, .ref aPi, .int (pd), .ref aNw, .ref aNs, .ref aBf, .int (rn), .int (rr)]))] H locs := hG
    refine lv_topi (nm_r (show (db_isv (nI (y)) (nI n) : Int32) = 1 from (db_isv_y (by omega) (by omega))) ?_)
    refine lv_if_ne (tgt := 34) hx hb dM_binary_27 (by decide) (fun h27 => ?_) (fun h27 => ?_)
    · skip
      replace h27 : ¬ 1 = 0 := fun hq0 => h27 ((nI_eq (a := 1) (b := 0) (by omega) (by omega)).mpr hq0)
      refine lv_aload_n hx hb dM_binary_34 rfl (lv_at hl 0 rfl) ?_
      refine dw_get hx hb hts inMc hown hG 3 1 rfl rfl (by decide) hw495 rfl rfl dM_binary_35 ?_
      refine lv_bipush (v := 24) hx hb dM_binary_38 (by decide) ?_
      refine lv_icmp_ne (tgt := 47) hx hb dM_binary_40 (by decide) (fun h40 => ?_) (fun h40 => ?_)
      · skip
        replace h40 : ¬ n = 24 := fun hq0 => h40 ((nI_eq (a := n) (b := 24) (by omega) (by omega)).mpr hq0)
        (exfalso; omega)
      replace h40 := (nI_eq (a := n) (b := 24) (by omega) (by omega)).mp h40
      refine lv_iconst (v := 3) hx hb dM_binary_43 (by decide) ?_
      refine lv_goto (tgt := 48) hx hb dM_binary_44 (by decide) ?_
      refine lv_iload_n hx hb dM_binary_48 rfl (lv_at hl 1 rfl) ?_
      refine lv_iload_n hx hb dM_binary_49 rfl (lv_at hl 2 rfl) ?_
      refine lv_iload_n hx hb dM_binary_50 rfl (lv_at hl 3 rfl) ?_
      refine dw_calli (wc := [(m0, .inr (5, [.int (ft), .int (nI (n)), .ref aMd, .ref aO1, .ref aT2, .int (rs), .ref aSh, .ref aMk, .ref aFa, .ref aDe, .ref aNe, .ref aBy, .ref aPi, .int (pd), .ref aNw, .ref aNs, .ref aBf, .int (rn), .int (rr)])), (aMd, .inl (cI, 24, .inl (fun w => nI (db_rk (K w))))), (aO1, .inl (cI, 24, .inl (db_one1 K X Nm))), (aT2, .inl (cI, 24, .inl (db_two2 K Y Nm)))]) (wr := []) hG [3, 0, 1, 2] [] rfl rfl (by decide) (by decide) (va_runV (As := [.int (3), .int (nI (op)), .int (nI (x)), .int (nI (y))]) (rest := []) ⟨hx, hb, hml, hown, hts⟩ (rf_makeW3 l dC dI cI cZ m0 aMd aO1 aT2 aSh aMk aFa aDe aNe aBy aPi aNw aNs aBf n ft rs pd rn rr (fun w => nI (db_rk (K w))) (db_one1 K X Nm) (db_two2 K Y Nm) (nI (op)) (nI (x)) (nI (y)) H.size ) (dc_V 4 hts tw_561 tw_563 tp_M_make tw_7 tw_564 rfl rfl (by decide +kernel) ⟨Nat.le_of_ble_eq_true rfl, Nat.le_of_ble_eq_true rfl⟩) (dw_preV (ci := 5) hG [3, 0, 1, 2] [0, 1] rfl rfl (by decide) rfl rfl (q0 := 3) rfl) rfl rfl hl.1 rfl (lv_room (Nat.le_of_ble_eq_true rfl)) dM_binary_51 ⟨Nat.le_refl _, Nat.le_refl _⟩) (fun r u H locs hp hG => ?_)
      subst hp
      have hG : dw_G (dC, dI) vwCl [(cI, .int), (cZ, .boolean)] A s.heap s [(m0, .inr (5, [.int (3), .int (nI (n)), .ref aMd, .ref aO1, .ref aT2, .int (rs), .ref aSh, .ref aMk, .ref aFa, .ref aDe, .ref aNe, .ref aBy, .ref aPi, .int (pd), .ref aNw, .ref aNs, .ref aBf, .int (rn), .int (rr)])), (aMd, .inl (cI, 24, .inl (fun w => nI (db_rk (K w))))), (aO1, .inl (cI, 24, .inl (db_one1 K X Nm))), (aT2, .inl (cI, 24, .inl (db_two2 K Y Nm)))] H locs := hG
      subst hQ
      exact dw_iret hx hb hr hG (()) rfl rfl dM_binary_54 hlocks
    replace h27 := (nI_eq (a := 1) (b := 0) (by omega) (by omega)).mp h27
    (exfalso; omega)
  replace h7 : ¬ op ≤ 5 := fun hq0 => h7 ((nI_leI (a := op) (b := 5) (by omega) (by omega)).mpr hq0)
  (exfalso; omega)

set_option maxRecDepth 100000 in
set_option maxHeartbeats 4000000 in
theorem rf_shift_0 (l : Launch) (dC : Nat → ClassId) (dI : Nat → Nat → Nat) (cI cZ : ClassId) (m0 aMd aO1 aT2 aSh aMk aFa aDe aNe aBy aPi aNw aNs aBf n : Nat) (ft rs pd rn rr : Int32) (K X Y : Nat → Nat) (Nm : Nat → Int32) (op x d : Nat) (sz : Nat) (ho : op ≤ 2) (hd : d ≤ 31) (hx9 : x < n) (hn : n < 24) : Met l yM_shift wsM_shift { frames := 1, cells := 0, slots := 0, locals := 30 } (va_Pc [.ref m0, .int (nI (op)), .int (nI (x)), .int (nI (d))] (dw_pre (dC, dI) vwCl [(m0, .inr (5, [.int (ft), .int (nI (n)), .ref aMd, .ref aO1, .ref aT2, .int (rs), .ref aSh, .ref aMk, .ref aFa, .ref aDe, .ref aNe, .ref aBy, .ref aPi, .int (pd), .ref aNw, .ref aNs, .ref aBf, .int (rn), .int (rr)])), (aMd, .inl (cI, 24, .inl (fun w => nI (db_rk (K w))))), (aO1, .inl (cI, 24, .inl (db_one1 K X Nm))), (aT2, .inl (cI, 24, .inl (db_two2 K Y Nm)))] [(cI, .int), (cZ, .boolean)] sz)) (va_Qi (fun (r : Int32) (u : Unit) => r = nI n) (fun u t => dw_post (dC, dI) vwCl [(m0, .inr (5, [.int (0), .int (nI (n + 1)), .ref aMd, .ref aO1, .ref aT2, .int (rs), .ref aSh, .ref aMk, .ref aFa, .ref aDe, .ref aNe, .ref aBy, .ref aPi, .int (pd), .ref aNw, .ref aNs, .ref aBf, .int (rn), .int (rr)])), (aMd, .inl (cI, 24, .inl (fun w => nI (db_rk ((db_upN K n (6 + op)) w))))), (aO1, .inl (cI, 24, .inl (db_one1 (db_upN K n (6 + op)) (db_upN X n x) (upd Nm n (nI d))))), (aT2, .inl (cI, 24, .inl (db_two2 (db_upN K n (6 + op)) (db_upN Y n 0) (upd Nm n (nI d)))))] [(cI, .int), (cZ, .boolean)] (va_A [(m0, .inr (5, [.int (ft), .int (nI (n)), .ref aMd, .ref aO1, .ref aT2, .int (rs), .ref aSh, .ref aMk, .ref aFa, .ref aDe, .ref aNe, .ref aBy, .ref aPi, .int (pd), .ref aNw, .ref aNs, .ref aBf, .int (rn), .int (rr)])), (aMd, .inl (cI, 24, .inl (fun w => nI (db_rk (K w))))), (aO1, .inl (cI, 24, .inl (db_one1 K X Nm))), (aT2, .inl (cI, 24, .inl (db_two2 K Y Nm)))] sz) t) (va_A [(m0, .inr (5, [.int (ft), .int (nI (n)), .ref aMd, .ref aO1, .ref aT2, .int (rs), .ref aSh, .ref aMk, .ref aFa, .ref aDe, .ref aNe, .ref aBy, .ref aPi, .int (pd), .ref aNw, .ref aNs, .ref aBf, .int (rn), .int (rr)])), (aMd, .inl (cI, 24, .inl (fun w => nI (db_rk (K w))))), (aO1, .inl (cI, 24, .inl (db_one1 K X Nm))), (aT2, .inl (cI, 24, .inl (db_two2 K Y Nm)))] sz)) 0 0 (va_A [(m0, .inr (5, [.int (ft), .int (nI (n)), .ref aMd, .ref aO1, .ref aT2, .int (rs), .ref aSh, .ref aMk, .ref aFa, .ref aDe, .ref aNe, .ref aBy, .ref aPi, .int (pd), .ref aNw, .ref aNs, .ref aBf, .int (rn), .int (rr)])), (aMd, .inl (cI, 24, .inl (fun w => nI (db_rk (K w))))), (aO1, .inl (cI, 24, .inl (db_one1 K X Nm))), (aT2, .inl (cI, 24, .inl (db_two2 K Y Nm)))] sz) := by
  refine Met.ofW (cc := cM_shift) (maxL := 5) (ret := (some .int)) (by decide) rfl ?_
  intro p e s m args below meth c s₁ B hml hv0
  have hx := B.exec
  have hb := B.bytes
  have hr := B.returns
  have hts := atoms_spec (ws := wsM_shift) B.pre
  have hown : s.vm.findClass RM = some m.cls := findClass_of_methodNamed B.named
  have hlocks := B.notSynchronized
  obtain ⟨rfl, hsz, hG⟩ := dw_enter hv0
  generalize va_A [(m0, .inr (5, [.int (ft), .int (nI (n)), .ref aMd, .ref aO1, .ref aT2, .int (rs), .ref aSh, .ref aMk, .ref aFa, .ref aDe, .ref aNe, .ref aBy, .ref aPi, .int (pd), .ref aNw, .ref aNs, .ref aBf, .int (rn), .int (rr)])), (aMd, .inl (cI, 24, .inl (fun w => nI (db_rk (K w))))), (aO1, .inl (cI, 24, .inl (db_one1 K X Nm))), (aT2, .inl (cI, 24, .inl (db_two2 K Y Nm)))] sz = A at hG ⊢
  have hl := lv_entry ([.ref m0, .int (nI (op)), .int (nI (x)), .int (nI (d))]) (n := 5) (Nat.le_of_ble_eq_true rfl)
  rw [lg_entry_eq]
  generalize (lg_sl ([.ref m0, .int (nI (op)), .int (nI (x)), .int (nI (d))]) ++ List.replicate (5 - (lg_sl ([.ref m0, .int (nI (op)), .int (nI (x)), .int (nI (d))])).length) Slot.unset).toArray = ls at hl ⊢
  have hl : lv_has ls 5 [(0, .ref m0), (1, .int (nI (op))), (2, .int (nI (x))), (3, .int (nI (d)))] := hl
  have hw495 := hts _ (List.mem_cons_of_mem _ tw_495)
  refine dw_Q (fun Q hQ => ?_)
  suffices hgo : ∀ (H : Heap) (locs : List Loc), dw_G (dC, dI) vwCl [(cI, .int), (cZ, .boolean)] A s.heap s [(m0, .inr (5, [.int (ft), .int (nI (n)), .ref aMd, .ref aO1, .ref aT2, .int (rs), .ref aSh, .ref aMk, .ref aFa, .ref aDe, .ref aNe, .ref aBy, .ref aPi, .int (pd), .ref aNw, .ref aNs, .ref aBf, .int (rn), .int (rr)])), (aMd, .inl (cI, 24, .inl (fun w => nI (db_rk (K w))))), (aO1, .inl (cI, 24, .inl (db_one1 K X Nm))), (aT2, .inl (cI, 24, .inl (db_two2 K Y Nm)))] H locs → W p l e (headSpec wsM_shift { frames := 1, cells := 0, slots := 0, locals := 30 }).room s m [.ref m0, .int (nI (op)), .int (nI (x)), .int (nI (d))].toArray below meth c H locs 0 0 Q (F0 m 0 ls []) from hgo _ _ hG
  clear hG
  intro H locs hG
  refine lv_iload_n hx hb dM_shift_0 rfl (lv_at hl 1 rfl) ?_
  refine lv_if_lt (tgt := 23) hx hb dM_shift_1 (by decide) (fun h1 => ?_) (fun h1 => ?_)
  · skip
    replace h1 := (nI_ltI (a := op) (b := 0) (by omega) (by omega)).mp h1
    (exfalso; omega)
  replace h1 : ¬ op < 0 := fun hq0 => h1 ((nI_ltI (a := op) (b := 0) (by omega) (by omega)).mpr hq0)
  refine lv_iload_n hx hb dM_shift_4 rfl (lv_at hl 1 rfl) ?_
  refine lv_iconst (v := 2) hx hb dM_shift_5 (by decide) ?_
  refine lv_icmp_gt (tgt := 23) hx hb dM_shift_6 (by decide) (fun h6 => ?_) (fun h6 => ?_)
  · skip
    replace h6 := (nI_ltI (a := 2) (b := op) (by omega) (by omega)).mp h6
    (exfalso; omega)
  replace h6 : ¬ 2 < op := fun hq0 => h6 ((nI_ltI (a := 2) (b := op) (by omega) (by omega)).mpr hq0)
  refine lv_iload_n hx hb dM_shift_9 rfl (lv_at hl 3 rfl) ?_
  refine lv_if_lt (tgt := 23) hx hb dM_shift_10 (by decide) (fun h10 => ?_) (fun h10 => ?_)
  · skip
    replace h10 := (nI_ltI (a := d) (b := 0) (by omega) (by omega)).mp h10
    (exfalso; omega)
  replace h10 : ¬ d < 0 := fun hq0 => h10 ((nI_ltI (a := d) (b := 0) (by omega) (by omega)).mpr hq0)
  refine lv_iload_n hx hb dM_shift_13 rfl (lv_at hl 3 rfl) ?_
  refine lv_bipush (v := 31) hx hb dM_shift_14 (by decide) ?_
  refine lv_icmp_gt (tgt := 23) hx hb dM_shift_16 (by decide) (fun h16 => ?_) (fun h16 => ?_)
  · skip
    replace h16 := (nI_ltI (a := 31) (b := d) (by omega) (by omega)).mp h16
    (exfalso; omega)
  replace h16 : ¬ 31 < d := fun hq0 => h16 ((nI_ltI (a := 31) (b := d) (by omega) (by omega)).mpr hq0)
  refine lv_iconst (v := 1) hx hb dM_shift_19 (by decide) ?_
  refine lv_goto (tgt := 24) hx hb dM_shift_20 (by decide) ?_
  refine lv_istore (lv' := [(4, .int (1)), (0, .ref m0), (1, .int (nI (op))), (2, .int (nI (x))), (3, .int (nI (d)))]) hx hb dM_shift_24 hl (by decide) rfl (fun ls hl => ?_)
  refine lv_aload_n hx hb dM_shift_26 rfl (lv_at hl 1 rfl) ?_
  refine lv_iload hx hb dM_shift_27 (lv_at hl 0 rfl) ?_
  refine lv_if_ne (tgt := 36) hx hb dM_shift_29 (by decide) (fun h29 => ?_) (fun h29 => ?_)
  · skip
    replace h29 : ¬ 1 = 0 := fun hq0 => h29 ((nI_eq (a := 1) (b := 0) (by omega) (by omega)).mpr hq0)
    refine lv_aload_n hx hb dM_shift_36 rfl (lv_at hl 1 rfl) ?_
    refine lv_iload_n hx hb dM_shift_37 rfl (lv_at hl 3 rfl) ?_
    refine dw_calli (wc := [(m0, .inr (5, [.int (ft), .int (nI (n)), .ref aMd, .ref aO1, .ref aT2, .int (rs), .ref aSh, .ref aMk, .ref aFa, .ref aDe, .ref aNe, .ref aBy, .ref aPi, .int (pd), .ref aNw, .ref aNs, .ref aBf, .int (rn), .int (rr)]))]) (wr := [(aMd, .inl (cI, 24, .inl (fun w => nI (db_rk (K w))))), (aO1, .inl (cI, 24, .inl (db_one1 K X Nm))), (aT2, .inl (cI, 24, .inl (db_two2 K Y Nm)))]) hG [0] [1, 2, 3] rfl rfl (by decide) (by decide) (va_runV (As := [.int (nI (x))]) (rest := [.ref m0]) ⟨hx, hb, hml, hown, hts⟩ (rf_isValue l dC dI cI cZ m0 aMd aO1 aT2 aSh aMk aFa aDe aNe aBy aPi aNw aNs aBf ft (nI n) rs pd rn rr (nI (x)) H.size ) (dc_V 1 hts tw_573 tw_575 tp_M_isValue tw_7 tw_576 rfl rfl (by decide +kernel) ⟨Nat.le_of_ble_eq_true rfl, Nat.le_of_ble_eq_true rfl⟩) (dw_preV (ci := 5) hG [0] [0, 1] rfl rfl (by decide) rfl rfl (q0 := 0) rfl) rfl rfl hl.1 rfl (lv_room (Nat.le_of_ble_eq_true rfl)) dM_shift_38 ⟨Nat.le_refl _, Nat.le_refl _⟩) (fun r u H locs hp hG => ?_)
    subst hp
    have hG : dw_G (dC, dI) vwCl [(cI, .int), (cZ, .boolean)] A s.heap s [(aMd, .inl (cI, 24, .inl (fun w => nI (db_rk (K w))))), (aO1, .inl (cI, 24, .inl (db_one1 K X Nm))), (aT2, .inl (cI, 24, .inl (db_two2 K Y Nm))), (m0, .inr (5, [.int (ft), .int (nI (n)), .ref aMd, .ref aO1, .ref aT2, .int (rs), .ref aSh, .ref aMk, .ref aFa, .ref aDe, .ref aNe, .ref aBy, .ref aPi, .int (pd), .ref aNw, .ref aNs, .ref aBf, .int (rn), .int (rr)]))] H locs := hG
    refine lv_topi (nm_r (show (db_isv (nI (x)) (nI n) : Int32) = 1 from (db_isv_y (by omega) (by omega))) ?_)
    refine lv_if_ne (tgt := 48) hx hb dM_shift_41 (by decide) (fun h41 => ?_) (fun h41 => ?_)
    · skip
      replace h41 : ¬ 1 = 0 := fun hq0 => h41 ((nI_eq (a := 1) (b := 0) (by omega) (by omega)).mpr hq0)
      refine lv_aload_n hx hb dM_shift_48 rfl (lv_at hl 1 rfl) ?_
      refine dw_get hx hb hts inMc hown hG 3 1 rfl rfl (by decide) hw495 rfl rfl dM_shift_49 ?_
      refine lv_bipush (v := 24) hx hb dM_shift_52 (by decide) ?_
      refine lv_icmp_ne (tgt := 61) hx hb dM_shift_54 (by decide) (fun h54 => ?_) (fun h54 => ?_)
      · skip
        replace h54 : ¬ n = 24 := fun hq0 => h54 ((nI_eq (a := n) (b := 24) (by omega) (by omega)).mpr hq0)
        refine lv_iconst (v := 0) hx hb dM_shift_61 (by decide) ?_
        refine lv_bipush (v := 6) hx hb dM_shift_62 (by decide) ?_
        refine lv_iload_n hx hb dM_shift_64 rfl (lv_at hl 2 rfl) ?_
        refine lv_iadd hx hb dM_shift_65 ?_
        refine lv_topi (nm_r (show ((6) + (nI (op)) : Int32) = nI (6 + op) from nI_add (6) (op)) ?_)
        refine lv_iload_n hx hb dM_shift_66 rfl (lv_at hl 3 rfl) ?_
        refine lv_iload_n hx hb dM_shift_67 rfl (lv_at hl 4 rfl) ?_
        refine dw_calli (wc := [(m0, .inr (5, [.int (ft), .int (nI (n)), .ref aMd, .ref aO1, .ref aT2, .int (rs), .ref aSh, .ref aMk, .ref aFa, .ref aDe, .ref aNe, .ref aBy, .ref aPi, .int (pd), .ref aNw, .ref aNs, .ref aBf, .int (rn), .int (rr)])), (aMd, .inl (cI, 24, .inl (fun w => nI (db_rk (K w))))), (aO1, .inl (cI, 24, .inl (db_one1 K X Nm))), (aT2, .inl (cI, 24, .inl (db_two2 K Y Nm)))]) (wr := []) hG [3, 0, 1, 2] [] rfl rfl (by decide) (by decide) (va_runV (As := [.int (0), .int (nI (6 + op)), .int (nI (x)), .int (nI (d))]) (rest := []) ⟨hx, hb, hml, hown, hts⟩ (rf_make0 l dC dI cI cZ m0 aMd aO1 aT2 aSh aMk aFa aDe aNe aBy aPi aNw aNs aBf n ft rs pd rn rr (fun w => nI (db_rk (K w))) (db_one1 K X Nm) (db_two2 K Y Nm) (nI (6 + op)) (nI (x)) (nI (d)) H.size (by omega)) (dc_V 4 hts tw_561 tw_563 tp_M_make tw_7 tw_564 rfl rfl (by decide +kernel) ⟨Nat.le_of_ble_eq_true rfl, Nat.le_of_ble_eq_true rfl⟩) (dw_preV (ci := 5) hG [3, 0, 1, 2] [0, 1] rfl rfl (by decide) rfl rfl (q0 := 3) rfl) rfl rfl hl.1 rfl (lv_room (Nat.le_of_ble_eq_true rfl)) dM_shift_68 ⟨Nat.le_refl _, Nat.le_refl _⟩) (fun r u H locs hp hG => ?_)
        subst hp
        have hG : dw_G (dC, dI) vwCl [(cI, .int), (cZ, .boolean)] A s.heap s [(m0, .inr (5, [.int (0), .int (nI (n + 1)), .ref aMd, .ref aO1, .ref aT2, .int (rs), .ref aSh, .ref aMk, .ref aFa, .ref aDe, .ref aNe, .ref aBy, .ref aPi, .int (pd), .ref aNw, .ref aNs, .ref aBf, .int (rn), .int (rr)])), (aMd, .inl (cI, 24, .inl (upd (fun w => nI (db_rk (K w))) n (nI (6 + op))))), (aO1, .inl (cI, 24, .inl (upd (db_one1 K X Nm) n (nI (x))))), (aT2, .inl (cI, 24, .inl (upd (db_two2 K Y Nm) n (nI (d)))))] H locs := hG
        subst hQ
        exact dw_iret hx hb hr hG (()) (by rw [db_md_up K n (6 + op) (nI (6 + op)) (by have q : ∀ k, k < 3 → nI (6 + k) = nI (db_rk (6 + k)) := (by decide); exact q op (by omega)), db_o1_up K X Nm n (6 + op) x (nI d) (nI (x)) (by rw [if_neg (by omega)]), db_t2_up K Y Nm n (6 + op) 0 (nI d) (nI (d)) (by rw [if_pos (by omega)])]) rfl dM_shift_71 hlocks
      replace h54 := (nI_eq (a := n) (b := 24) (by omega) (by omega)).mp h54
      (exfalso; omega)
    replace h41 := (nI_eq (a := 1) (b := 0) (by omega) (by omega)).mp h41
    (exfalso; omega)
  replace h29 := (nI_eq (a := 1) (b := 0) (by omega) (by omega)).mp h29
  (exfalso; omega)

set_option maxRecDepth 100000 in
set_option maxHeartbeats 4000000 in
theorem rf_shift_1 (l : Launch) (dC : Nat → ClassId) (dI : Nat → Nat → Nat) (cI cZ : ClassId) (m0 aMd aO1 aT2 aSh aMk aFa aDe aNe aBy aPi aNw aNs aBf n : Nat) (ft rs pd rn rr : Int32) (K X Y : Nat → Nat) (Nm : Nat → Int32) (op x d : Int32) (sz : Nat) (hn : n ≤ 24) (hbad : op < 0 ∨ 2 < op ∨ d < 0 ∨ 31 < d) : Met l yM_shift wsM_shift { frames := 1, cells := 0, slots := 0, locals := 30 } (va_Pc [.ref m0, .int (op), .int (x), .int (d)] (dw_pre (dC, dI) vwCl [(m0, .inr (5, [.int (ft), .int (nI (n)), .ref aMd, .ref aO1, .ref aT2, .int (rs), .ref aSh, .ref aMk, .ref aFa, .ref aDe, .ref aNe, .ref aBy, .ref aPi, .int (pd), .ref aNw, .ref aNs, .ref aBf, .int (rn), .int (rr)])), (aMd, .inl (cI, 24, .inl (fun w => nI (db_rk (K w))))), (aO1, .inl (cI, 24, .inl (db_one1 K X Nm))), (aT2, .inl (cI, 24, .inl (db_two2 K Y Nm)))] [(cI, .int), (cZ, .boolean)] sz)) (va_Qi (fun (r : Int32) (u : Unit) => r = 0) (fun u t => dw_post (dC, dI) vwCl [(m0, .inr (5, [.int (1), .int (nI (n)), .ref aMd, .ref aO1, .ref aT2, .int (rs), .ref aSh, .ref aMk, .ref aFa, .ref aDe, .ref aNe, .ref aBy, .ref aPi, .int (pd), .ref aNw, .ref aNs, .ref aBf, .int (rn), .int (rr)])), (aMd, .inl (cI, 24, .inl (fun w => nI (db_rk (K w))))), (aO1, .inl (cI, 24, .inl (db_one1 K X Nm))), (aT2, .inl (cI, 24, .inl (db_two2 K Y Nm)))] [(cI, .int), (cZ, .boolean)] (va_A [(m0, .inr (5, [.int (ft), .int (nI (n)), .ref aMd, .ref aO1, .ref aT2, .int (rs), .ref aSh, .ref aMk, .ref aFa, .ref aDe, .ref aNe, .ref aBy, .ref aPi, .int (pd), .ref aNw, .ref aNs, .ref aBf, .int (rn), .int (rr)])), (aMd, .inl (cI, 24, .inl (fun w => nI (db_rk (K w))))), (aO1, .inl (cI, 24, .inl (db_one1 K X Nm))), (aT2, .inl (cI, 24, .inl (db_two2 K Y Nm)))] sz) t) (va_A [(m0, .inr (5, [.int (ft), .int (nI (n)), .ref aMd, .ref aO1, .ref aT2, .int (rs), .ref aSh, .ref aMk, .ref aFa, .ref aDe, .ref aNe, .ref aBy, .ref aPi, .int (pd), .ref aNw, .ref aNs, .ref aBf, .int (rn), .int (rr)])), (aMd, .inl (cI, 24, .inl (fun w => nI (db_rk (K w))))), (aO1, .inl (cI, 24, .inl (db_one1 K X Nm))), (aT2, .inl (cI, 24, .inl (db_two2 K Y Nm)))] sz)) 0 0 (va_A [(m0, .inr (5, [.int (ft), .int (nI (n)), .ref aMd, .ref aO1, .ref aT2, .int (rs), .ref aSh, .ref aMk, .ref aFa, .ref aDe, .ref aNe, .ref aBy, .ref aPi, .int (pd), .ref aNw, .ref aNs, .ref aBf, .int (rn), .int (rr)])), (aMd, .inl (cI, 24, .inl (fun w => nI (db_rk (K w))))), (aO1, .inl (cI, 24, .inl (db_one1 K X Nm))), (aT2, .inl (cI, 24, .inl (db_two2 K Y Nm)))] sz) := by
  refine Met.ofW (cc := cM_shift) (maxL := 5) (ret := (some .int)) (by decide) rfl ?_
  intro p e s m args below meth c s₁ B hml hv0
  have hx := B.exec
  have hb := B.bytes
  have hr := B.returns
  have hts := atoms_spec (ws := wsM_shift) B.pre
  have hown : s.vm.findClass RM = some m.cls := findClass_of_methodNamed B.named
  have hlocks := B.notSynchronized
  obtain ⟨rfl, hsz, hG⟩ := dw_enter hv0
  generalize va_A [(m0, .inr (5, [.int (ft), .int (nI (n)), .ref aMd, .ref aO1, .ref aT2, .int (rs), .ref aSh, .ref aMk, .ref aFa, .ref aDe, .ref aNe, .ref aBy, .ref aPi, .int (pd), .ref aNw, .ref aNs, .ref aBf, .int (rn), .int (rr)])), (aMd, .inl (cI, 24, .inl (fun w => nI (db_rk (K w))))), (aO1, .inl (cI, 24, .inl (db_one1 K X Nm))), (aT2, .inl (cI, 24, .inl (db_two2 K Y Nm)))] sz = A at hG ⊢
  have hl := lv_entry ([.ref m0, .int (op), .int (x), .int (d)]) (n := 5) (Nat.le_of_ble_eq_true rfl)
  rw [lg_entry_eq]
  generalize (lg_sl ([.ref m0, .int (op), .int (x), .int (d)]) ++ List.replicate (5 - (lg_sl ([.ref m0, .int (op), .int (x), .int (d)])).length) Slot.unset).toArray = ls at hl ⊢
  have hl : lv_has ls 5 [(0, .ref m0), (1, .int (op)), (2, .int (x)), (3, .int (d))] := hl
  refine dw_Q (fun Q hQ => ?_)
  suffices hgo : ∀ (H : Heap) (locs : List Loc), dw_G (dC, dI) vwCl [(cI, .int), (cZ, .boolean)] A s.heap s [(m0, .inr (5, [.int (ft), .int (nI (n)), .ref aMd, .ref aO1, .ref aT2, .int (rs), .ref aSh, .ref aMk, .ref aFa, .ref aDe, .ref aNe, .ref aBy, .ref aPi, .int (pd), .ref aNw, .ref aNs, .ref aBf, .int (rn), .int (rr)])), (aMd, .inl (cI, 24, .inl (fun w => nI (db_rk (K w))))), (aO1, .inl (cI, 24, .inl (db_one1 K X Nm))), (aT2, .inl (cI, 24, .inl (db_two2 K Y Nm)))] H locs → W p l e (headSpec wsM_shift { frames := 1, cells := 0, slots := 0, locals := 30 }).room s m [.ref m0, .int (op), .int (x), .int (d)].toArray below meth c H locs 0 0 Q (F0 m 0 ls []) from hgo _ _ hG
  clear hG
  intro H locs hG
  refine lv_iload_n hx hb dM_shift_0 rfl (lv_at hl 1 rfl) ?_
  refine lv_if_lt (tgt := 23) hx hb dM_shift_1 (by decide) (fun h1 => ?_) (fun h1 => ?_)
  · skip
    refine lv_iconst (v := 0) hx hb dM_shift_23 (by decide) ?_
    refine lv_istore (lv' := [(4, .int (0)), (0, .ref m0), (1, .int (op)), (2, .int (x)), (3, .int (d))]) hx hb dM_shift_24 hl (by decide) rfl (fun ls hl => ?_)
    refine lv_aload_n hx hb dM_shift_26 rfl (lv_at hl 1 rfl) ?_
    refine lv_iload hx hb dM_shift_27 (lv_at hl 0 rfl) ?_
    refine lv_if_ne (tgt := 36) hx hb dM_shift_29 (by decide) (fun h29 => ?_) (fun h29 => ?_)
    · skip
      replace h29 : ¬ 0 = 0 := fun hq0 => h29 ((nI_eq (a := 0) (b := 0) (by omega) (by omega)).mpr hq0)
      (exfalso; omega)
    replace h29 := (nI_eq (a := 0) (b := 0) (by omega) (by omega)).mp h29
    refine lv_iconst (v := 1) hx hb dM_shift_32 (by decide) ?_
    refine lv_goto (tgt := 62) hx hb dM_shift_33 (by decide) ?_
    refine lv_bipush (v := 6) hx hb dM_shift_62 (by decide) ?_
    refine lv_iload_n hx hb dM_shift_64 rfl (lv_at hl 2 rfl) ?_
    refine lv_iadd hx hb dM_shift_65 ?_
    refine lv_iload_n hx hb dM_shift_66 rfl (lv_at hl 3 rfl) ?_
    refine lv_iload_n hx hb dM_shift_67 rfl (lv_at hl 4 rfl) ?_
    refine dw_calli (wc := [(m0, .inr (5, [.int (ft), .int (nI (n)), .ref aMd, .ref aO1, .ref aT2, .int (rs), .ref aSh, .ref aMk, .ref aFa, .ref aDe, .ref aNe, .ref aBy, .ref aPi, .int (pd), .ref aNw, .ref aNs, .ref aBf, .int (rn), .int (rr)])), (aMd, .inl (cI, 24, .inl (fun w => nI (db_rk (K w))))), (aO1, .inl (cI, 24, .inl (db_one1 K X Nm))), (aT2, .inl (cI, 24, .inl (db_two2 K Y Nm)))]) (wr := []) hG [0, 1, 2, 3] [] rfl rfl (by decide) (by decide) (va_runV (As := [.int (1), .int ((6) + (op)), .int (x), .int (d)]) (rest := []) ⟨hx, hb, hml, hown, hts⟩ (rf_makeW1 l dC dI cI cZ m0 aMd aO1 aT2 aSh aMk aFa aDe aNe aBy aPi aNw aNs aBf n ft rs pd rn rr (fun w => nI (db_rk (K w))) (db_one1 K X Nm) (db_two2 K Y Nm) ((6) + (op)) (x) (d) H.size ) (dc_V 4 hts tw_561 tw_563 tp_M_make tw_7 tw_564 rfl rfl (by decide +kernel) ⟨Nat.le_of_ble_eq_true rfl, Nat.le_of_ble_eq_true rfl⟩) (dw_preV (ci := 5) hG [0, 1, 2, 3] [0, 1] rfl rfl (by decide) rfl rfl (q0 := 0) rfl) rfl rfl hl.1 rfl (lv_room (Nat.le_of_ble_eq_true rfl)) dM_shift_68 ⟨Nat.le_refl _, Nat.le_refl _⟩) (fun r u H locs hp hG => ?_)
    subst hp
    have hG : dw_G (dC, dI) vwCl [(cI, .int), (cZ, .boolean)] A s.heap s [(m0, .inr (5, [.int (1), .int (nI (n)), .ref aMd, .ref aO1, .ref aT2, .int (rs), .ref aSh, .ref aMk, .ref aFa, .ref aDe, .ref aNe, .ref aBy, .ref aPi, .int (pd), .ref aNw, .ref aNs, .ref aBf, .int (rn), .int (rr)])), (aMd, .inl (cI, 24, .inl (fun w => nI (db_rk (K w))))), (aO1, .inl (cI, 24, .inl (db_one1 K X Nm))), (aT2, .inl (cI, 24, .inl (db_two2 K Y Nm)))] H locs := hG
    subst hQ
    exact dw_iret hx hb hr hG (()) rfl rfl dM_shift_71 hlocks
  refine lv_iload_n hx hb dM_shift_4 rfl (lv_at hl 1 rfl) ?_
  refine lv_iconst (v := 2) hx hb dM_shift_5 (by decide) ?_
  refine lv_icmp_gt (tgt := 23) hx hb dM_shift_6 (by decide) (fun h6 => ?_) (fun h6 => ?_)
  · skip
    refine lv_iconst (v := 0) hx hb dM_shift_23 (by decide) ?_
    refine lv_istore (lv' := [(4, .int (0)), (0, .ref m0), (1, .int (op)), (2, .int (x)), (3, .int (d))]) hx hb dM_shift_24 hl (by decide) rfl (fun ls hl => ?_)
    refine lv_aload_n hx hb dM_shift_26 rfl (lv_at hl 1 rfl) ?_
    refine lv_iload hx hb dM_shift_27 (lv_at hl 0 rfl) ?_
    refine lv_if_ne (tgt := 36) hx hb dM_shift_29 (by decide) (fun h29 => ?_) (fun h29 => ?_)
    · skip
      replace h29 : ¬ 0 = 0 := fun hq0 => h29 ((nI_eq (a := 0) (b := 0) (by omega) (by omega)).mpr hq0)
      (exfalso; omega)
    replace h29 := (nI_eq (a := 0) (b := 0) (by omega) (by omega)).mp h29
    refine lv_iconst (v := 1) hx hb dM_shift_32 (by decide) ?_
    refine lv_goto (tgt := 62) hx hb dM_shift_33 (by decide) ?_
    refine lv_bipush (v := 6) hx hb dM_shift_62 (by decide) ?_
    refine lv_iload_n hx hb dM_shift_64 rfl (lv_at hl 2 rfl) ?_
    refine lv_iadd hx hb dM_shift_65 ?_
    refine lv_iload_n hx hb dM_shift_66 rfl (lv_at hl 3 rfl) ?_
    refine lv_iload_n hx hb dM_shift_67 rfl (lv_at hl 4 rfl) ?_
    refine dw_calli (wc := [(m0, .inr (5, [.int (ft), .int (nI (n)), .ref aMd, .ref aO1, .ref aT2, .int (rs), .ref aSh, .ref aMk, .ref aFa, .ref aDe, .ref aNe, .ref aBy, .ref aPi, .int (pd), .ref aNw, .ref aNs, .ref aBf, .int (rn), .int (rr)])), (aMd, .inl (cI, 24, .inl (fun w => nI (db_rk (K w))))), (aO1, .inl (cI, 24, .inl (db_one1 K X Nm))), (aT2, .inl (cI, 24, .inl (db_two2 K Y Nm)))]) (wr := []) hG [0, 1, 2, 3] [] rfl rfl (by decide) (by decide) (va_runV (As := [.int (1), .int ((6) + (op)), .int (x), .int (d)]) (rest := []) ⟨hx, hb, hml, hown, hts⟩ (rf_makeW1 l dC dI cI cZ m0 aMd aO1 aT2 aSh aMk aFa aDe aNe aBy aPi aNw aNs aBf n ft rs pd rn rr (fun w => nI (db_rk (K w))) (db_one1 K X Nm) (db_two2 K Y Nm) ((6) + (op)) (x) (d) H.size ) (dc_V 4 hts tw_561 tw_563 tp_M_make tw_7 tw_564 rfl rfl (by decide +kernel) ⟨Nat.le_of_ble_eq_true rfl, Nat.le_of_ble_eq_true rfl⟩) (dw_preV (ci := 5) hG [0, 1, 2, 3] [0, 1] rfl rfl (by decide) rfl rfl (q0 := 0) rfl) rfl rfl hl.1 rfl (lv_room (Nat.le_of_ble_eq_true rfl)) dM_shift_68 ⟨Nat.le_refl _, Nat.le_refl _⟩) (fun r u H locs hp hG => ?_)
    subst hp
    have hG : dw_G (dC, dI) vwCl [(cI, .int), (cZ, .boolean)] A s.heap s [(m0, .inr (5, [.int (1), .int (nI (n)), .ref aMd, .ref aO1, .ref aT2, .int (rs), .ref aSh, .ref aMk, .ref aFa, .ref aDe, .ref aNe, .ref aBy, .ref aPi, .int (pd), .ref aNw, .ref aNs, .ref aBf, .int (rn), .int (rr)])), (aMd, .inl (cI, 24, .inl (fun w => nI (db_rk (K w))))), (aO1, .inl (cI, 24, .inl (db_one1 K X Nm))), (aT2, .inl (cI, 24, .inl (db_two2 K Y Nm)))] H locs := hG
    subst hQ
    exact dw_iret hx hb hr hG (()) rfl rfl dM_shift_71 hlocks
  refine lv_iload_n hx hb dM_shift_9 rfl (lv_at hl 3 rfl) ?_
  refine lv_if_lt (tgt := 23) hx hb dM_shift_10 (by decide) (fun h10 => ?_) (fun h10 => ?_)
  · skip
    refine lv_iconst (v := 0) hx hb dM_shift_23 (by decide) ?_
    refine lv_istore (lv' := [(4, .int (0)), (0, .ref m0), (1, .int (op)), (2, .int (x)), (3, .int (d))]) hx hb dM_shift_24 hl (by decide) rfl (fun ls hl => ?_)
    refine lv_aload_n hx hb dM_shift_26 rfl (lv_at hl 1 rfl) ?_
    refine lv_iload hx hb dM_shift_27 (lv_at hl 0 rfl) ?_
    refine lv_if_ne (tgt := 36) hx hb dM_shift_29 (by decide) (fun h29 => ?_) (fun h29 => ?_)
    · skip
      replace h29 : ¬ 0 = 0 := fun hq0 => h29 ((nI_eq (a := 0) (b := 0) (by omega) (by omega)).mpr hq0)
      (exfalso; omega)
    replace h29 := (nI_eq (a := 0) (b := 0) (by omega) (by omega)).mp h29
    refine lv_iconst (v := 1) hx hb dM_shift_32 (by decide) ?_
    refine lv_goto (tgt := 62) hx hb dM_shift_33 (by decide) ?_
    refine lv_bipush (v := 6) hx hb dM_shift_62 (by decide) ?_
    refine lv_iload_n hx hb dM_shift_64 rfl (lv_at hl 2 rfl) ?_
    refine lv_iadd hx hb dM_shift_65 ?_
    refine lv_iload_n hx hb dM_shift_66 rfl (lv_at hl 3 rfl) ?_
    refine lv_iload_n hx hb dM_shift_67 rfl (lv_at hl 4 rfl) ?_
    refine dw_calli (wc := [(m0, .inr (5, [.int (ft), .int (nI (n)), .ref aMd, .ref aO1, .ref aT2, .int (rs), .ref aSh, .ref aMk, .ref aFa, .ref aDe, .ref aNe, .ref aBy, .ref aPi, .int (pd), .ref aNw, .ref aNs, .ref aBf, .int (rn), .int (rr)])), (aMd, .inl (cI, 24, .inl (fun w => nI (db_rk (K w))))), (aO1, .inl (cI, 24, .inl (db_one1 K X Nm))), (aT2, .inl (cI, 24, .inl (db_two2 K Y Nm)))]) (wr := []) hG [0, 1, 2, 3] [] rfl rfl (by decide) (by decide) (va_runV (As := [.int (1), .int ((6) + (op)), .int (x), .int (d)]) (rest := []) ⟨hx, hb, hml, hown, hts⟩ (rf_makeW1 l dC dI cI cZ m0 aMd aO1 aT2 aSh aMk aFa aDe aNe aBy aPi aNw aNs aBf n ft rs pd rn rr (fun w => nI (db_rk (K w))) (db_one1 K X Nm) (db_two2 K Y Nm) ((6) + (op)) (x) (d) H.size ) (dc_V 4 hts tw_561 tw_563 tp_M_make tw_7 tw_564 rfl rfl (by decide +kernel) ⟨Nat.le_of_ble_eq_true rfl, Nat.le_of_ble_eq_true rfl⟩) (dw_preV (ci := 5) hG [0, 1, 2, 3] [0, 1] rfl rfl (by decide) rfl rfl (q0 := 0) rfl) rfl rfl hl.1 rfl (lv_room (Nat.le_of_ble_eq_true rfl)) dM_shift_68 ⟨Nat.le_refl _, Nat.le_refl _⟩) (fun r u H locs hp hG => ?_)
    subst hp
    have hG : dw_G (dC, dI) vwCl [(cI, .int), (cZ, .boolean)] A s.heap s [(m0, .inr (5, [.int (1), .int (nI (n)), .ref aMd, .ref aO1, .ref aT2, .int (rs), .ref aSh, .ref aMk, .ref aFa, .ref aDe, .ref aNe, .ref aBy, .ref aPi, .int (pd), .ref aNw, .ref aNs, .ref aBf, .int (rn), .int (rr)])), (aMd, .inl (cI, 24, .inl (fun w => nI (db_rk (K w))))), (aO1, .inl (cI, 24, .inl (db_one1 K X Nm))), (aT2, .inl (cI, 24, .inl (db_two2 K Y Nm)))] H locs := hG
    subst hQ
    exact dw_iret hx hb hr hG (()) rfl rfl dM_shift_71 hlocks
  refine lv_iload_n hx hb dM_shift_13 rfl (lv_at hl 3 rfl) ?_
  refine lv_bipush (v := 31) hx hb dM_shift_14 (by decide) ?_
  refine lv_icmp_gt (tgt := 23) hx hb dM_shift_16 (by decide) (fun h16 => ?_) (fun h16 => ?_)
  · skip
    refine lv_iconst (v := 0) hx hb dM_shift_23 (by decide) ?_
    refine lv_istore (lv' := [(4, .int (0)), (0, .ref m0), (1, .int (op)), (2, .int (x)), (3, .int (d))]) hx hb dM_shift_24 hl (by decide) rfl (fun ls hl => ?_)
    refine lv_aload_n hx hb dM_shift_26 rfl (lv_at hl 1 rfl) ?_
    refine lv_iload hx hb dM_shift_27 (lv_at hl 0 rfl) ?_
    refine lv_if_ne (tgt := 36) hx hb dM_shift_29 (by decide) (fun h29 => ?_) (fun h29 => ?_)
    · skip
      replace h29 : ¬ 0 = 0 := fun hq0 => h29 ((nI_eq (a := 0) (b := 0) (by omega) (by omega)).mpr hq0)
      (exfalso; omega)
    replace h29 := (nI_eq (a := 0) (b := 0) (by omega) (by omega)).mp h29
    refine lv_iconst (v := 1) hx hb dM_shift_32 (by decide) ?_
    refine lv_goto (tgt := 62) hx hb dM_shift_33 (by decide) ?_
    refine lv_bipush (v := 6) hx hb dM_shift_62 (by decide) ?_
    refine lv_iload_n hx hb dM_shift_64 rfl (lv_at hl 2 rfl) ?_
    refine lv_iadd hx hb dM_shift_65 ?_
    refine lv_iload_n hx hb dM_shift_66 rfl (lv_at hl 3 rfl) ?_
    refine lv_iload_n hx hb dM_shift_67 rfl (lv_at hl 4 rfl) ?_
    refine dw_calli (wc := [(m0, .inr (5, [.int (ft), .int (nI (n)), .ref aMd, .ref aO1, .ref aT2, .int (rs), .ref aSh, .ref aMk, .ref aFa, .ref aDe, .ref aNe, .ref aBy, .ref aPi, .int (pd), .ref aNw, .ref aNs, .ref aBf, .int (rn), .int (rr)])), (aMd, .inl (cI, 24, .inl (fun w => nI (db_rk (K w))))), (aO1, .inl (cI, 24, .inl (db_one1 K X Nm))), (aT2, .inl (cI, 24, .inl (db_two2 K Y Nm)))]) (wr := []) hG [0, 1, 2, 3] [] rfl rfl (by decide) (by decide) (va_runV (As := [.int (1), .int ((6) + (op)), .int (x), .int (d)]) (rest := []) ⟨hx, hb, hml, hown, hts⟩ (rf_makeW1 l dC dI cI cZ m0 aMd aO1 aT2 aSh aMk aFa aDe aNe aBy aPi aNw aNs aBf n ft rs pd rn rr (fun w => nI (db_rk (K w))) (db_one1 K X Nm) (db_two2 K Y Nm) ((6) + (op)) (x) (d) H.size ) (dc_V 4 hts tw_561 tw_563 tp_M_make tw_7 tw_564 rfl rfl (by decide +kernel) ⟨Nat.le_of_ble_eq_true rfl, Nat.le_of_ble_eq_true rfl⟩) (dw_preV (ci := 5) hG [0, 1, 2, 3] [0, 1] rfl rfl (by decide) rfl rfl (q0 := 0) rfl) rfl rfl hl.1 rfl (lv_room (Nat.le_of_ble_eq_true rfl)) dM_shift_68 ⟨Nat.le_refl _, Nat.le_refl _⟩) (fun r u H locs hp hG => ?_)
    subst hp
    have hG : dw_G (dC, dI) vwCl [(cI, .int), (cZ, .boolean)] A s.heap s [(m0, .inr (5, [.int (1), .int (nI (n)), .ref aMd, .ref aO1, .ref aT2, .int (rs), .ref aSh, .ref aMk, .ref aFa, .ref aDe, .ref aNe, .ref aBy, .ref aPi, .int (pd), .ref aNw, .ref aNs, .ref aBf, .int (rn), .int (rr)])), (aMd, .inl (cI, 24, .inl (fun w => nI (db_rk (K w))))), (aO1, .inl (cI, 24, .inl (db_one1 K X Nm))), (aT2, .inl (cI, 24, .inl (db_two2 K Y Nm)))] H locs := hG
    subst hQ
    exact dw_iret hx hb hr hG (()) rfl rfl dM_shift_71 hlocks
  exact absurd hbad (fun q => q.elim h1 (fun q => q.elim h6 (fun q => q.elim h10 h16)))

set_option maxRecDepth 100000 in
set_option maxHeartbeats 4000000 in
theorem rf_shift_2 (l : Launch) (dC : Nat → ClassId) (dI : Nat → Nat → Nat) (cI cZ : ClassId) (m0 aMd aO1 aT2 aSh aMk aFa aDe aNe aBy aPi aNw aNs aBf n : Nat) (ft rs pd rn rr : Int32) (K X Y : Nat → Nat) (Nm : Nat → Int32) (op d : Nat) (x : Int32) (sz : Nat) (ho : op ≤ 2) (hd : d ≤ 31) (hn : n ≤ 24) (hinv : db_isv x (nI n) = 0) : Met l yM_shift wsM_shift { frames := 1, cells := 0, slots := 0, locals := 30 } (va_Pc [.ref m0, .int (nI (op)), .int (x), .int (nI (d))] (dw_pre (dC, dI) vwCl [(m0, .inr (5, [.int (ft), .int (nI (n)), .ref aMd, .ref aO1, .ref aT2, .int (rs), .ref aSh, .ref aMk, .ref aFa, .ref aDe, .ref aNe, .ref aBy, .ref aPi, .int (pd), .ref aNw, .ref aNs, .ref aBf, .int (rn), .int (rr)])), (aMd, .inl (cI, 24, .inl (fun w => nI (db_rk (K w))))), (aO1, .inl (cI, 24, .inl (db_one1 K X Nm))), (aT2, .inl (cI, 24, .inl (db_two2 K Y Nm)))] [(cI, .int), (cZ, .boolean)] sz)) (va_Qi (fun (r : Int32) (u : Unit) => r = 0) (fun u t => dw_post (dC, dI) vwCl [(m0, .inr (5, [.int (2), .int (nI (n)), .ref aMd, .ref aO1, .ref aT2, .int (rs), .ref aSh, .ref aMk, .ref aFa, .ref aDe, .ref aNe, .ref aBy, .ref aPi, .int (pd), .ref aNw, .ref aNs, .ref aBf, .int (rn), .int (rr)])), (aMd, .inl (cI, 24, .inl (fun w => nI (db_rk (K w))))), (aO1, .inl (cI, 24, .inl (db_one1 K X Nm))), (aT2, .inl (cI, 24, .inl (db_two2 K Y Nm)))] [(cI, .int), (cZ, .boolean)] (va_A [(m0, .inr (5, [.int (ft), .int (nI (n)), .ref aMd, .ref aO1, .ref aT2, .int (rs), .ref aSh, .ref aMk, .ref aFa, .ref aDe, .ref aNe, .ref aBy, .ref aPi, .int (pd), .ref aNw, .ref aNs, .ref aBf, .int (rn), .int (rr)])), (aMd, .inl (cI, 24, .inl (fun w => nI (db_rk (K w))))), (aO1, .inl (cI, 24, .inl (db_one1 K X Nm))), (aT2, .inl (cI, 24, .inl (db_two2 K Y Nm)))] sz) t) (va_A [(m0, .inr (5, [.int (ft), .int (nI (n)), .ref aMd, .ref aO1, .ref aT2, .int (rs), .ref aSh, .ref aMk, .ref aFa, .ref aDe, .ref aNe, .ref aBy, .ref aPi, .int (pd), .ref aNw, .ref aNs, .ref aBf, .int (rn), .int (rr)])), (aMd, .inl (cI, 24, .inl (fun w => nI (db_rk (K w))))), (aO1, .inl (cI, 24, .inl (db_one1 K X Nm))), (aT2, .inl (cI, 24, .inl (db_two2 K Y Nm)))] sz)) 0 0 (va_A [(m0, .inr (5, [.int (ft), .int (nI (n)), .ref aMd, .ref aO1, .ref aT2, .int (rs), .ref aSh, .ref aMk, .ref aFa, .ref aDe, .ref aNe, .ref aBy, .ref aPi, .int (pd), .ref aNw, .ref aNs, .ref aBf, .int (rn), .int (rr)])), (aMd, .inl (cI, 24, .inl (fun w => nI (db_rk (K w))))), (aO1, .inl (cI, 24, .inl (db_one1 K X Nm))), (aT2, .inl (cI, 24, .inl (db_two2 K Y Nm)))] sz) := by
  refine Met.ofW (cc := cM_shift) (maxL := 5) (ret := (some .int)) (by decide) rfl ?_
  intro p e s m args below meth c s₁ B hml hv0
  have hx := B.exec
  have hb := B.bytes
  have hr := B.returns
  have hts := atoms_spec (ws := wsM_shift) B.pre
  have hown : s.vm.findClass RM = some m.cls := findClass_of_methodNamed B.named
  have hlocks := B.notSynchronized
  obtain ⟨rfl, hsz, hG⟩ := dw_enter hv0
  generalize va_A [(m0, .inr (5, [.int (ft), .int (nI (n)), .ref aMd, .ref aO1, .ref aT2, .int (rs), .ref aSh, .ref aMk, .ref aFa, .ref aDe, .ref aNe, .ref aBy, .ref aPi, .int (pd), .ref aNw, .ref aNs, .ref aBf, .int (rn), .int (rr)])), (aMd, .inl (cI, 24, .inl (fun w => nI (db_rk (K w))))), (aO1, .inl (cI, 24, .inl (db_one1 K X Nm))), (aT2, .inl (cI, 24, .inl (db_two2 K Y Nm)))] sz = A at hG ⊢
  have hl := lv_entry ([.ref m0, .int (nI (op)), .int (x), .int (nI (d))]) (n := 5) (Nat.le_of_ble_eq_true rfl)
  rw [lg_entry_eq]
  generalize (lg_sl ([.ref m0, .int (nI (op)), .int (x), .int (nI (d))]) ++ List.replicate (5 - (lg_sl ([.ref m0, .int (nI (op)), .int (x), .int (nI (d))])).length) Slot.unset).toArray = ls at hl ⊢
  have hl : lv_has ls 5 [(0, .ref m0), (1, .int (nI (op))), (2, .int (x)), (3, .int (nI (d)))] := hl
  refine dw_Q (fun Q hQ => ?_)
  suffices hgo : ∀ (H : Heap) (locs : List Loc), dw_G (dC, dI) vwCl [(cI, .int), (cZ, .boolean)] A s.heap s [(m0, .inr (5, [.int (ft), .int (nI (n)), .ref aMd, .ref aO1, .ref aT2, .int (rs), .ref aSh, .ref aMk, .ref aFa, .ref aDe, .ref aNe, .ref aBy, .ref aPi, .int (pd), .ref aNw, .ref aNs, .ref aBf, .int (rn), .int (rr)])), (aMd, .inl (cI, 24, .inl (fun w => nI (db_rk (K w))))), (aO1, .inl (cI, 24, .inl (db_one1 K X Nm))), (aT2, .inl (cI, 24, .inl (db_two2 K Y Nm)))] H locs → W p l e (headSpec wsM_shift { frames := 1, cells := 0, slots := 0, locals := 30 }).room s m [.ref m0, .int (nI (op)), .int (x), .int (nI (d))].toArray below meth c H locs 0 0 Q (F0 m 0 ls []) from hgo _ _ hG
  clear hG
  intro H locs hG
  refine lv_iload_n hx hb dM_shift_0 rfl (lv_at hl 1 rfl) ?_
  refine lv_if_lt (tgt := 23) hx hb dM_shift_1 (by decide) (fun h1 => ?_) (fun h1 => ?_)
  · skip
    replace h1 := (nI_ltI (a := op) (b := 0) (by omega) (by omega)).mp h1
    (exfalso; omega)
  replace h1 : ¬ op < 0 := fun hq0 => h1 ((nI_ltI (a := op) (b := 0) (by omega) (by omega)).mpr hq0)
  refine lv_iload_n hx hb dM_shift_4 rfl (lv_at hl 1 rfl) ?_
  refine lv_iconst (v := 2) hx hb dM_shift_5 (by decide) ?_
  refine lv_icmp_gt (tgt := 23) hx hb dM_shift_6 (by decide) (fun h6 => ?_) (fun h6 => ?_)
  · skip
    replace h6 := (nI_ltI (a := 2) (b := op) (by omega) (by omega)).mp h6
    (exfalso; omega)
  replace h6 : ¬ 2 < op := fun hq0 => h6 ((nI_ltI (a := 2) (b := op) (by omega) (by omega)).mpr hq0)
  refine lv_iload_n hx hb dM_shift_9 rfl (lv_at hl 3 rfl) ?_
  refine lv_if_lt (tgt := 23) hx hb dM_shift_10 (by decide) (fun h10 => ?_) (fun h10 => ?_)
  · skip
    replace h10 := (nI_ltI (a := d) (b := 0) (by omega) (by omega)).mp h10
    (exfalso; omega)
  replace h10 : ¬ d < 0 := fun hq0 => h10 ((nI_ltI (a := d) (b := 0) (by omega) (by omega)).mpr hq0)
  refine lv_iload_n hx hb dM_shift_13 rfl (lv_at hl 3 rfl) ?_
  refine lv_bipush (v := 31) hx hb dM_shift_14 (by decide) ?_
  refine lv_icmp_gt (tgt := 23) hx hb dM_shift_16 (by decide) (fun h16 => ?_) (fun h16 => ?_)
  · skip
    replace h16 := (nI_ltI (a := 31) (b := d) (by omega) (by omega)).mp h16
    (exfalso; omega)
  replace h16 : ¬ 31 < d := fun hq0 => h16 ((nI_ltI (a := 31) (b := d) (by omega) (by omega)).mpr hq0)
  refine lv_iconst (v := 1) hx hb dM_shift_19 (by decide) ?_
  refine lv_goto (tgt := 24) hx hb dM_shift_20 (by decide) ?_
  refine lv_istore (lv' := [(4, .int (1)), (0, .ref m0), (1, .int (nI (op))), (2, .int (x)), (3, .int (nI (d)))]) hx hb dM_shift_24 hl (by decide) rfl (fun ls hl => ?_)
  refine lv_aload_n hx hb dM_shift_26 rfl (lv_at hl 1 rfl) ?_
  refine lv_iload hx hb dM_shift_27 (lv_at hl 0 rfl) ?_
  refine lv_if_ne (tgt := 36) hx hb dM_shift_29 (by decide) (fun h29 => ?_) (fun h29 => ?_)
  · skip
    replace h29 : ¬ 1 = 0 := fun hq0 => h29 ((nI_eq (a := 1) (b := 0) (by omega) (by omega)).mpr hq0)
    refine lv_aload_n hx hb dM_shift_36 rfl (lv_at hl 1 rfl) ?_
    refine lv_iload_n hx hb dM_shift_37 rfl (lv_at hl 3 rfl) ?_
    refine dw_calli (wc := [(m0, .inr (5, [.int (ft), .int (nI (n)), .ref aMd, .ref aO1, .ref aT2, .int (rs), .ref aSh, .ref aMk, .ref aFa, .ref aDe, .ref aNe, .ref aBy, .ref aPi, .int (pd), .ref aNw, .ref aNs, .ref aBf, .int (rn), .int (rr)]))]) (wr := [(aMd, .inl (cI, 24, .inl (fun w => nI (db_rk (K w))))), (aO1, .inl (cI, 24, .inl (db_one1 K X Nm))), (aT2, .inl (cI, 24, .inl (db_two2 K Y Nm)))]) hG [0] [1, 2, 3] rfl rfl (by decide) (by decide) (va_runV (As := [.int (x)]) (rest := [.ref m0]) ⟨hx, hb, hml, hown, hts⟩ (rf_isValue l dC dI cI cZ m0 aMd aO1 aT2 aSh aMk aFa aDe aNe aBy aPi aNw aNs aBf ft (nI n) rs pd rn rr (x) H.size ) (dc_V 1 hts tw_573 tw_575 tp_M_isValue tw_7 tw_576 rfl rfl (by decide +kernel) ⟨Nat.le_of_ble_eq_true rfl, Nat.le_of_ble_eq_true rfl⟩) (dw_preV (ci := 5) hG [0] [0, 1] rfl rfl (by decide) rfl rfl (q0 := 0) rfl) rfl rfl hl.1 rfl (lv_room (Nat.le_of_ble_eq_true rfl)) dM_shift_38 ⟨Nat.le_refl _, Nat.le_refl _⟩) (fun r u H locs hp hG => ?_)
    subst hp
    have hG : dw_G (dC, dI) vwCl [(cI, .int), (cZ, .boolean)] A s.heap s [(aMd, .inl (cI, 24, .inl (fun w => nI (db_rk (K w))))), (aO1, .inl (cI, 24, .inl (db_one1 K X Nm))), (aT2, .inl (cI, 24, .inl (db_two2 K Y Nm))), (m0, .inr (5, [.int (ft), .int (nI (n)), .ref aMd, .ref aO1, .ref aT2, .int (rs), .ref aSh, .ref aMk, .ref aFa, .ref aDe, .ref aNe, .ref aBy, .ref aPi, .int (pd), .ref aNw, .ref aNs, .ref aBf, .int (rn), .int (rr)]))] H locs := hG
    refine lv_topi (nm_r (show (db_isv (x) (nI n) : Int32) = 0 from hinv) ?_)
    refine lv_if_ne (tgt := 48) hx hb dM_shift_41 (by decide) (fun h41 => ?_) (fun h41 => ?_)
    · skip
      replace h41 : ¬ 0 = 0 := fun hq0 => h41 ((nI_eq (a := 0) (b := 0) (by omega) (by omega)).mpr hq0)
      (exfalso; omega)
    replace h41 := (nI_eq (a := 0) (b := 0) (by omega) (by omega)).mp h41
    refine lv_iconst (v := 2) hx hb dM_shift_44 (by decide) ?_
    refine lv_goto (tgt := 62) hx hb dM_shift_45 (by decide) ?_
    refine lv_bipush (v := 6) hx hb dM_shift_62 (by decide) ?_
    refine lv_iload_n hx hb dM_shift_64 rfl (lv_at hl 2 rfl) ?_
    refine lv_iadd hx hb dM_shift_65 ?_
    refine lv_topi (nm_r (show ((6) + (nI (op)) : Int32) = nI (6 + op) from nI_add (6) (op)) ?_)
    refine lv_iload_n hx hb dM_shift_66 rfl (lv_at hl 3 rfl) ?_
    refine lv_iload_n hx hb dM_shift_67 rfl (lv_at hl 4 rfl) ?_
    refine dw_calli (wc := [(m0, .inr (5, [.int (ft), .int (nI (n)), .ref aMd, .ref aO1, .ref aT2, .int (rs), .ref aSh, .ref aMk, .ref aFa, .ref aDe, .ref aNe, .ref aBy, .ref aPi, .int (pd), .ref aNw, .ref aNs, .ref aBf, .int (rn), .int (rr)])), (aMd, .inl (cI, 24, .inl (fun w => nI (db_rk (K w))))), (aO1, .inl (cI, 24, .inl (db_one1 K X Nm))), (aT2, .inl (cI, 24, .inl (db_two2 K Y Nm)))]) (wr := []) hG [3, 0, 1, 2] [] rfl rfl (by decide) (by decide) (va_runV (As := [.int (2), .int (nI (6 + op)), .int (x), .int (nI (d))]) (rest := []) ⟨hx, hb, hml, hown, hts⟩ (rf_makeW2 l dC dI cI cZ m0 aMd aO1 aT2 aSh aMk aFa aDe aNe aBy aPi aNw aNs aBf n ft rs pd rn rr (fun w => nI (db_rk (K w))) (db_one1 K X Nm) (db_two2 K Y Nm) (nI (6 + op)) (x) (nI (d)) H.size ) (dc_V 4 hts tw_561 tw_563 tp_M_make tw_7 tw_564 rfl rfl (by decide +kernel) ⟨Nat.le_of_ble_eq_true rfl, Nat.le_of_ble_eq_true rfl⟩) (dw_preV (ci := 5) hG [3, 0, 1, 2] [0, 1] rfl rfl (by decide) rfl rfl (q0 := 3) rfl) rfl rfl hl.1 rfl (lv_room (Nat.le_of_ble_eq_true rfl)) dM_shift_68 ⟨Nat.le_refl _, Nat.le_refl _⟩) (fun r u H locs hp hG => ?_)
    subst hp
    have hG : dw_G (dC, dI) vwCl [(cI, .int), (cZ, .boolean)] A s.heap s [(m0, .inr (5, [.int (2), .int (nI (n)), .ref aMd, .ref aO1, .ref aT2, .int (rs), .ref aSh, .ref aMk, .ref aFa, .ref aDe, .ref aNe, .ref aBy, .ref aPi, .int (pd), .ref aNw, .ref aNs, .ref aBf, .int (rn), .int (rr)])), (aMd, .inl (cI, 24, .inl (fun w => nI (db_rk (K w))))), (aO1, .inl (cI, 24, .inl (db_one1 K X Nm))), (aT2, .inl (cI, 24, .inl (db_two2 K Y Nm)))] H locs := hG
    subst hQ
    exact dw_iret hx hb hr hG (()) rfl rfl dM_shift_71 hlocks
  replace h29 := (nI_eq (a := 1) (b := 0) (by omega) (by omega)).mp h29
  (exfalso; omega)

set_option maxRecDepth 100000 in
set_option maxHeartbeats 4000000 in
theorem rf_shift_3 (l : Launch) (dC : Nat → ClassId) (dI : Nat → Nat → Nat) (cI cZ : ClassId) (m0 aMd aO1 aT2 aSh aMk aFa aDe aNe aBy aPi aNw aNs aBf n : Nat) (ft rs pd rn rr : Int32) (K X Y : Nat → Nat) (Nm : Nat → Int32) (op x d : Nat) (sz : Nat) (ho : op ≤ 2) (hd : d ≤ 31) (hx9 : x < n) (hn : n = 24) : Met l yM_shift wsM_shift { frames := 1, cells := 0, slots := 0, locals := 30 } (va_Pc [.ref m0, .int (nI (op)), .int (nI (x)), .int (nI (d))] (dw_pre (dC, dI) vwCl [(m0, .inr (5, [.int (ft), .int (nI (n)), .ref aMd, .ref aO1, .ref aT2, .int (rs), .ref aSh, .ref aMk, .ref aFa, .ref aDe, .ref aNe, .ref aBy, .ref aPi, .int (pd), .ref aNw, .ref aNs, .ref aBf, .int (rn), .int (rr)])), (aMd, .inl (cI, 24, .inl (fun w => nI (db_rk (K w))))), (aO1, .inl (cI, 24, .inl (db_one1 K X Nm))), (aT2, .inl (cI, 24, .inl (db_two2 K Y Nm)))] [(cI, .int), (cZ, .boolean)] sz)) (va_Qi (fun (r : Int32) (u : Unit) => r = 0) (fun u t => dw_post (dC, dI) vwCl [(m0, .inr (5, [.int (3), .int (nI (n)), .ref aMd, .ref aO1, .ref aT2, .int (rs), .ref aSh, .ref aMk, .ref aFa, .ref aDe, .ref aNe, .ref aBy, .ref aPi, .int (pd), .ref aNw, .ref aNs, .ref aBf, .int (rn), .int (rr)])), (aMd, .inl (cI, 24, .inl (fun w => nI (db_rk (K w))))), (aO1, .inl (cI, 24, .inl (db_one1 K X Nm))), (aT2, .inl (cI, 24, .inl (db_two2 K Y Nm)))] [(cI, .int), (cZ, .boolean)] (va_A [(m0, .inr (5, [.int (ft), .int (nI (n)), .ref aMd, .ref aO1, .ref aT2, .int (rs), .ref aSh, .ref aMk, .ref aFa, .ref aDe, .ref aNe, .ref aBy, .ref aPi, .int (pd), .ref aNw, .ref aNs, .ref aBf, .int (rn), .int (rr)])), (aMd, .inl (cI, 24, .inl (fun w => nI (db_rk (K w))))), (aO1, .inl (cI, 24, .inl (db_one1 K X Nm))), (aT2, .inl (cI, 24, .inl (db_two2 K Y Nm)))] sz) t) (va_A [(m0, .inr (5, [.int (ft), .int (nI (n)), .ref aMd, .ref aO1, .ref aT2, .int (rs), .ref aSh, .ref aMk, .ref aFa, .ref aDe, .ref aNe, .ref aBy, .ref aPi, .int (pd), .ref aNw, .ref aNs, .ref aBf, .int (rn), .int (rr)])), (aMd, .inl (cI, 24, .inl (fun w => nI (db_rk (K w))))), (aO1, .inl (cI, 24, .inl (db_one1 K X Nm))), (aT2, .inl (cI, 24, .inl (db_two2 K Y Nm)))] sz)) 0 0 (va_A [(m0, .inr (5, [.int (ft), .int (nI (n)), .ref aMd, .ref aO1, .ref aT2, .int (rs), .ref aSh, .ref aMk, .ref aFa, .ref aDe, .ref aNe, .ref aBy, .ref aPi, .int (pd), .ref aNw, .ref aNs, .ref aBf, .int (rn), .int (rr)])), (aMd, .inl (cI, 24, .inl (fun w => nI (db_rk (K w))))), (aO1, .inl (cI, 24, .inl (db_one1 K X Nm))), (aT2, .inl (cI, 24, .inl (db_two2 K Y Nm)))] sz) := by
  refine Met.ofW (cc := cM_shift) (maxL := 5) (ret := (some .int)) (by decide) rfl ?_
  intro p e s m args below meth c s₁ B hml hv0
  have hx := B.exec
  have hb := B.bytes
  have hr := B.returns
  have hts := atoms_spec (ws := wsM_shift) B.pre
  have hown : s.vm.findClass RM = some m.cls := findClass_of_methodNamed B.named
  have hlocks := B.notSynchronized
  obtain ⟨rfl, hsz, hG⟩ := dw_enter hv0
  generalize va_A [(m0, .inr (5, [.int (ft), .int (nI (n)), .ref aMd, .ref aO1, .ref aT2, .int (rs), .ref aSh, .ref aMk, .ref aFa, .ref aDe, .ref aNe, .ref aBy, .ref aPi, .int (pd), .ref aNw, .ref aNs, .ref aBf, .int (rn), .int (rr)])), (aMd, .inl (cI, 24, .inl (fun w => nI (db_rk (K w))))), (aO1, .inl (cI, 24, .inl (db_one1 K X Nm))), (aT2, .inl (cI, 24, .inl (db_two2 K Y Nm)))] sz = A at hG ⊢
  have hl := lv_entry ([.ref m0, .int (nI (op)), .int (nI (x)), .int (nI (d))]) (n := 5) (Nat.le_of_ble_eq_true rfl)
  rw [lg_entry_eq]
  generalize (lg_sl ([.ref m0, .int (nI (op)), .int (nI (x)), .int (nI (d))]) ++ List.replicate (5 - (lg_sl ([.ref m0, .int (nI (op)), .int (nI (x)), .int (nI (d))])).length) Slot.unset).toArray = ls at hl ⊢
  have hl : lv_has ls 5 [(0, .ref m0), (1, .int (nI (op))), (2, .int (nI (x))), (3, .int (nI (d)))] := hl
  have hw495 := hts _ (List.mem_cons_of_mem _ tw_495)
  refine dw_Q (fun Q hQ => ?_)
  suffices hgo : ∀ (H : Heap) (locs : List Loc), dw_G (dC, dI) vwCl [(cI, .int), (cZ, .boolean)] A s.heap s [(m0, .inr (5, [.int (ft), .int (nI (n)), .ref aMd, .ref aO1, .ref aT2, .int (rs), .ref aSh, .ref aMk, .ref aFa, .ref aDe, .ref aNe, .ref aBy, .ref aPi, .int (pd), .ref aNw, .ref aNs, .ref aBf, .int (rn), .int (rr)])), (aMd, .inl (cI, 24, .inl (fun w => nI (db_rk (K w))))), (aO1, .inl (cI, 24, .inl (db_one1 K X Nm))), (aT2, .inl (cI, 24, .inl (db_two2 K Y Nm)))] H locs → W p l e (headSpec wsM_shift { frames := 1, cells := 0, slots := 0, locals := 30 }).room s m [.ref m0, .int (nI (op)), .int (nI (x)), .int (nI (d))].toArray below meth c H locs 0 0 Q (F0 m 0 ls []) from hgo _ _ hG
  clear hG
  intro H locs hG
  refine lv_iload_n hx hb dM_shift_0 rfl (lv_at hl 1 rfl) ?_
  refine lv_if_lt (tgt := 23) hx hb dM_shift_1 (by decide) (fun h1 => ?_) (fun h1 => ?_)
  · skip
    replace h1 := (nI_ltI (a := op) (b := 0) (by omega) (by omega)).mp h1
    (exfalso; omega)
  replace h1 : ¬ op < 0 := fun hq0 => h1 ((nI_ltI (a := op) (b := 0) (by omega) (by omega)).mpr hq0)
  refine lv_iload_n hx hb dM_shift_4 rfl (lv_at hl 1 rfl) ?_
  refine lv_iconst (v := 2) hx hb dM_shift_5 (by decide) ?_
  refine lv_icmp_gt (tgt := 23) hx hb dM_shift_6 (by decide) (fun h6 => ?_) (fun h6 => ?_)
  · skip
    replace h6 := (nI_ltI (a := 2) (b := op) (by omega) (by omega)).mp h6
    (exfalso; omega)
  replace h6 : ¬ 2 < op := fun hq0 => h6 ((nI_ltI (a := 2) (b := op) (by omega) (by omega)).mpr hq0)
  refine lv_iload_n hx hb dM_shift_9 rfl (lv_at hl 3 rfl) ?_
  refine lv_if_lt (tgt := 23) hx hb dM_shift_10 (by decide) (fun h10 => ?_) (fun h10 => ?_)
  · skip
    replace h10 := (nI_ltI (a := d) (b := 0) (by omega) (by omega)).mp h10
    (exfalso; omega)
  replace h10 : ¬ d < 0 := fun hq0 => h10 ((nI_ltI (a := d) (b := 0) (by omega) (by omega)).mpr hq0)
  refine lv_iload_n hx hb dM_shift_13 rfl (lv_at hl 3 rfl) ?_
  refine lv_bipush (v := 31) hx hb dM_shift_14 (by decide) ?_
  refine lv_icmp_gt (tgt := 23) hx hb dM_shift_16 (by decide) (fun h16 => ?_) (fun h16 => ?_)
  · skip
    replace h16 := (nI_ltI (a := 31) (b := d) (by omega) (by omega)).mp h16
    (exfalso; omega)
  replace h16 : ¬ 31 < d := fun hq0 => h16 ((nI_ltI (a := 31) (b := d) (by omega) (by omega)).mpr hq0)
  refine lv_iconst (v := 1) hx hb dM_shift_19 (by decide) ?_
  refine lv_goto (tgt := 24) hx hb dM_shift_20 (by decide) ?_
  refine lv_istore (lv' := [(4, .int (1)), (0, .ref m0), (1, .int (nI (op))), (2, .int (nI (x))), (3, .int (nI (d)))]) hx hb dM_shift_24 hl (by decide) rfl (fun ls hl => ?_)
  refine lv_aload_n hx hb dM_shift_26 rfl (lv_at hl 1 rfl) ?_
  refine lv_iload hx hb dM_shift_27 (lv_at hl 0 rfl) ?_
  refine lv_if_ne (tgt := 36) hx hb dM_shift_29 (by decide) (fun h29 => ?_) (fun h29 => ?_)
  · skip
    replace h29 : ¬ 1 = 0 := fun hq0 => h29 ((nI_eq (a := 1) (b := 0) (by omega) (by omega)).mpr hq0)
    refine lv_aload_n hx hb dM_shift_36 rfl (lv_at hl 1 rfl) ?_
    refine lv_iload_n hx hb dM_shift_37 rfl (lv_at hl 3 rfl) ?_
    refine dw_calli (wc := [(m0, .inr (5, [.int (ft), .int (nI (n)), .ref aMd, .ref aO1, .ref aT2, .int (rs), .ref aSh, .ref aMk, .ref aFa, .ref aDe, .ref aNe, .ref aBy, .ref aPi, .int (pd), .ref aNw, .ref aNs, .ref aBf, .int (rn), .int (rr)]))]) (wr := [(aMd, .inl (cI, 24, .inl (fun w => nI (db_rk (K w))))), (aO1, .inl (cI, 24, .inl (db_one1 K X Nm))), (aT2, .inl (cI, 24, .inl (db_two2 K Y Nm)))]) hG [0] [1, 2, 3] rfl rfl (by decide) (by decide) (va_runV (As := [.int (nI (x))]) (rest := [.ref m0]) ⟨hx, hb, hml, hown, hts⟩ (rf_isValue l dC dI cI cZ m0 aMd aO1 aT2 aSh aMk aFa aDe aNe aBy aPi aNw aNs aBf ft (nI n) rs pd rn rr (nI (x)) H.size ) (dc_V 1 hts tw_573 tw_575 tp_M_isValue tw_7 tw_576 rfl rfl (by decide +kernel) ⟨Nat.le_of_ble_eq_true rfl, Nat.le_of_ble_eq_true rfl⟩) (dw_preV (ci := 5) hG [0] [0, 1] rfl rfl (by decide) rfl rfl (q0 := 0) rfl) rfl rfl hl.1 rfl (lv_room (Nat.le_of_ble_eq_true rfl)) dM_shift_38 ⟨Nat.le_refl _, Nat.le_refl _⟩) (fun r u H locs hp hG => ?_)
    subst hp
    have hG : dw_G (dC, dI) vwCl [(cI, .int), (cZ, .boolean)] A s.heap s [(aMd, .inl (cI, 24, .inl (fun w => nI (db_rk (K w))))), (aO1, .inl (cI, 24, .inl (db_one1 K X Nm))), (aT2, .inl (cI, 24, .inl (db_two2 K Y Nm))), (m0, .inr (5, [.int (ft), .int (nI (n)), .ref aMd, .ref aO1, .ref aT2, .int (rs), .ref aSh, .ref aMk, .ref aFa, .ref aDe, .ref aNe, .ref aBy, .ref aPi, .int (pd), .ref aNw, .ref aNs, .ref aBf, .int (rn), .int (rr)]))] H locs := hG
    refine lv_topi (nm_r (show (db_isv (nI (x)) (nI n) : Int32) = 1 from (db_isv_y (by omega) (by omega))) ?_)
    refine lv_if_ne (tgt := 48) hx hb dM_shift_41 (by decide) (fun h41 => ?_) (fun h41 => ?_)
    · skip
      replace h41 : ¬ 1 = 0 := fun hq0 => h41 ((nI_eq (a := 1) (b := 0) (by omega) (by omega)).mpr hq0)
      refine lv_aload_n hx hb dM_shift_48 rfl (lv_at hl 1 rfl) ?_
      refine dw_get hx hb hts inMc hown hG 3 1 rfl rfl (by decide) hw495 rfl rfl dM_shift_49 ?_
      refine lv_bipush (v := 24) hx hb dM_shift_52 (by decide) ?_
      refine lv_icmp_ne (tgt := 61) hx hb dM_shift_54 (by decide) (fun h54 => ?_) (fun h54 => ?_)
      · skip
        replace h54 : ¬ n = 24 := fun hq0 => h54 ((nI_eq (a := n) (b := 24) (by omega) (by omega)).mpr hq0)
        (exfalso; omega)
      replace h54 := (nI_eq (a := n) (b := 24) (by omega) (by omega)).mp h54
      refine lv_iconst (v := 3) hx hb dM_shift_57 (by decide) ?_
      refine lv_goto (tgt := 62) hx hb dM_shift_58 (by decide) ?_
      refine lv_bipush (v := 6) hx hb dM_shift_62 (by decide) ?_
      refine lv_iload_n hx hb dM_shift_64 rfl (lv_at hl 2 rfl) ?_
      refine lv_iadd hx hb dM_shift_65 ?_
      refine lv_topi (nm_r (show ((6) + (nI (op)) : Int32) = nI (6 + op) from nI_add (6) (op)) ?_)
      refine lv_iload_n hx hb dM_shift_66 rfl (lv_at hl 3 rfl) ?_
      refine lv_iload_n hx hb dM_shift_67 rfl (lv_at hl 4 rfl) ?_
      refine dw_calli (wc := [(m0, .inr (5, [.int (ft), .int (nI (n)), .ref aMd, .ref aO1, .ref aT2, .int (rs), .ref aSh, .ref aMk, .ref aFa, .ref aDe, .ref aNe, .ref aBy, .ref aPi, .int (pd), .ref aNw, .ref aNs, .ref aBf, .int (rn), .int (rr)])), (aMd, .inl (cI, 24, .inl (fun w => nI (db_rk (K w))))), (aO1, .inl (cI, 24, .inl (db_one1 K X Nm))), (aT2, .inl (cI, 24, .inl (db_two2 K Y Nm)))]) (wr := []) hG [3, 0, 1, 2] [] rfl rfl (by decide) (by decide) (va_runV (As := [.int (3), .int (nI (6 + op)), .int (nI (x)), .int (nI (d))]) (rest := []) ⟨hx, hb, hml, hown, hts⟩ (rf_makeW3 l dC dI cI cZ m0 aMd aO1 aT2 aSh aMk aFa aDe aNe aBy aPi aNw aNs aBf n ft rs pd rn rr (fun w => nI (db_rk (K w))) (db_one1 K X Nm) (db_two2 K Y Nm) (nI (6 + op)) (nI (x)) (nI (d)) H.size ) (dc_V 4 hts tw_561 tw_563 tp_M_make tw_7 tw_564 rfl rfl (by decide +kernel) ⟨Nat.le_of_ble_eq_true rfl, Nat.le_of_ble_eq_true rfl⟩) (dw_preV (ci := 5) hG [3, 0, 1, 2] [0, 1] rfl rfl (by decide) rfl rfl (q0 := 3) rfl) rfl rfl hl.1 rfl (lv_room (Nat.le_of_ble_eq_true rfl)) dM_shift_68 ⟨Nat.le_refl _, Nat.le_refl _⟩) (fun r u H locs hp hG => ?_)
      subst hp
      have hG : dw_G (dC, dI) vwCl [(cI, .int), (cZ, .boolean)] A s.heap s [(m0, .inr (5, [.int (3), .int (nI (n)), .ref aMd, .ref aO1, .ref aT2, .int (rs), .ref aSh, .ref aMk, .ref aFa, .ref aDe, .ref aNe, .ref aBy, .ref aPi, .int (pd), .ref aNw, .ref aNs, .ref aBf, .int (rn), .int (rr)])), (aMd, .inl (cI, 24, .inl (fun w => nI (db_rk (K w))))), (aO1, .inl (cI, 24, .inl (db_one1 K X Nm))), (aT2, .inl (cI, 24, .inl (db_two2 K Y Nm)))] H locs := hG
      subst hQ
      exact dw_iret hx hb hr hG (()) rfl rfl dM_shift_71 hlocks
    replace h41 := (nI_eq (a := 1) (b := 0) (by omega) (by omega)).mp h41
    (exfalso; omega)
  replace h29 := (nI_eq (a := 1) (b := 0) (by omega) (by omega)).mp h29
  (exfalso; omega)

