set_option maxRecDepth 100000 in
set_option maxHeartbeats 4000000 in
theorem rf_bits_00 (l : Launch) (dC : Nat → ClassId) (dI : Nat → Nat → Nat) (cI cZ : ClassId) (m0 aMd aO1 aT2 aSh aMk aFa aDe aNe aBy aPi aNw aNs aBf n R : Nat) (ft rn rr pd : Int32) (K X Y : Nat → Nat) (Nm : Nat → Int32) (RV : Nat → Nat) (Ms : Nat → Int32) (Fa De Ne By Pi : Nat → Int32) (v : Nat) (sz : Nat) (hn : n ≤ 24) (hR : R ≤ 4) (hwf : db_wf n K X Y Nm) (hRV : ∀ r, r < R → RV r < n) (hv : v < n) : Met l yM_bits wsM_bits { frames := 5, cells := 0, slots := 0, locals := 180 } (va_Pc [.ref m0, .int (nI (v)), .int (0)] (dw_pre (dC, dI) vwCl [(m0, .inr (5, [.int (ft), .int (nI (n)), .ref aMd, .ref aO1, .ref aT2, .int (nI (R)), .ref aSh, .ref aMk, .ref aFa, .ref aDe, .ref aNe, .ref aBy, .ref aPi, .int (pd), .ref aNw, .ref aNs, .ref aBf, .int (rn), .int (rr)])), (aMd, .inl (cI, 24, .inl (fun w => nI (db_rk (K w))))), (aO1, .inl (cI, 24, .inl (db_one1 K X Nm))), (aT2, .inl (cI, 24, .inl (db_two2 K Y Nm))), (aSh, .inl (cI, 4, .inl (fun r => nI (RV r)))), (aMk, .inl (cI, 4, .inl (Ms))), (aFa, .inl (cI, 768, .inl (Fa))), (aDe, .inl (cZ, 768, .inl (De))), (aNe, .inl (cZ, 768, .inl (Ne))), (aBy, .inl (cI, 24, .inl (By))), (aPi, .inl (cI, 1600, .inl (Pi)))] [(cI, .int), (cZ, .boolean)] sz)) (va_Qi (fun (r : Int32) (u : db_AR) => r = ((db_facts n K X Y Nm).1 v) ∧ db_an n K X Y Nm R RV Ms u) (fun u t => dw_post (dC, dI) vwCl [(m0, .inr (5, [.int (0), .int (nI (n)), .ref aMd, .ref aO1, .ref aT2, .int (nI (R)), .ref aSh, .ref aMk, .ref aFa, .ref aDe, .ref aNe, .ref aBy, .ref aPi, .int (nI u.2.2.2.2.2), .ref aNw, .ref aNs, .ref aBf, .int (rn), .int (rr)])), (aMd, .inl (cI, 24, .inl (fun w => nI (db_rk (K w))))), (aO1, .inl (cI, 24, .inl (db_one1 K X Nm))), (aT2, .inl (cI, 24, .inl (db_two2 K Y Nm))), (aSh, .inl (cI, 4, .inl (fun r => nI (RV r)))), (aMk, .inl (cI, 4, .inl (Ms))), (aFa, .inl (cI, 768, .inl (u.1))), (aDe, .inl (cZ, 768, .inl (u.2.1))), (aNe, .inl (cZ, 768, .inl (u.2.2.1))), (aBy, .inl (cI, 24, .inl (u.2.2.2.1))), (aPi, .inl (cI, 1600, .inl (u.2.2.2.2.1)))] [(cI, .int), (cZ, .boolean)] (va_A [(m0, .inr (5, [.int (ft), .int (nI (n)), .ref aMd, .ref aO1, .ref aT2, .int (nI (R)), .ref aSh, .ref aMk, .ref aFa, .ref aDe, .ref aNe, .ref aBy, .ref aPi, .int (pd), .ref aNw, .ref aNs, .ref aBf, .int (rn), .int (rr)])), (aMd, .inl (cI, 24, .inl (fun w => nI (db_rk (K w))))), (aO1, .inl (cI, 24, .inl (db_one1 K X Nm))), (aT2, .inl (cI, 24, .inl (db_two2 K Y Nm))), (aSh, .inl (cI, 4, .inl (fun r => nI (RV r)))), (aMk, .inl (cI, 4, .inl (Ms))), (aFa, .inl (cI, 768, .inl (Fa))), (aDe, .inl (cZ, 768, .inl (De))), (aNe, .inl (cZ, 768, .inl (Ne))), (aBy, .inl (cI, 24, .inl (By))), (aPi, .inl (cI, 1600, .inl (Pi)))] sz) t) (va_A [(m0, .inr (5, [.int (ft), .int (nI (n)), .ref aMd, .ref aO1, .ref aT2, .int (nI (R)), .ref aSh, .ref aMk, .ref aFa, .ref aDe, .ref aNe, .ref aBy, .ref aPi, .int (pd), .ref aNw, .ref aNs, .ref aBf, .int (rn), .int (rr)])), (aMd, .inl (cI, 24, .inl (fun w => nI (db_rk (K w))))), (aO1, .inl (cI, 24, .inl (db_one1 K X Nm))), (aT2, .inl (cI, 24, .inl (db_two2 K Y Nm))), (aSh, .inl (cI, 4, .inl (fun r => nI (RV r)))), (aMk, .inl (cI, 4, .inl (Ms))), (aFa, .inl (cI, 768, .inl (Fa))), (aDe, .inl (cZ, 768, .inl (De))), (aNe, .inl (cZ, 768, .inl (Ne))), (aBy, .inl (cI, 24, .inl (By))), (aPi, .inl (cI, 1600, .inl (Pi)))] sz)) 0 0 (va_A [(m0, .inr (5, [.int (ft), .int (nI (n)), .ref aMd, .ref aO1, .ref aT2, .int (nI (R)), .ref aSh, .ref aMk, .ref aFa, .ref aDe, .ref aNe, .ref aBy, .ref aPi, .int (pd), .ref aNw, .ref aNs, .ref aBf, .int (rn), .int (rr)])), (aMd, .inl (cI, 24, .inl (fun w => nI (db_rk (K w))))), (aO1, .inl (cI, 24, .inl (db_one1 K X Nm))), (aT2, .inl (cI, 24, .inl (db_two2 K Y Nm))), (aSh, .inl (cI, 4, .inl (fun r => nI (RV r)))), (aMk, .inl (cI, 4, .inl (Ms))), (aFa, .inl (cI, 768, .inl (Fa))), (aDe, .inl (cZ, 768, .inl (De))), (aNe, .inl (cZ, 768, .inl (Ne))), (aBy, .inl (cI, 24, .inl (By))), (aPi, .inl (cI, 1600, .inl (Pi)))] sz) := by
  refine Met.ofW (cc := cM_bits) (maxL := 3) (ret := (some .int)) (by decide) rfl ?_
  intro p e s m args below meth c s₁ B hml hv0
  have hx := B.exec
  have hb := B.bytes
  have hr := B.returns
  have hts := atoms_spec (ws := wsM_bits) B.pre
  have hown : s.vm.findClass RM = some m.cls := findClass_of_methodNamed B.named
  have hlocks := B.notSynchronized
  obtain ⟨rfl, hsz, hG⟩ := dw_enter hv0
  generalize va_A [(m0, .inr (5, [.int (ft), .int (nI (n)), .ref aMd, .ref aO1, .ref aT2, .int (nI (R)), .ref aSh, .ref aMk, .ref aFa, .ref aDe, .ref aNe, .ref aBy, .ref aPi, .int (pd), .ref aNw, .ref aNs, .ref aBf, .int (rn), .int (rr)])), (aMd, .inl (cI, 24, .inl (fun w => nI (db_rk (K w))))), (aO1, .inl (cI, 24, .inl (db_one1 K X Nm))), (aT2, .inl (cI, 24, .inl (db_two2 K Y Nm))), (aSh, .inl (cI, 4, .inl (fun r => nI (RV r)))), (aMk, .inl (cI, 4, .inl (Ms))), (aFa, .inl (cI, 768, .inl (Fa))), (aDe, .inl (cZ, 768, .inl (De))), (aNe, .inl (cZ, 768, .inl (Ne))), (aBy, .inl (cI, 24, .inl (By))), (aPi, .inl (cI, 1600, .inl (Pi)))] sz = A at hG ⊢
  have hl := lv_entry ([.ref m0, .int (nI (v)), .int (0)]) (n := 3) (Nat.le_of_ble_eq_true rfl)
  rw [lg_entry_eq]
  generalize (lg_sl ([.ref m0, .int (nI (v)), .int (0)]) ++ List.replicate (3 - (lg_sl ([.ref m0, .int (nI (v)), .int (0)])).length) Slot.unset).toArray = ls at hl ⊢
  have hl : lv_has ls 3 [(0, .ref m0), (1, .int (nI (v))), (2, .int (0))] := hl
  have hw494 := hts _ (List.mem_cons_of_mem _ tw_494)
  refine dw_Q (fun Q hQ => ?_)
  suffices hgo : ∀ (H : Heap) (locs : List Loc), dw_G (dC, dI) vwCl [(cI, .int), (cZ, .boolean)] A s.heap s [(m0, .inr (5, [.int (ft), .int (nI (n)), .ref aMd, .ref aO1, .ref aT2, .int (nI (R)), .ref aSh, .ref aMk, .ref aFa, .ref aDe, .ref aNe, .ref aBy, .ref aPi, .int (pd), .ref aNw, .ref aNs, .ref aBf, .int (rn), .int (rr)])), (aMd, .inl (cI, 24, .inl (fun w => nI (db_rk (K w))))), (aO1, .inl (cI, 24, .inl (db_one1 K X Nm))), (aT2, .inl (cI, 24, .inl (db_two2 K Y Nm))), (aSh, .inl (cI, 4, .inl (fun r => nI (RV r)))), (aMk, .inl (cI, 4, .inl (Ms))), (aFa, .inl (cI, 768, .inl (Fa))), (aDe, .inl (cZ, 768, .inl (De))), (aNe, .inl (cZ, 768, .inl (Ne))), (aBy, .inl (cI, 24, .inl (By))), (aPi, .inl (cI, 1600, .inl (Pi)))] H locs → W p l e (headSpec wsM_bits { frames := 5, cells := 0, slots := 0, locals := 180 }).room s m [.ref m0, .int (nI (v)), .int (0)].toArray below meth c H locs 0 0 Q (F0 m 0 ls []) from hgo _ _ hG
  clear hG
  intro H locs hG
  refine lv_aload_n hx hb dM_bits_0 rfl (lv_at hl 0 rfl) ?_
  refine lv_aload_n hx hb dM_bits_1 rfl (lv_at hl 0 rfl) ?_
  refine lv_iload_n hx hb dM_bits_2 rfl (lv_at hl 1 rfl) ?_
  refine dw_calli (wc := [(m0, .inr (5, [.int (ft), .int (nI (n)), .ref aMd, .ref aO1, .ref aT2, .int (nI (R)), .ref aSh, .ref aMk, .ref aFa, .ref aDe, .ref aNe, .ref aBy, .ref aPi, .int (pd), .ref aNw, .ref aNs, .ref aBf, .int (rn), .int (rr)]))]) (wr := [(aMd, .inl (cI, 24, .inl (fun w => nI (db_rk (K w))))), (aO1, .inl (cI, 24, .inl (db_one1 K X Nm))), (aT2, .inl (cI, 24, .inl (db_two2 K Y Nm))), (aSh, .inl (cI, 4, .inl (fun r => nI (RV r)))), (aMk, .inl (cI, 4, .inl (Ms))), (aFa, .inl (cI, 768, .inl (Fa))), (aDe, .inl (cZ, 768, .inl (De))), (aNe, .inl (cZ, 768, .inl (Ne))), (aBy, .inl (cI, 24, .inl (By))), (aPi, .inl (cI, 1600, .inl (Pi)))]) hG [0] [1, 2, 3, 4, 5, 6, 7, 8, 9, 10] rfl rfl (by decide) (by decide) (va_runV (As := [.int (nI (v))]) (rest := [.ref m0]) ⟨hx, hb, hml, hown, hts⟩ (rf_isValue l dC dI cI cZ m0 aMd aO1 aT2 aSh aMk aFa aDe aNe aBy aPi aNw aNs aBf ft (nI n) (nI R) pd rn rr (nI (v)) H.size ) (dc_V 1 hts tw_573 tw_575 tp_M_isValue tw_7 tw_576 rfl rfl (by decide +kernel) ⟨Nat.le_of_ble_eq_true rfl, Nat.le_of_ble_eq_true rfl⟩) (dw_preV (ci := 5) hG [0] [0, 1] rfl rfl (by decide) rfl rfl (q0 := 0) rfl) rfl rfl hl.1 rfl (lv_room (Nat.le_of_ble_eq_true rfl)) dM_bits_3 ⟨Nat.le_refl _, Nat.le_refl _⟩) (fun r u H locs hp hG => ?_)
  subst hp
  have hG : dw_G (dC, dI) vwCl [(cI, .int), (cZ, .boolean)] A s.heap s [(aMd, .inl (cI, 24, .inl (fun w => nI (db_rk (K w))))), (aO1, .inl (cI, 24, .inl (db_one1 K X Nm))), (aT2, .inl (cI, 24, .inl (db_two2 K Y Nm))), (aSh, .inl (cI, 4, .inl (fun r => nI (RV r)))), (aMk, .inl (cI, 4, .inl (Ms))), (aFa, .inl (cI, 768, .inl (Fa))), (aDe, .inl (cZ, 768, .inl (De))), (aNe, .inl (cZ, 768, .inl (Ne))), (aBy, .inl (cI, 24, .inl (By))), (aPi, .inl (cI, 1600, .inl (Pi))), (m0, .inr (5, [.int (ft), .int (nI (n)), .ref aMd, .ref aO1, .ref aT2, .int (nI (R)), .ref aSh, .ref aMk, .ref aFa, .ref aDe, .ref aNe, .ref aBy, .ref aPi, .int (pd), .ref aNw, .ref aNs, .ref aBf, .int (rn), .int (rr)]))] H locs := hG
  refine lv_topi (nm_r (show (db_isv (nI (v)) (nI n) : Int32) = 1 from (db_isv_y (by omega) (by omega))) ?_)
  refine lv_if_ne (tgt := 13) hx hb dM_bits_6 (by decide) (fun h6 => ?_) (fun h6 => ?_)
  · skip
    replace h6 : ¬ 1 = 0 := fun hq0 => h6 ((nI_eq (a := 1) (b := 0) (by omega) (by omega)).mpr hq0)
    refine lv_iload_n hx hb dM_bits_13 rfl (lv_at hl 2 rfl) ?_
    refine lv_if_lt (tgt := 22) hx hb dM_bits_14 (by decide) (fun h14 => ?_) (fun h14 => ?_)
    · skip
      replace h14 := (nI_ltI (a := 0) (b := 0) (by omega) (by omega)).mp h14
      (exfalso; omega)
    replace h14 : ¬ 0 < 0 := fun hq0 => h14 ((nI_ltI (a := 0) (b := 0) (by omega) (by omega)).mpr hq0)
    refine lv_iload_n hx hb dM_bits_17 rfl (lv_at hl 2 rfl) ?_
    refine lv_iconst (v := 4) hx hb dM_bits_18 (by decide) ?_
    refine lv_icmp_le (tgt := 26) hx hb dM_bits_19 (by decide) (fun h19 => ?_) (fun h19 => ?_)
    · skip
      replace h19 := (nI_leI (a := 0) (b := 4) (by omega) (by omega)).mp h19
      refine lv_iconst (v := 0) hx hb dM_bits_26 (by decide) ?_
      refine dw_put (ws' := [(aMd, .inl (cI, 24, .inl (fun w => nI (db_rk (K w))))), (aO1, .inl (cI, 24, .inl (db_one1 K X Nm))), (aT2, .inl (cI, 24, .inl (db_two2 K Y Nm))), (aSh, .inl (cI, 4, .inl (fun r => nI (RV r)))), (aMk, .inl (cI, 4, .inl (Ms))), (aFa, .inl (cI, 768, .inl (Fa))), (aDe, .inl (cZ, 768, .inl (De))), (aNe, .inl (cZ, 768, .inl (Ne))), (aBy, .inl (cI, 24, .inl (By))), (aPi, .inl (cI, 1600, .inl (Pi))), (m0, .inr (5, [.int (0), .int (nI (n)), .ref aMd, .ref aO1, .ref aT2, .int (nI (R)), .ref aSh, .ref aMk, .ref aFa, .ref aDe, .ref aNe, .ref aBy, .ref aPi, .int (pd), .ref aNw, .ref aNs, .ref aBf, .int (rn), .int (rr)]))]) hx hb hts inMc tyM tyM_ok nmM hown hG 10 0 rfl rfl (by decide) hw494 rfl rfl (ty := .int) (by decide +kernel) rfl rfl (Nat.le_of_ble_eq_true rfl) dM_bits_27 rfl (fun H locs hG => ?_)
      refine lv_aload_n hx hb dM_bits_30 rfl (lv_at hl 0 rfl) ?_
      refine dw_get hx hb hts inMc hown hG 10 0 rfl rfl (by decide) hw494 rfl rfl dM_bits_31 ?_
      refine lv_if_le (tgt := 39) hx hb dM_bits_34 (by decide) (fun h34 => ?_) (fun h34 => ?_)
      · skip
        replace h34 := (nI_leI (a := 0) (b := 0) (by omega) (by omega)).mp h34
        refine lv_aload_n hx hb dM_bits_39 rfl (lv_at hl 0 rfl) ?_
        refine dw_callv (wc := [(m0, .inr (5, [.int (0), .int (nI (n)), .ref aMd, .ref aO1, .ref aT2, .int (nI (R)), .ref aSh, .ref aMk, .ref aFa, .ref aDe, .ref aNe, .ref aBy, .ref aPi, .int (pd), .ref aNw, .ref aNs, .ref aBf, .int (rn), .int (rr)])), (aMd, .inl (cI, 24, .inl (fun w => nI (db_rk (K w))))), (aO1, .inl (cI, 24, .inl (db_one1 K X Nm))), (aT2, .inl (cI, 24, .inl (db_two2 K Y Nm))), (aSh, .inl (cI, 4, .inl (fun r => nI (RV r)))), (aMk, .inl (cI, 4, .inl (Ms))), (aFa, .inl (cI, 768, .inl (Fa))), (aDe, .inl (cZ, 768, .inl (De))), (aNe, .inl (cZ, 768, .inl (Ne))), (aBy, .inl (cI, 24, .inl (By))), (aPi, .inl (cI, 1600, .inl (Pi)))]) (wr := []) hG [10, 0, 1, 2, 3, 4, 5, 6, 7, 8, 9] [] rfl rfl (by decide) (by decide) (va_runV (As := []) (rest := []) ⟨hx, hb, hml, hown, hts⟩ (rf_analyse l dC dI cI cZ m0 aMd aO1 aT2 aSh aMk aFa aDe aNe aBy aPi aNw aNs aBf n R (0) (rn) (rr) (pd) K X Y Nm RV Ms (Fa) (De) (Ne) (By) (Pi) H.size hn hR hwf hRV) (dc_V 0 hts tw_601 tw_603 tp_M_analyse tw_7 tw_604 rfl rfl (by decide +kernel) ⟨Nat.le_of_ble_eq_true rfl, Nat.le_of_ble_eq_true rfl⟩) (dw_preV (ci := 5) hG [10, 0, 1, 2, 3, 4, 5, 6, 7, 8, 9] [0, 1] rfl rfl (by decide) rfl rfl (q0 := 10) rfl) rfl rfl hl.1 rfl (lv_room (Nat.le_of_ble_eq_true rfl)) dM_bits_40 ⟨Nat.le_refl _, Nat.le_refl _⟩) (fun a H locs ha hG => ?_)
        have hG : dw_G (dC, dI) vwCl [(cI, .int), (cZ, .boolean)] A s.heap s [(m0, .inr (5, [.int (0), .int (nI (n)), .ref aMd, .ref aO1, .ref aT2, .int (nI (R)), .ref aSh, .ref aMk, .ref aFa, .ref aDe, .ref aNe, .ref aBy, .ref aPi, .int (nI a.2.2.2.2.2), .ref aNw, .ref aNs, .ref aBf, .int (rn), .int (rr)])), (aMd, .inl (cI, 24, .inl (fun w => nI (db_rk (K w))))), (aO1, .inl (cI, 24, .inl (db_one1 K X Nm))), (aT2, .inl (cI, 24, .inl (db_two2 K Y Nm))), (aSh, .inl (cI, 4, .inl (fun r => nI (RV r)))), (aMk, .inl (cI, 4, .inl (Ms))), (aFa, .inl (cI, 768, .inl (a.1))), (aDe, .inl (cZ, 768, .inl (a.2.1))), (aNe, .inl (cZ, 768, .inl (a.2.2.1))), (aBy, .inl (cI, 24, .inl (a.2.2.2.1))), (aPi, .inl (cI, 1600, .inl (a.2.2.2.2.1)))] H locs := hG
        refine lv_iload_n hx hb dM_bits_43 rfl (lv_at hl 2 rfl) ?_
        refine lv_tableIn (tgt := 76) hx hb dM_bits_44 (by decide) (by decide) rfl (by decide) ?_
        refine lv_aload_n hx hb dM_bits_76 rfl (lv_at hl 0 rfl) ?_
        refine lv_iload_n hx hb dM_bits_77 rfl (lv_at hl 1 rfl) ?_
        refine lv_iconst (v := 0) hx hb dM_bits_78 (by decide) ?_
        refine dw_calli (wc := [(m0, .inr (5, [.int (0), .int (nI (n)), .ref aMd, .ref aO1, .ref aT2, .int (nI (R)), .ref aSh, .ref aMk, .ref aFa, .ref aDe, .ref aNe, .ref aBy, .ref aPi, .int (nI a.2.2.2.2.2), .ref aNw, .ref aNs, .ref aBf, .int (rn), .int (rr)])), (aFa, .inl (cI, 768, .inl (a.1)))]) (wr := [(aMd, .inl (cI, 24, .inl (fun w => nI (db_rk (K w))))), (aO1, .inl (cI, 24, .inl (db_one1 K X Nm))), (aT2, .inl (cI, 24, .inl (db_two2 K Y Nm))), (aSh, .inl (cI, 4, .inl (fun r => nI (RV r)))), (aMk, .inl (cI, 4, .inl (Ms))), (aDe, .inl (cZ, 768, .inl (a.2.1))), (aNe, .inl (cZ, 768, .inl (a.2.2.1))), (aBy, .inl (cI, 24, .inl (a.2.2.2.1))), (aPi, .inl (cI, 1600, .inl (a.2.2.2.2.1)))]) hG [0, 6] [1, 2, 3, 4, 5, 7, 8, 9, 10] rfl rfl (by decide) (by decide) (va_runV (As := [.int (nI (v)), .int (0)]) (rest := []) ⟨hx, hb, hml, hown, hts⟩ (rf_known0 l dC dI cI cZ m0 aMd aO1 aT2 aSh aMk aFa aDe aNe aBy aPi aNw aNs aBf 0 (nI n) (nI R) (nI a.2.2.2.2.2) rn rr v a.1 ((db_facts n K X Y Nm).1 v) ((db_facts n K X Y Nm).2 v) H.size (by omega) (ha.1 v hv) (db_facts_aps hwf v hv)) (dc_V 2 hts tw_676 tw_678 tp_M_known tw_7 tw_679 rfl rfl (by decide +kernel) ⟨Nat.le_of_ble_eq_true rfl, Nat.le_of_ble_eq_true rfl⟩) (dw_preV (ci := 5) hG [0, 6] [0, 1] rfl rfl (by decide) rfl rfl (q0 := 0) rfl) rfl rfl hl.1 rfl (lv_room (Nat.le_of_ble_eq_true rfl)) dM_bits_79 ⟨Nat.le_refl _, Nat.le_refl _⟩) (fun r u H locs hp hG => ?_)
        subst hp
        have hG : dw_G (dC, dI) vwCl [(cI, .int), (cZ, .boolean)] A s.heap s [(aMd, .inl (cI, 24, .inl (fun w => nI (db_rk (K w))))), (aO1, .inl (cI, 24, .inl (db_one1 K X Nm))), (aT2, .inl (cI, 24, .inl (db_two2 K Y Nm))), (aSh, .inl (cI, 4, .inl (fun r => nI (RV r)))), (aMk, .inl (cI, 4, .inl (Ms))), (aDe, .inl (cZ, 768, .inl (a.2.1))), (aNe, .inl (cZ, 768, .inl (a.2.2.1))), (aBy, .inl (cI, 24, .inl (a.2.2.2.1))), (aPi, .inl (cI, 1600, .inl (a.2.2.2.2.1))), (m0, .inr (5, [.int (0), .int (nI (n)), .ref aMd, .ref aO1, .ref aT2, .int (nI (R)), .ref aSh, .ref aMk, .ref aFa, .ref aDe, .ref aNe, .ref aBy, .ref aPi, .int (nI a.2.2.2.2.2), .ref aNw, .ref aNs, .ref aBf, .int (rn), .int (rr)])), (aFa, .inl (cI, 768, .inl (a.1)))] H locs := hG
        subst hQ
        exact dw_iret hx hb hr (dw_perm hG [9, 0, 1, 2, 3, 4, 10, 5, 6, 7, 8] (by decide) rfl rfl) (a) rfl ⟨rfl, ha⟩ dM_bits_82 hlocks
      replace h34 : ¬ 0 ≤ 0 := fun hq0 => h34 ((nI_leI (a := 0) (b := 0) (by omega) (by omega)).mpr hq0)
      (exfalso; omega)
    replace h19 : ¬ 0 ≤ 4 := fun hq0 => h19 ((nI_leI (a := 0) (b := 4) (by omega) (by omega)).mpr hq0)
    (exfalso; omega)
  replace h6 := (nI_eq (a := 1) (b := 0) (by omega) (by omega)).mp h6
  (exfalso; omega)

set_option maxRecDepth 100000 in
set_option maxHeartbeats 4000000 in
theorem rf_bits_01 (l : Launch) (dC : Nat → ClassId) (dI : Nat → Nat → Nat) (cI cZ : ClassId) (m0 aMd aO1 aT2 aSh aMk aFa aDe aNe aBy aPi aNw aNs aBf n R : Nat) (ft rn rr pd : Int32) (K X Y : Nat → Nat) (Nm : Nat → Int32) (RV : Nat → Nat) (Ms : Nat → Int32) (Fa De Ne By Pi : Nat → Int32) (v : Nat) (sz : Nat) (hn : n ≤ 24) (hR : R ≤ 4) (hwf : db_wf n K X Y Nm) (hRV : ∀ r, r < R → RV r < n) (hv : v < n) : Met l yM_bits wsM_bits { frames := 5, cells := 0, slots := 0, locals := 180 } (va_Pc [.ref m0, .int (nI (v)), .int (1)] (dw_pre (dC, dI) vwCl [(m0, .inr (5, [.int (ft), .int (nI (n)), .ref aMd, .ref aO1, .ref aT2, .int (nI (R)), .ref aSh, .ref aMk, .ref aFa, .ref aDe, .ref aNe, .ref aBy, .ref aPi, .int (pd), .ref aNw, .ref aNs, .ref aBf, .int (rn), .int (rr)])), (aMd, .inl (cI, 24, .inl (fun w => nI (db_rk (K w))))), (aO1, .inl (cI, 24, .inl (db_one1 K X Nm))), (aT2, .inl (cI, 24, .inl (db_two2 K Y Nm))), (aSh, .inl (cI, 4, .inl (fun r => nI (RV r)))), (aMk, .inl (cI, 4, .inl (Ms))), (aFa, .inl (cI, 768, .inl (Fa))), (aDe, .inl (cZ, 768, .inl (De))), (aNe, .inl (cZ, 768, .inl (Ne))), (aBy, .inl (cI, 24, .inl (By))), (aPi, .inl (cI, 1600, .inl (Pi)))] [(cI, .int), (cZ, .boolean)] sz)) (va_Qi (fun (r : Int32) (u : db_AR) => r = ((db_facts n K X Y Nm).2 v) ∧ db_an n K X Y Nm R RV Ms u) (fun u t => dw_post (dC, dI) vwCl [(m0, .inr (5, [.int (0), .int (nI (n)), .ref aMd, .ref aO1, .ref aT2, .int (nI (R)), .ref aSh, .ref aMk, .ref aFa, .ref aDe, .ref aNe, .ref aBy, .ref aPi, .int (nI u.2.2.2.2.2), .ref aNw, .ref aNs, .ref aBf, .int (rn), .int (rr)])), (aMd, .inl (cI, 24, .inl (fun w => nI (db_rk (K w))))), (aO1, .inl (cI, 24, .inl (db_one1 K X Nm))), (aT2, .inl (cI, 24, .inl (db_two2 K Y Nm))), (aSh, .inl (cI, 4, .inl (fun r => nI (RV r)))), (aMk, .inl (cI, 4, .inl (Ms))), (aFa, .inl (cI, 768, .inl (u.1))), (aDe, .inl (cZ, 768, .inl (u.2.1))), (aNe, .inl (cZ, 768, .inl (u.2.2.1))), (aBy, .inl (cI, 24, .inl (u.2.2.2.1))), (aPi, .inl (cI, 1600, .inl (u.2.2.2.2.1)))] [(cI, .int), (cZ, .boolean)] (va_A [(m0, .inr (5, [.int (ft), .int (nI (n)), .ref aMd, .ref aO1, .ref aT2, .int (nI (R)), .ref aSh, .ref aMk, .ref aFa, .ref aDe, .ref aNe, .ref aBy, .ref aPi, .int (pd), .ref aNw, .ref aNs, .ref aBf, .int (rn), .int (rr)])), (aMd, .inl (cI, 24, .inl (fun w => nI (db_rk (K w))))), (aO1, .inl (cI, 24, .inl (db_one1 K X Nm))), (aT2, .inl (cI, 24, .inl (db_two2 K Y Nm))), (aSh, .inl (cI, 4, .inl (fun r => nI (RV r)))), (aMk, .inl (cI, 4, .inl (Ms))), (aFa, .inl (cI, 768, .inl (Fa))), (aDe, .inl (cZ, 768, .inl (De))), (aNe, .inl (cZ, 768, .inl (Ne))), (aBy, .inl (cI, 24, .inl (By))), (aPi, .inl (cI, 1600, .inl (Pi)))] sz) t) (va_A [(m0, .inr (5, [.int (ft), .int (nI (n)), .ref aMd, .ref aO1, .ref aT2, .int (nI (R)), .ref aSh, .ref aMk, .ref aFa, .ref aDe, .ref aNe, .ref aBy, .ref aPi, .int (pd), .ref aNw, .ref aNs, .ref aBf, .int (rn), .int (rr)])), (aMd, .inl (cI, 24, .inl (fun w => nI (db_rk (K w))))), (aO1, .inl (cI, 24, .inl (db_one1 K X Nm))), (aT2, .inl (cI, 24, .inl (db_two2 K Y Nm))), (aSh, .inl (cI, 4, .inl (fun r => nI (RV r)))), (aMk, .inl (cI, 4, .inl (Ms))), (aFa, .inl (cI, 768, .inl (Fa))), (aDe, .inl (cZ, 768, .inl (De))), (aNe, .inl (cZ, 768, .inl (Ne))), (aBy, .inl (cI, 24, .inl (By))), (aPi, .inl (cI, 1600, .inl (Pi)))] sz)) 0 0 (va_A [(m0, .inr (5, [.int (ft), .int (nI (n)), .ref aMd, .ref aO1, .ref aT2, .int (nI (R)), .ref aSh, .ref aMk, .ref aFa, .ref aDe, .ref aNe, .ref aBy, .ref aPi, .int (pd), .ref aNw, .ref aNs, .ref aBf, .int (rn), .int (rr)])), (aMd, .inl (cI, 24, .inl (fun w => nI (db_rk (K w))))), (aO1, .inl (cI, 24, .inl (db_one1 K X Nm))), (aT2, .inl (cI, 24, .inl (db_two2 K Y Nm))), (aSh, .inl (cI, 4, .inl (fun r => nI (RV r)))), (aMk, .inl (cI, 4, .inl (Ms))), (aFa, .inl (cI, 768, .inl (Fa))), (aDe, .inl (cZ, 768, .inl (De))), (aNe, .inl (cZ, 768, .inl (Ne))), (aBy, .inl (cI, 24, .inl (By))), (aPi, .inl (cI, 1600, .inl (Pi)))] sz) := by
  refine Met.ofW (cc := cM_bits) (maxL := 3) (ret := (some .int)) (by decide) rfl ?_
  intro p e s m args below meth c s₁ B hml hv0
  have hx := B.exec
  have hb := B.bytes
  have hr := B.returns
  have hts := atoms_spec (ws := wsM_bits) B.pre
  have hown : s.vm.findClass RM = some m.cls := findClass_of_methodNamed B.named
  have hlocks := B.notSynchronized
  obtain ⟨rfl, hsz, hG⟩ := dw_enter hv0
  generalize va_A [(m0, .inr (5, [.int (ft), .int (nI (n)), .ref aMd, .ref aO1, .ref aT2, .int (nI (R)), .ref aSh, .ref aMk, .ref aFa, .ref aDe, .ref aNe, .ref aBy, .ref aPi, .int (pd), .ref aNw, .ref aNs, .ref aBf, .int (rn), .int (rr)])), (aMd, .inl (cI, 24, .inl (fun w => nI (db_rk (K w))))), (aO1, .inl (cI, 24, .inl (db_one1 K X Nm))), (aT2, .inl (cI, 24, .inl (db_two2 K Y Nm))), (aSh, .inl (cI, 4, .inl (fun r => nI (RV r)))), (aMk, .inl (cI, 4, .inl (Ms))), (aFa, .inl (cI, 768, .inl (Fa))), (aDe, .inl (cZ, 768, .inl (De))), (aNe, .inl (cZ, 768, .inl (Ne))), (aBy, .inl (cI, 24, .inl (By))), (aPi, .inl (cI, 1600, .inl (Pi)))] sz = A at hG ⊢
  have hl := lv_entry ([.ref m0, .int (nI (v)), .int (1)]) (n := 3) (Nat.le_of_ble_eq_true rfl)
  rw [lg_entry_eq]
  generalize (lg_sl ([.ref m0, .int (nI (v)), .int (1)]) ++ List.replicate (3 - (lg_sl ([.ref m0, .int (nI (v)), .int (1)])).length) Slot.unset).toArray = ls at hl ⊢
  have hl : lv_has ls 3 [(0, .ref m0), (1, .int (nI (v))), (2, .int (1))] := hl
  have hw494 := hts _ (List.mem_cons_of_mem _ tw_494)
  refine dw_Q (fun Q hQ => ?_)
  suffices hgo : ∀ (H : Heap) (locs : List Loc), dw_G (dC, dI) vwCl [(cI, .int), (cZ, .boolean)] A s.heap s [(m0, .inr (5, [.int (ft), .int (nI (n)), .ref aMd, .ref aO1, .ref aT2, .int (nI (R)), .ref aSh, .ref aMk, .ref aFa, .ref aDe, .ref aNe, .ref aBy, .ref aPi, .int (pd), .ref aNw, .ref aNs, .ref aBf, .int (rn), .int (rr)])), (aMd, .inl (cI, 24, .inl (fun w => nI (db_rk (K w))))), (aO1, .inl (cI, 24, .inl (db_one1 K X Nm))), (aT2, .inl (cI, 24, .inl (db_two2 K Y Nm))), (aSh, .inl (cI, 4, .inl (fun r => nI (RV r)))), (aMk, .inl (cI, 4, .inl (Ms))), (aFa, .inl (cI, 768, .inl (Fa))), (aDe, .inl (cZ, 768, .inl (De))), (aNe, .inl (cZ, 768, .inl (Ne))), (aBy, .inl (cI, 24, .inl (By))), (aPi, .inl (cI, 1600, .inl (Pi)))] H locs → W p l e (headSpec wsM_bits { frames := 5, cells := 0, slots := 0, locals := 180 }).room s m [.ref m0, .int (nI (v)), .int (1)].toArray below meth c H locs 0 0 Q (F0 m 0 ls []) from hgo _ _ hG
  clear hG
  intro H locs hG
  refine lv_aload_n hx hb dM_bits_0 rfl (lv_at hl 0 rfl) ?_
  refine lv_aload_n hx hb dM_bits_1 rfl (lv_at hl 0 rfl) ?_
  refine lv_iload_n hx hb dM_bits_2 rfl (lv_at hl 1 rfl) ?_
  refine dw_calli (wc := [(m0, .inr (5, [.int (ft), .int (nI (n)), .ref aMd, .ref aO1, .ref aT2, .int (nI (R)), .ref aSh, .ref aMk, .ref aFa, .ref aDe, .ref aNe, .ref aBy, .ref aPi, .int (pd), .ref aNw, .ref aNs, .ref aBf, .int (rn), .int (rr)]))]) (wr := [(aMd, .inl (cI, 24, .inl (fun w => nI (db_rk (K w))))), (aO1, .inl (cI, 24, .inl (db_one1 K X Nm))), (aT2, .inl (cI, 24, .inl (db_two2 K Y Nm))), (aSh, .inl (cI, 4, .inl (fun r => nI (RV r)))), (aMk, .inl (cI, 4, .inl (Ms))), (aFa, .inl (cI, 768, .inl (Fa))), (aDe, .inl (cZ, 768, .inl (De))), (aNe, .inl (cZ, 768, .inl (Ne))), (aBy, .inl (cI, 24, .inl (By))), (aPi, .inl (cI, 1600, .inl (Pi)))]) hG [0] [1, 2, 3, 4, 5, 6, 7, 8, 9, 10] rfl rfl (by decide) (by decide) (va_runV (As := [.int (nI (v))]) (rest := [.ref m0]) ⟨hx, hb, hml, hown, hts⟩ (rf_isValue l dC dI cI cZ m0 aMd aO1 aT2 aSh aMk aFa aDe aNe aBy aPi aNw aNs aBf ft (nI n) (nI R) pd rn rr (nI (v)) H.size ) (dc_V 1 hts tw_573 tw_575 tp_M_isValue tw_7 tw_576 rfl rfl (by decide +kernel) ⟨Nat.le_of_ble_eq_true rfl, Nat.le_of_ble_eq_true rfl⟩) (dw_preV (ci := 5) hG [0] [0, 1] rfl rfl (by decide) rfl rfl (q0 := 0) rfl) rfl rfl hl.1 rfl (lv_room (Nat.le_of_ble_eq_true rfl)) dM_bits_3 ⟨Nat.le_refl _, Nat.le_refl _⟩) (fun r u H locs hp hG => ?_)
  subst hp
  have hG : dw_G (dC, dI) vwCl [(cI, .int), (cZ, .boolean)] A s.heap s [(aMd, .inl (cI, 24, .inl (fun w => nI (db_rk (K w))))), (aO1, .inl (cI, 24, .inl (db_one1 K X Nm))), (aT2, .inl (cI, 24, .inl (db_two2 K Y Nm))), (aSh, .inl (cI, 4, .inl (fun r => nI (RV r)))), (aMk, .inl (cI, 4, .inl (Ms))), (aFa, .inl (cI, 768, .inl (Fa))), (aDe, .inl (cZ, 768, .inl (De))), (aNe, .inl (cZ, 768, .inl (Ne))), (aBy, .inl (cI, 24, .inl (By))), (aPi, .inl (cI, 1600, .inl (Pi))), (m0, .inr (5, [.int (ft), .int (nI (n)), .ref aMd, .ref aO1, .ref aT2, .int (nI (R)), .ref aSh, .ref aMk, .ref aFa, .ref aDe, .ref aNe, .ref aBy, .ref aPi, .int (pd), .ref aNw, .ref aNs, .ref aBf, .int (rn), .int (rr)]))] H locs := hG
  refine lv_topi (nm_r (show (db_isv (nI (v)) (nI n) : Int32) = 1 from (db_isv_y (by omega) (by omega))) ?_)
  refine lv_if_ne (tgt := 13) hx hb dM_bits_6 (by decide) (fun h6 => ?_) (fun h6 => ?_)
  · skip
    replace h6 : ¬ 1 = 0 := fun hq0 => h6 ((nI_eq (a := 1) (b := 0) (by omega) (by omega)).mpr hq0)
    refine lv_iload_n hx hb dM_bits_13 rfl (lv_at hl 2 rfl) ?_
    refine lv_if_lt (tgt := 22) hx hb dM_bits_14 (by decide) (fun h14 => ?_) (fun h14 => ?_)
    · skip
      replace h14 := (nI_ltI (a := 1) (b := 0) (by omega) (by omega)).mp h14
      (exfalso; omega)
    replace h14 : ¬ 1 < 0 := fun hq0 => h14 ((nI_ltI (a := 1) (b := 0) (by omega) (by omega)).mpr hq0)
    refine lv_iload_n hx hb dM_bits_17 rfl (lv_at hl 2 rfl) ?_
    refine lv_iconst (v := 4) hx hb dM_bits_18 (by decide) ?_
    refine lv_icmp_le (tgt := 26) hx hb dM_bits_19 (by decide) (fun h19 => ?_) (fun h19 => ?_)
    · skip
      replace h19 := (nI_leI (a := 1) (b := 4) (by omega) (by omega)).mp h19
      refine lv_iconst (v := 0) hx hb dM_bits_26 (by decide) ?_
      refine dw_put (ws' := [(aMd, .inl (cI, 24, .inl (fun w => nI (db_rk (K w))))), (aO1, .inl (cI, 24, .inl (db_one1 K X Nm))), (aT2, .inl (cI, 24, .inl (db_two2 K Y Nm))), (aSh, .inl (cI, 4, .inl (fun r => nI (RV r)))), (aMk, .inl (cI, 4, .inl (Ms))), (aFa, .inl (cI, 768, .inl (Fa))), (aDe, .inl (cZ, 768, .inl (De))), (aNe, .inl (cZ, 768, .inl (Ne))), (aBy, .inl (cI, 24, .inl (By))), (aPi, .inl (cI, 1600, .inl (Pi))), (m0, .inr (5, [.int (0), .int (nI (n)), .ref aMd, .ref aO1, .ref aT2, .int (nI (R)), .ref aSh, .ref aMk, .ref aFa, .ref aDe, .ref aNe, .ref aBy, .ref aPi, .int (pd), .ref aNw, .ref aNs, .ref aBf, .int (rn), .int (rr)]))]) hx hb hts inMc tyM tyM_ok nmM hown hG 10 0 rfl rfl (by decide) hw494 rfl rfl (ty := .int) (by decide +kernel) rfl rfl (Nat.le_of_ble_eq_true rfl) dM_bits_27 rfl (fun H locs hG => ?_)
      refine lv_aload_n hx hb dM_bits_30 rfl (lv_at hl 0 rfl) ?_
      refine dw_get hx hb hts inMc hown hG 10 0 rfl rfl (by decide) hw494 rfl rfl dM_bits_31 ?_
      refine lv_if_le (tgt := 39) hx hb dM_bits_34 (by decide) (fun h34 => ?_) (fun h34 => ?_)
      · skip
        replace h34 := (nI_leI (a := 0) (b := 0) (by omega) (by omega)).mp h34
        refine lv_aload_n hx hb dM_bits_39 rfl (lv_at hl 0 rfl) ?_
        refine dw_callv (wc := [(m0, .inr (5, [.int (0), .int (nI (n)), .ref aMd, .ref aO1, .ref aT2, .int (nI (R)), .ref aSh, .ref aMk, .ref aFa, .ref aDe, .ref aNe, .ref aBy, .ref aPi, .int (pd), .ref aNw, .ref aNs, .ref aBf, .int (rn), .int (rr)])), (aMd, .inl (cI, 24, .inl (fun w => nI (db_rk (K w))))), (aO1, .inl (cI, 24, .inl (db_one1 K X Nm))), (aT2, .inl (cI, 24, .inl (db_two2 K Y Nm))), (aSh, .inl (cI, 4, .inl (fun r => nI (RV r)))), (aMk, .inl (cI, 4, .inl (Ms))), (aFa, .inl (cI, 768, .inl (Fa))), (aDe, .inl (cZ, 768, .inl (De))), (aNe, .inl (cZ, 768, .inl (Ne))), (aBy, .inl (cI, 24, .inl (By))), (aPi, .inl (cI, 1600, .inl (Pi)))]) (wr := []) hG [10, 0, 1, 2, 3, 4, 5, 6, 7, 8, 9] [] rfl rfl (by decide) (by decide) (va_runV (As := []) (rest := []) ⟨hx, hb, hml, hown, hts⟩ (rf_analyse l dC dI cI cZ m0 aMd aO1 aT2 aSh aMk aFa aDe aNe aBy aPi aNw aNs aBf n R (0) (rn) (rr) (pd) K X Y Nm RV Ms (Fa) (De) (Ne) (By) (Pi) H.size hn hR hwf hRV) (dc_V 0 hts tw_601 tw_603 tp_M_analyse tw_7 tw_604 rfl rfl (by decide +kernel) ⟨Nat.le_of_ble_eq_true rfl, Nat.le_of_ble_eq_true rfl⟩) (dw_preV (ci := 5) hG [10, 0, 1, 2, 3, 4, 5, 6, 7, 8, 9] [0, 1] rfl rfl (by decide) rfl rfl (q0 := 10) rfl) rfl rfl hl.1 rfl (lv_room (Nat.le_of_ble_eq_true rfl)) dM_bits_40 ⟨Nat.le_refl _, Nat.le_refl _⟩) (fun a H locs ha hG => ?_)
        have hG : dw_G (dC, dI) vwCl [(cI, .int), (cZ, .boolean)] A s.heap s [(m0, .inr (5, [.int (0), .int (nI (n)), .ref aMd, .ref aO1, .ref aT2, .int (nI (R)), .ref aSh, .ref aMk, .ref aFa, .ref aDe, .ref aNe, .ref aBy, .ref aPi, .int (nI a.2.2.2.2.2), .ref aNw, .ref aNs, .ref aBf, .int (rn), .int (rr)])), (aMd, .inl (cI, 24, .inl (fun w => nI (db_rk (K w))))), (aO1, .inl (cI, 24, .inl (db_one1 K X Nm))), (aT2, .inl (cI, 24, .inl (db_two2 K Y Nm))), (aSh, .inl (cI, 4, .inl (fun r => nI (RV r)))), (aMk, .inl (cI, 4, .inl (Ms))), (aFa, .inl (cI, 768, .inl (a.1))), (aDe, .inl (cZ, 768, .inl (a.2.1))), (aNe, .inl (cZ, 768, .inl (a.2.2.1))), (aBy, .inl (cI, 24, .inl (a.2.2.2.1))), (aPi, .inl (cI, 1600, .inl (a.2.2.2.2.1)))] H locs := hG
        refine lv_iload_n hx hb dM_bits_43 rfl (lv_at hl 2 rfl) ?_
        refine lv_tableIn (tgt := 83) hx hb dM_bits_44 (by decide) (by decide) rfl (by decide) ?_
        refine lv_aload_n hx hb dM_bits_83 rfl (lv_at hl 0 rfl) ?_
        refine lv_iload_n hx hb dM_bits_84 rfl (lv_at hl 1 rfl) ?_
        refine lv_iconst (v := 1) hx hb dM_bits_85 (by decide) ?_
        refine dw_calli (wc := [(m0, .inr (5, [.int (0), .int (nI (n)), .ref aMd, .ref aO1, .ref aT2, .int (nI (R)), .ref aSh, .ref aMk, .ref aFa, .ref aDe, .ref aNe, .ref aBy, .ref aPi, .int (nI a.2.2.2.2.2), .ref aNw, .ref aNs, .ref aBf, .int (rn), .int (rr)])), (aFa, .inl (cI, 768, .inl (a.1)))]) (wr := [(aMd, .inl (cI, 24, .inl (fun w => nI (db_rk (K w))))), (aO1, .inl (cI, 24, .inl (db_one1 K X Nm))), (aT2, .inl (cI, 24, .inl (db_two2 K Y Nm))), (aSh, .inl (cI, 4, .inl (fun r => nI (RV r)))), (aMk, .inl (cI, 4, .inl (Ms))), (aDe, .inl (cZ, 768, .inl (a.2.1))), (aNe, .inl (cZ, 768, .inl (a.2.2.1))), (aBy, .inl (cI, 24, .inl (a.2.2.2.1))), (aPi, .inl (cI, 1600, .inl (a.2.2.2.2.1)))]) hG [0, 6] [1, 2, 3, 4, 5, 7, 8, 9, 10] rfl rfl (by decide) (by decide) (va_runV (As := [.int (nI (v)), .int (1)]) (rest := []) ⟨hx, hb, hml, hown, hts⟩ (rf_known1 l dC dI cI cZ m0 aMd aO1 aT2 aSh aMk aFa aDe aNe aBy aPi aNw aNs aBf 0 (nI n) (nI R) (nI a.2.2.2.2.2) rn rr v a.1 ((db_facts n K X Y Nm).1 v) ((db_facts n K X Y Nm).2 v) H.size (by omega) (ha.1 v hv) (db_facts_aps hwf v hv)) (dc_V 2 hts tw_676 tw_678 tp_M_known tw_7 tw_679 rfl rfl (by decide +kernel) ⟨Nat.le_of_ble_eq_true rfl, Nat.le_of_ble_eq_true rfl⟩) (dw_preV (ci := 5) hG [0, 6] [0, 1] rfl rfl (by decide) rfl rfl (q0 := 0) rfl) rfl rfl hl.1 rfl (lv_room (Nat.le_of_ble_eq_true rfl)) dM_bits_86 ⟨Nat.le_refl _, Nat.le_refl _⟩) (fun r u H locs hp hG => ?_)
        subst hp
        have hG : dw_G (dC, dI) vwCl [(cI, .int), (cZ, .boolean)] A s.heap s [(aMd, .inl (cI, 24, .inl (fun w => nI (db_rk (K w))))), (aO1, .inl (cI, 24, .inl (db_one1 K X Nm))), (aT2, .inl (cI, 24, .inl (db_two2 K Y Nm))), (aSh, .inl (cI, 4, .inl (fun r => nI (RV r)))), (aMk, .inl (cI, 4, .inl (Ms))), (aDe, .inl (cZ, 768, .inl (a.2.1))), (aNe, .inl (cZ, 768, .inl (a.2.2.1))), (aBy, .inl (cI, 24, .inl (a.2.2.2.1))), (aPi, .inl (cI, 1600, .inl (a.2.2.2.2.1))), (m0, .inr (5, [.int (0), .int (nI (n)), .ref aMd, .ref aO1, .ref aT2, .int (nI (R)), .ref aSh, .ref aMk, .ref aFa, .ref aDe, .ref aNe, .ref aBy, .ref aPi, .int (nI a.2.2.2.2.2), .ref aNw, .ref aNs, .ref aBf, .int (rn), .int (rr)])), (aFa, .inl (cI, 768, .inl (a.1)))] H locs := hG
        subst hQ
        exact dw_iret hx hb hr (dw_perm hG [9, 0, 1, 2, 3, 4, 10, 5, 6, 7, 8] (by decide) rfl rfl) (a) rfl ⟨rfl, ha⟩ dM_bits_89 hlocks
      replace h34 : ¬ 0 ≤ 0 := fun hq0 => h34 ((nI_leI (a := 0) (b := 0) (by omega) (by omega)).mpr hq0)
      (exfalso; omega)
    replace h19 : ¬ 1 ≤ 4 := fun hq0 => h19 ((nI_leI (a := 1) (b := 4) (by omega) (by omega)).mpr hq0)
    (exfalso; omega)
  replace h6 := (nI_eq (a := 1) (b := 0) (by omega) (by omega)).mp h6
  (exfalso; omega)

set_option maxRecDepth 100000 in
set_option maxHeartbeats 4000000 in
theorem rf_bits_02 (l : Launch) (dC : Nat → ClassId) (dI : Nat → Nat → Nat) (cI cZ : ClassId) (m0 aMd aO1 aT2 aSh aMk aFa aDe aNe aBy aPi aNw aNs aBf n R : Nat) (ft rn rr pd : Int32) (K X Y : Nat → Nat) (Nm : Nat → Int32) (RV : Nat → Nat) (Ms : Nat → Int32) (Fa De Ne By Pi : Nat → Int32) (v : Nat) (sz : Nat) (hn : n ≤ 24) (hR : R ≤ 4) (hwf : db_wf n K X Y Nm) (hRV : ∀ r, r < R → RV r < n) (hv : v < n) : Met l yM_bits wsM_bits { frames := 5, cells := 0, slots := 0, locals := 180 } (va_Pc [.ref m0, .int (nI (v)), .int (2)] (dw_pre (dC, dI) vwCl [(m0, .inr (5, [.int (ft), .int (nI (n)), .ref aMd, .ref aO1, .ref aT2, .int (nI (R)), .ref aSh, .ref aMk, .ref aFa, .ref aDe, .ref aNe, .ref aBy, .ref aPi, .int (pd), .ref aNw, .ref aNs, .ref aBf, .int (rn), .int (rr)])), (aMd, .inl (cI, 24, .inl (fun w => nI (db_rk (K w))))), (aO1, .inl (cI, 24, .inl (db_one1 K X Nm))), (aT2, .inl (cI, 24, .inl (db_two2 K Y Nm))), (aSh, .inl (cI, 4, .inl (fun r => nI (RV r)))), (aMk, .inl (cI, 4, .inl (Ms))), (aFa, .inl (cI, 768, .inl (Fa))), (aDe, .inl (cZ, 768, .inl (De))), (aNe, .inl (cZ, 768, .inl (Ne))), (aBy, .inl (cI, 24, .inl (By))), (aPi, .inl (cI, 1600, .inl (Pi)))] [(cI, .int), (cZ, .boolean)] sz)) (va_Qi (fun (r : Int32) (u : db_AR) => r = ((db_D1 n K X Y Nm R RV Ms v)) ∧ db_an n K X Y Nm R RV Ms u) (fun u t => dw_post (dC, dI) vwCl [(m0, .inr (5, [.int (0), .int (nI (n)), .ref aMd, .ref aO1, .ref aT2, .int (nI (R)), .ref aSh, .ref aMk, .ref aFa, .ref aDe, .ref aNe, .ref aBy, .ref aPi, .int (nI u.2.2.2.2.2), .ref aNw, .ref aNs, .ref aBf, .int (rn), .int (rr)])), (aMd, .inl (cI, 24, .inl (fun w => nI (db_rk (K w))))), (aO1, .inl (cI, 24, .inl (db_one1 K X Nm))), (aT2, .inl (cI, 24, .inl (db_two2 K Y Nm))), (aSh, .inl (cI, 4, .inl (fun r => nI (RV r)))), (aMk, .inl (cI, 4, .inl (Ms))), (aFa, .inl (cI, 768, .inl (u.1))), (aDe, .inl (cZ, 768, .inl (u.2.1))), (aNe, .inl (cZ, 768, .inl (u.2.2.1))), (aBy, .inl (cI, 24, .inl (u.2.2.2.1))), (aPi, .inl (cI, 1600, .inl (u.2.2.2.2.1)))] [(cI, .int), (cZ, .boolean)] (va_A [(m0, .inr (5, [.int (ft), .int (nI (n)), .ref aMd, .ref aO1, .ref aT2, .int (nI (R)), .ref aSh, .ref aMk, .ref aFa, .ref aDe, .ref aNe, .ref aBy, .ref aPi, .int (pd), .ref aNw, .ref aNs, .ref aBf, .int (rn), .int (rr)])), (aMd, .inl (cI, 24, .inl (fun w => nI (db_rk (K w))))), (aO1, .inl (cI, 24, .inl (db_one1 K X Nm))), (aT2, .inl (cI, 24, .inl (db_two2 K Y Nm))), (aSh, .inl (cI, 4, .inl (fun r => nI (RV r)))), (aMk, .inl (cI, 4, .inl (Ms))), (aFa, .inl (cI, 768, .inl (Fa))), (aDe, .inl (cZ, 768, .inl (De))), (aNe, .inl (cZ, 768, .inl (Ne))), (aBy, .inl (cI, 24, .inl (By))), (aPi, .inl (cI, 1600, .inl (Pi)))] sz) t) (va_A [(m0, .inr (5, [.int (ft), .int (nI (n)), .ref aMd, .ref aO1, .ref aT2, .int (nI (R)), .ref aSh, .ref aMk, .ref aFa, .ref aDe, .ref aNe, .ref aBy, .ref aPi, .int (pd), .ref aNw, .ref aNs, .ref aBf, .int (rn), .int (rr)])), (aMd, .inl (cI, 24, .inl (fun w => nI (db_rk (K w))))), (aO1, .inl (cI, 24, .inl (db_one1 K X Nm))), (aT2, .inl (cI, 24, .inl (db_two2 K Y Nm))), (aSh, .inl (cI, 4, .inl (fun r => nI (RV r)))), (aMk, .inl (cI, 4, .inl (Ms))), (aFa, .inl (cI, 768, .inl (Fa))), (aDe, .inl (cZ, 768, .inl (De))), (aNe, .inl (cZ, 768, .inl (Ne))), (aBy, .inl (cI, 24, .inl (By))), (aPi, .inl (cI, 1600, .inl (Pi)))] sz)) 0 0 (va_A [(m0, .inr (5, [.int (ft), .int (nI (n)), .ref aMd, .ref aO1, .ref aT2, .int (nI (R)), .ref aSh, .ref aMk, .ref aFa, .ref aDe, .ref aNe, .ref aBy, .ref aPi, .int (pd), .ref aNw, .ref aNs, .ref aBf, .int (rn), .int (rr)])), (aMd, .inl (cI, 24, .inl (fun w => nI (db_rk (K w))))), (aO1, .inl (cI, 24, .inl (db_one1 K X Nm))), (aT2, .inl (cI, 24, .inl (db_two2 K Y Nm))), (aSh, .inl (cI, 4, .inl (fun r => nI (RV r)))), (aMk, .inl (cI, 4, .inl (Ms))), (aFa, .inl (cI, 768, .inl (Fa))), (aDe, .inl (cZ, 768, .inl (De))), (aNe, .inl (cZ, 768, .inl (Ne))), (aBy, .inl (cI, 24, .inl (By))), (aPi, .inl (cI, 1600, .inl (Pi)))] sz) := by
  refine Met.ofW (cc := cM_bits) (maxL := 3) (ret := (some .int)) (by decide) rfl ?_
  intro p e s m args below meth c s₁ B hml hv0
  have hx := B.exec
  have hb := B.bytes
  have hr := B.returns
  have hts := atoms_spec (ws := wsM_bits) B.pre
  have hown : s.vm.findClass RM = some m.cls := findClass_of_methodNamed B.named
  have hlocks := B.notSynchronized
  obtain ⟨rfl, hsz, hG⟩ := dw_enter hv0
  generalize va_A [(m0, .inr (5, [.int (ft), .int (nI (n)), .ref aMd, .ref aO1, .ref aT2, .int (nI (R)), .ref aSh, .ref aMk, .ref aFa, .ref aDe, .ref aNe, .ref aBy, .ref aPi, .int (pd), .ref aNw, .ref aNs, .ref aBf, .int (rn), .int (rr)])), (aMd, .inl (cI, 24, .inl (fun w => nI (db_rk (K w))))), (aO1, .inl (cI, 24, .inl (db_one1 K X Nm))), (aT2, .inl (cI, 24, .inl (db_two2 K Y Nm))), (aSh, .inl (cI, 4, .inl (fun r => nI (RV r)))), (aMk, .inl (cI, 4, .inl (Ms))), (aFa, .inl (cI, 768, .inl (Fa))), (aDe, .inl (cZ, 768, .inl (De))), (aNe, .inl (cZ, 768, .inl (Ne))), (aBy, .inl (cI, 24, .inl (By))), (aPi, .inl (cI, 1600, .inl (Pi)))] sz = A at hG ⊢
  have hl := lv_entry ([.ref m0, .int (nI (v)), .int (2)]) (n := 3) (Nat.le_of_ble_eq_true rfl)
  rw [lg_entry_eq]
  generalize (lg_sl ([.ref m0, .int (nI (v)), .int (2)]) ++ List.replicate (3 - (lg_sl ([.ref m0, .int (nI (v)), .int (2)])).length) Slot.unset).toArray = ls at hl ⊢
  have hl : lv_has ls 3 [(0, .ref m0), (1, .int (nI (v))), (2, .int (2))] := hl
  have hw494 := hts _ (List.mem_cons_of_mem _ tw_494)
  have hw503 := hts _ (List.mem_cons_of_mem _ tw_503)
  refine dw_Q (fun Q hQ => ?_)
  suffices hgo : ∀ (H : Heap) (locs : List Loc), dw_G (dC, dI) vwCl [(cI, .int), (cZ, .boolean)] A s.heap s [(m0, .inr (5, [.int (ft), .int (nI (n)), .ref aMd, .ref aO1, .ref aT2, .int (nI (R)), .ref aSh, .ref aMk, .ref aFa, .ref aDe, .ref aNe, .ref aBy, .ref aPi, .int (pd), .ref aNw, .ref aNs, .ref aBf, .int (rn), .int (rr)])), (aMd, .inl (cI, 24, .inl (fun w => nI (db_rk (K w))))), (aO1, .inl (cI, 24, .inl (db_one1 K X Nm))), (aT2, .inl (cI, 24, .inl (db_two2 K Y Nm))), (aSh, .inl (cI, 4, .inl (fun r => nI (RV r)))), (aMk, .inl (cI, 4, .inl (Ms))), (aFa, .inl (cI, 768, .inl (Fa))), (aDe, .inl (cZ, 768, .inl (De))), (aNe, .inl (cZ, 768, .inl (Ne))), (aBy, .inl (cI, 24, .inl (By))), (aPi, .inl (cI, 1600, .inl (Pi)))] H locs → W p l e (headSpec wsM_bits { frames := 5, cells := 0, slots := 0, locals := 180 }).room s m [.ref m0, .int (nI (v)), .int (2)].toArray below meth c H locs 0 0 Q (F0 m 0 ls []) from hgo _ _ hG
  clear hG
  intro H locs hG
  refine lv_aload_n hx hb dM_bits_0 rfl (lv_at hl 0 rfl) ?_
  refine lv_aload_n hx hb dM_bits_1 rfl (lv_at hl 0 rfl) ?_
  refine lv_iload_n hx hb dM_bits_2 rfl (lv_at hl 1 rfl) ?_
  refine dw_calli (wc := [(m0, .inr (5, [.int (ft), .int (nI (n)), .ref aMd, .ref aO1, .ref aT2, .int (nI (R)), .ref aSh, .ref aMk, .ref aFa, .ref aDe, .ref aNe, .ref aBy, .ref aPi, .int (pd), .ref aNw, .ref aNs, .ref aBf, .int (rn), .int (rr)]))]) (wr := [(aMd, .inl (cI, 24, .inl (fun w => nI (db_rk (K w))))), (aO1, .inl (cI, 24, .inl (db_one1 K X Nm))), (aT2, .inl (cI, 24, .inl (db_two2 K Y Nm))), (aSh, .inl (cI, 4, .inl (fun r => nI (RV r)))), (aMk, .inl (cI, 4, .inl (Ms))), (aFa, .inl (cI, 768, .inl (Fa))), (aDe, .inl (cZ, 768, .inl (De))), (aNe, .inl (cZ, 768, .inl (Ne))), (aBy, .inl (cI, 24, .inl (By))), (aPi, .inl (cI, 1600, .inl (Pi)))]) hG [0] [1, 2, 3, 4, 5, 6, 7, 8, 9, 10] rfl rfl (by decide) (by decide) (va_runV (As := [.int (nI (v))]) (rest := [.ref m0]) ⟨hx, hb, hml, hown, hts⟩ (rf_isValue l dC dI cI cZ m0 aMd aO1 aT2 aSh aMk aFa aDe aNe aBy aPi aNw aNs aBf ft (nI n) (nI R) pd rn rr (nI (v)) H.size ) (dc_V 1 hts tw_573 tw_575 tp_M_isValue tw_7 tw_576 rfl rfl (by decide +kernel) ⟨Nat.le_of_ble_eq_true rfl, Nat.le_of_ble_eq_true rfl⟩) (dw_preV (ci := 5) hG [0] [0, 1] rfl rfl (by decide) rfl rfl (q0 := 0) rfl) rfl rfl hl.1 rfl (lv_room (Nat.le_of_ble_eq_true rfl)) dM_bits_3 ⟨Nat.le_refl _, Nat.le_refl _⟩) (fun r u H locs hp hG => ?_)
  subst hp
  have hG : dw_G (dC, dI) vwCl [(cI, .int), (cZ, .boolean)] A s.heap s [(aMd, .inl (cI, 24, .inl (fun w => nI (db_rk (K w))))), (aO1, .inl (cI, 24, .inl (db_one1 K X Nm))), (aT2, .inl (cI, 24, .inl (db_two2 K Y Nm))), (aSh, .inl (cI, 4, .inl (fun r => nI (RV r)))), (aMk, .inl (cI, 4, .inl (Ms))), (aFa, .inl (cI, 768, .inl (Fa))), (aDe, .inl (cZ, 768, .inl (De))), (aNe, .inl (cZ, 768, .inl (Ne))), (aBy, .inl (cI, 24, .inl (By))), (aPi, .inl (cI, 1600, .inl (Pi))), (m0, .inr (5, [.int (ft), .int (nI (n)), .ref aMd, .ref aO1, .ref aT2, .int (nI (R)), .ref aSh, .ref aMk, .ref aFa, .ref aDe, .ref aNe, .ref aBy, .ref aPi, .int (pd), .ref aNw, .ref aNs, .ref aBf, .int (rn), .int (rr)]))] H locs := hG
  refine lv_topi (nm_r (show (db_isv (nI (v)) (nI n) : Int32) = 1 from (db_isv_y (by omega) (by omega))) ?_)
  refine lv_if_ne (tgt := 13) hx hb dM_bits_6 (by decide) (fun h6 => ?_) (fun h6 => ?_)
  · skip
    replace h6 : ¬ 1 = 0 := fun hq0 => h6 ((nI_eq (a := 1) (b := 0) (by omega) (by omega)).mpr hq0)
    refine lv_iload_n hx hb dM_bits_13 rfl (lv_at hl 2 rfl) ?_
    refine lv_if_lt (tgt := 22) hx hb dM_bits_14 (by decide) (fun h14 => ?_) (fun h14 => ?_)
    · skip
      replace h14 := (nI_ltI (a := 2) (b := 0) (by omega) (by omega)).mp h14
      (exfalso; omega)
    replace h14 : ¬ 2 < 0 := fun hq0 => h14 ((nI_ltI (a := 2) (b := 0) (by omega) (by omega)).mpr hq0)
    refine lv_iload_n hx hb dM_bits_17 rfl (lv_at hl 2 rfl) ?_
    refine lv_iconst (v := 4) hx hb dM_bits_18 (by decide) ?_
    refine lv_icmp_le (tgt := 26) hx hb dM_bits_19 (by decide) (fun h19 => ?_) (fun h19 => ?_)
    · skip
      replace h19 := (nI_leI (a := 2) (b := 4) (by omega) (by omega)).mp h19
      refine lv_iconst (v := 0) hx hb dM_bits_26 (by decide) ?_
      refine dw_put (ws' := [(aMd, .inl (cI, 24, .inl (fun w => nI (db_rk (K w))))), (aO1, .inl (cI, 24, .inl (db_one1 K X Nm))), (aT2, .inl (cI, 24, .inl (db_two2 K Y Nm))), (aSh, .inl (cI, 4, .inl (fun r => nI (RV r)))), (aMk, .inl (cI, 4, .inl (Ms))), (aFa, .inl (cI, 768, .inl (Fa))), (aDe, .inl (cZ, 768, .inl (De))), (aNe, .inl (cZ, 768, .inl (Ne))), (aBy, .inl (cI, 24, .inl (By))), (aPi, .inl (cI, 1600, .inl (Pi))), (m0, .inr (5, [.int (0), .int (nI (n)), .ref aMd, .ref aO1, .ref aT2, .int (nI (R)), .ref aSh, .ref aMk, .ref aFa, .ref aDe, .ref aNe, .ref aBy, .ref aPi, .int (pd), .ref aNw, .ref aNs, .ref aBf, .int (rn), .int (rr)]))]) hx hb hts inMc tyM tyM_ok nmM hown hG 10 0 rfl rfl (by decide) hw494 rfl rfl (ty := .int) (by decide +kernel) rfl rfl (Nat.le_of_ble_eq_true rfl) dM_bits_27 rfl (fun H locs hG => ?_)
      refine lv_aload_n hx hb dM_bits_30 rfl (lv_at hl 0 rfl) ?_
      refine dw_get hx hb hts inMc hown hG 10 0 rfl rfl (by decide) hw494 rfl rfl dM_bits_31 ?_
      refine lv_if_le (tgt := 39) hx hb dM_bits_34 (by decide) (fun h34 => ?_) (fun h34 => ?_)
      · skip
        replace h34 := (nI_leI (a := 0) (b := 0) (by omega) (by omega)).mp h34
        refine lv_aload_n hx hb dM_bits_39 rfl (lv_at hl 0 rfl) ?_
        refine dw_callv (wc := [(m0, .inr (5, [.int (0), .int (nI (n)), .ref aMd, .ref aO1, .ref aT2, .int (nI (R)), .ref aSh, .ref aMk, .ref aFa, .ref aDe, .ref aNe, .ref aBy, .ref aPi, .int (pd), .ref aNw, .ref aNs, .ref aBf, .int (rn), .int (rr)])), (aMd, .inl (cI, 24, .inl (fun w => nI (db_rk (K w))))), (aO1, .inl (cI, 24, .inl (db_one1 K X Nm))), (aT2, .inl (cI, 24, .inl (db_two2 K Y Nm))), (aSh, .inl (cI, 4, .inl (fun r => nI (RV r)))), (aMk, .inl (cI, 4, .inl (Ms))), (aFa, .inl (cI, 768, .inl (Fa))), (aDe, .inl (cZ, 768, .inl (De))), (aNe, .inl (cZ, 768, .inl (Ne))), (aBy, .inl (cI, 24, .inl (By))), (aPi, .inl (cI, 1600, .inl (Pi)))]) (wr := []) hG [10, 0, 1, 2, 3, 4, 5, 6, 7, 8, 9] [] rfl rfl (by decide) (by decide) (va_runV (As := []) (rest := []) ⟨hx, hb, hml, hown, hts⟩ (rf_analyse l dC dI cI cZ m0 aMd aO1 aT2 aSh aMk aFa aDe aNe aBy aPi aNw aNs aBf n R (0) (rn) (rr) (pd) K X Y Nm RV Ms (Fa) (De) (Ne) (By) (Pi) H.size hn hR hwf hRV) (dc_V 0 hts tw_601 tw_603 tp_M_analyse tw_7 tw_604 rfl rfl (by decide +kernel) ⟨Nat.le_of_ble_eq_true rfl, Nat.le_of_ble_eq_true rfl⟩) (dw_preV (ci := 5) hG [10, 0, 1, 2, 3, 4, 5, 6, 7, 8, 9] [0, 1] rfl rfl (by decide) rfl rfl (q0 := 10) rfl) rfl rfl hl.1 rfl (lv_room (Nat.le_of_ble_eq_true rfl)) dM_bits_40 ⟨Nat.le_refl _, Nat.le_refl _⟩) (fun a H locs ha hG => ?_)
        have hG : dw_G (dC, dI) vwCl [(cI, .int), (cZ, .boolean)] A s.heap s [(m0, .inr (5, [.int (0), .int (nI (n)), .ref aMd, .ref aO1, .ref aT2, .int (nI (R)), .ref aSh, .ref aMk, .ref aFa, .ref aDe, .ref aNe, .ref aBy, .ref aPi, .int (nI a.2.2.2.2.2), .ref aNw, .ref aNs, .ref aBf, .int (rn), .int (rr)])), (aMd, .inl (cI, 24, .inl (fun w => nI (db_rk (K w))))), (aO1, .inl (cI, 24, .inl (db_one1 K X Nm))), (aT2, .inl (cI, 24, .inl (db_two2 K Y Nm))), (aSh, .inl (cI, 4, .inl (fun r => nI (RV r)))), (aMk, .inl (cI, 4, .inl (Ms))), (aFa, .inl (cI, 768, .inl (a.1))), (aDe, .inl (cZ, 768, .inl (a.2.1))), (aNe, .inl (cZ, 768, .inl (a.2.2.1))), (aBy, .inl (cI, 24, .inl (a.2.2.2.1))), (aPi, .inl (cI, 1600, .inl (a.2.2.2.2.1)))] H locs := hG
        refine lv_iload_n hx hb dM_bits_43 rfl (lv_at hl 2 rfl) ?_
        refine lv_tableIn (tgt := 90) hx hb dM_bits_44 (by decide) (by decide) rfl (by decide) ?_
        refine lv_aload_n hx hb dM_bits_90 rfl (lv_at hl 0 rfl) ?_
        refine lv_aload_n hx hb dM_bits_91 rfl (lv_at hl 0 rfl) ?_
        refine dw_get hx hb hts inMc hown hG 0 9 rfl rfl (by decide) hw503 rfl rfl dM_bits_92 ?_
        refine lv_iload_n hx hb dM_bits_95 rfl (lv_at hl 1 rfl) ?_
        refine dw_calli (wc := [(aDe, .inl (cZ, 768, .inl (a.2.1)))]) (wr := [(m0, .inr (5, [.int (0), .int (nI (n)), .ref aMd, .ref aO1, .ref aT2, .int (nI (R)), .ref aSh, .ref aMk, .ref aFa, .ref aDe, .ref aNe, .ref aBy, .ref aPi, .int (nI a.2.2.2.2.2), .ref aNw, .ref aNs, .ref aBf, .int (rn), .int (rr)])), (aMd, .inl (cI, 24, .inl (fun w => nI (db_rk (K w))))), (aO1, .inl (cI, 24, .inl (db_one1 K X Nm))), (aT2, .inl (cI, 24, .inl (db_two2 K Y Nm))), (aSh, .inl (cI, 4, .inl (fun r => nI (RV r)))), (aMk, .inl (cI, 4, .inl (Ms))), (aFa, .inl (cI, 768, .inl (a.1))), (aNe, .inl (cZ, 768, .inl (a.2.2.1))), (aBy, .inl (cI, 24, .inl (a.2.2.2.1))), (aPi, .inl (cI, 1600, .inl (a.2.2.2.2.1)))]) hG [7] [0, 1, 2, 3, 4, 5, 6, 8, 9, 10] rfl rfl (by decide) (by decide) (va_runV (As := [.ref aDe, .int (nI (v))]) (rest := []) ⟨hx, hb, hml, hown, hts⟩ (rf_word l dC dI cI cZ m0 aDe v (a.2.1) (db_D1 n K X Y Nm R RV Ms v) H.size (by omega) (ha.2.1 v hv)) (dc_V 2 hts tw_680 tw_682 tp_M_word tw_7 tw_683 rfl rfl (by decide +kernel) ⟨Nat.le_of_ble_eq_true rfl, Nat.le_of_ble_eq_true rfl⟩) (dw_preV (ci := 5) hG [7] [0, 1] rfl rfl (by decide) rfl rfl (q0 := 0) rfl) rfl rfl hl.1 rfl (lv_room (Nat.le_of_ble_eq_true rfl)) dM_bits_96 ⟨Nat.le_refl _, Nat.le_refl _⟩) (fun r u H locs hp hG => ?_)
        subst hp
        have hG : dw_G (dC, dI) vwCl [(cI, .int), (cZ, .boolean)] A s.heap s [(m0, .inr (5, [.int (0), .int (nI (n)), .ref aMd, .ref aO1, .ref aT2, .int (nI (R)), .ref aSh, .ref aMk, .ref aFa, .ref aDe, .ref aNe, .ref aBy, .ref aPi, .int (nI a.2.2.2.2.2), .ref aNw, .ref aNs, .ref aBf, .int (rn), .int (rr)])), (aMd, .inl (cI, 24, .inl (fun w => nI (db_rk (K w))))), (aO1, .inl (cI, 24, .inl (db_one1 K X Nm))), (aT2, .inl (cI, 24, .inl (db_two2 K Y Nm))), (aSh, .inl (cI, 4, .inl (fun r => nI (RV r)))), (aMk, .inl (cI, 4, .inl (Ms))), (aFa, .inl (cI, 768, .inl (a.1))), (aNe, .inl (cZ, 768, .inl (a.2.2.1))), (aBy, .inl (cI, 24, .inl (a.2.2.2.1))), (aPi, .inl (cI, 1600, .inl (a.2.2.2.2.1))), (aDe, .inl (cZ, 768, .inl (a.2.1)))] H locs := hG
        subst hQ
        exact dw_iret hx hb hr (dw_perm hG [0, 1, 2, 3, 4, 5, 6, 10, 7, 8, 9] (by decide) rfl rfl) (a) rfl ⟨rfl, ha⟩ dM_bits_99 hlocks
      replace h34 : ¬ 0 ≤ 0 := fun hq0 => h34 ((nI_leI (a := 0) (b := 0) (by omega) (by omega)).mpr hq0)
      (exfalso; omega)
    replace h19 : ¬ 2 ≤ 4 := fun hq0 => h19 ((nI_leI (a := 2) (b := 4) (by omega) (by omega)).mpr hq0)
    (exfalso; omega)
  replace h6 := (nI_eq (a := 1) (b := 0) (by omega) (by omega)).mp h6
  (exfalso; omega)

set_option maxRecDepth 100000 in
set_option maxHeartbeats 4000000 in
theorem rf_bits_03 (l : Launch) (dC : Nat → ClassId) (dI : Nat → Nat → Nat) (cI cZ : ClassId) (m0 aMd aO1 aT2 aSh aMk aFa aDe aNe aBy aPi aNw aNs aBf n R : Nat) (ft rn rr pd : Int32) (K X Y : Nat → Nat) (Nm : Nat → Int32) (RV : Nat → Nat) (Ms : Nat → Int32) (Fa De Ne By Pi : Nat → Int32) (v : Nat) (sz : Nat) (hn : n ≤ 24) (hR : R ≤ 4) (hwf : db_wf n K X Y Nm) (hRV : ∀ r, r < R → RV r < n) (hv : v < n) : Met l yM_bits wsM_bits { frames := 5, cells := 0, slots := 0, locals := 180 } (va_Pc [.ref m0, .int (nI (v)), .int (3)] (dw_pre (dC, dI) vwCl [(m0, .inr (5, [.int (ft), .int (nI (n)), .ref aMd, .ref aO1, .ref aT2, .int (nI (R)), .ref aSh, .ref aMk, .ref aFa, .ref aDe, .ref aNe, .ref aBy, .ref aPi, .int (pd), .ref aNw, .ref aNs, .ref aBf, .int (rn), .int (rr)])), (aMd, .inl (cI, 24, .inl (fun w => nI (db_rk (K w))))), (aO1, .inl (cI, 24, .inl (db_one1 K X Nm))), (aT2, .inl (cI, 24, .inl (db_two2 K Y Nm))), (aSh, .inl (cI, 4, .inl (fun r => nI (RV r)))), (aMk, .inl (cI, 4, .inl (Ms))), (aFa, .inl (cI, 768, .inl (Fa))), (aDe, .inl (cZ, 768, .inl (De))), (aNe, .inl (cZ, 768, .inl (Ne))), (aBy, .inl (cI, 24, .inl (By))), (aPi, .inl (cI, 1600, .inl (Pi)))] [(cI, .int), (cZ, .boolean)] sz)) (va_Qi (fun (r : Int32) (u : db_AR) => r = (if (db_D1 n K X Y Nm R RV Ms v) &&& (-256) = 0 then 8 else if (db_D1 n K X Y Nm R RV Ms v) &&& (-65536) = 0 then 16 else 32) ∧ db_an n K X Y Nm R RV Ms u) (fun u t => dw_post (dC, dI) vwCl [(m0, .inr (5, [.int (0), .int (nI (n)), .ref aMd, .ref aO1, .ref aT2, .int (nI (R)), .ref aSh, .ref aMk, .ref aFa, .ref aDe, .ref aNe, .ref aBy, .ref aPi, .int (nI u.2.2.2.2.2), .ref aNw, .ref aNs, .ref aBf, .int (rn), .int (rr)])), (aMd, .inl (cI, 24, .inl (fun w => nI (db_rk (K w))))), (aO1, .inl (cI, 24, .inl (db_one1 K X Nm))), (aT2, .inl (cI, 24, .inl (db_two2 K Y Nm))), (aSh, .inl (cI, 4, .inl (fun r => nI (RV r)))), (aMk, .inl (cI, 4, .inl (Ms))), (aFa, .inl (cI, 768, .inl (u.1))), (aDe, .inl (cZ, 768, .inl (u.2.1))), (aNe, .inl (cZ, 768, .inl (u.2.2.1))), (aBy, .inl (cI, 24, .inl (u.2.2.2.1))), (aPi, .inl (cI, 1600, .inl (u.2.2.2.2.1)))] [(cI, .int), (cZ, .boolean)] (va_A [(m0, .inr (5, [.int (ft), .int (nI (n)), .ref aMd, .ref aO1, .ref aT2, .int (nI (R)), .ref aSh, .ref aMk, .ref aFa, .ref aDe, .ref aNe, .ref aBy, .ref aPi, .int (pd), .ref aNw, .ref aNs, .ref aBf, .int (rn), .int (rr)])), (aMd, .inl (cI, 24, .inl (fun w => nI (db_rk (K w))))), (aO1, .inl (cI, 24, .inl (db_one1 K X Nm))), (aT2, .inl (cI, 24, .inl (db_two2 K Y Nm))), (aSh, .inl (cI, 4, .inl (fun r => nI (RV r)))), (aMk, .inl (cI, 4, .inl (Ms))), (aFa, .inl (cI, 768, .inl (Fa))), (aDe, .inl (cZ, 768, .inl (De))), (aNe, .inl (cZ, 768, .inl (Ne))), (aBy, .inl (cI, 24, .inl (By))), (aPi, .inl (cI, 1600, .inl (Pi)))] sz) t) (va_A [(m0, .inr (5, [.int (ft), .int (nI (n)), .ref aMd, .ref aO1, .ref aT2, .int (nI (R)), .ref aSh, .ref aMk, .ref aFa, .ref aDe, .ref aNe, .ref aBy, .ref aPi, .int (pd), .ref aNw, .ref aNs, .ref aBf, .int (rn), .int (rr)])), (aMd, .inl (cI, 24, .inl (fun w => nI (db_rk (K w))))), (aO1, .inl (cI, 24, .inl (db_one1 K X Nm))), (aT2, .inl (cI, 24, .inl (db_two2 K Y Nm))), (aSh, .inl (cI, 4, .inl (fun r => nI (RV r)))), (aMk, .inl (cI, 4, .inl (Ms))), (aFa, .inl (cI, 768, .inl (Fa))), (aDe, .inl (cZ, 768, .inl (De))), (aNe, .inl (cZ, 768, .inl (Ne))), (aBy, .inl (cI, 24, .inl (By))), (aPi, .inl (cI, 1600, .inl (Pi)))] sz)) 0 0 (va_A [(m0, .inr (5, [.int (ft), .int (nI (n)), .ref aMd, .ref aO1, .ref aT2, .int (nI (R)), .ref aSh, .ref aMk, .ref aFa, .ref aDe, .ref aNe, .ref aBy, .ref aPi, .int (pd), .ref aNw, .ref aNs, .ref aBf, .int (rn), .int (rr)])), (aMd, .inl (cI, 24, .inl (fun w => nI (db_rk (K w))))), (aO1, .inl (cI, 24, .inl (db_one1 K X Nm))), (aT2, .inl (cI, 24, .inl (db_two2 K Y Nm))), (aSh, .inl (cI, 4, .inl (fun r => nI (RV r)))), (aMk, .inl (cI, 4, .inl (Ms))), (aFa, .inl (cI, 768, .inl (Fa))), (aDe, .inl (cZ, 768, .inl (De))), (aNe, .inl (cZ, 768, .inl (Ne))), (aBy, .inl (cI, 24, .inl (By))), (aPi, .inl (cI, 1600, .inl (Pi)))] sz) := by
  refine Met.ofW (cc := cM_bits) (maxL := 3) (ret := (some .int)) (by decide) rfl ?_
  intro p e s m args below meth c s₁ B hml hv0
  have hx := B.exec
  have hb := B.bytes
  have hr := B.returns
  have hts := atoms_spec (ws := wsM_bits) B.pre
  have hown : s.vm.findClass RM = some m.cls := findClass_of_methodNamed B.named
  have hlocks := B.notSynchronized
  obtain ⟨rfl, hsz, hG⟩ := dw_enter hv0
  generalize va_A [(m0, .inr (5, [.int (ft), .int (nI (n)), .ref aMd, .ref aO1, .ref aT2, .int (nI (R)), .ref aSh, .ref aMk, .ref aFa, .ref aDe, .ref aNe, .ref aBy, .ref aPi, .int (pd), .ref aNw, .ref aNs, .ref aBf, .int (rn), .int (rr)])), (aMd, .inl (cI, 24, .inl (fun w => nI (db_rk (K w))))), (aO1, .inl (cI, 24, .inl (db_one1 K X Nm))), (aT2, .inl (cI, 24, .inl (db_two2 K Y Nm))), (aSh, .inl (cI, 4, .inl (fun r => nI (RV r)))), (aMk, .inl (cI, 4, .inl (Ms))), (aFa, .inl (cI, 768, .inl (Fa))), (aDe, .inl (cZ, 768, .inl (De))), (aNe, .inl (cZ, 768, .inl (Ne))), (aBy, .inl (cI, 24, .inl (By))), (aPi, .inl (cI, 1600, .inl (Pi)))] sz = A at hG ⊢
  have hl := lv_entry ([.ref m0, .int (nI (v)), .int (3)]) (n := 3) (Nat.le_of_ble_eq_true rfl)
  rw [lg_entry_eq]
  generalize (lg_sl ([.ref m0, .int (nI (v)), .int (3)]) ++ List.replicate (3 - (lg_sl ([.ref m0, .int (nI (v)), .int (3)])).length) Slot.unset).toArray = ls at hl ⊢
  have hl : lv_has ls 3 [(0, .ref m0), (1, .int (nI (v))), (2, .int (3))] := hl
  have hw494 := hts _ (List.mem_cons_of_mem _ tw_494)
  refine dw_Q (fun Q hQ => ?_)
  suffices hgo : ∀ (H : Heap) (locs : List Loc), dw_G (dC, dI) vwCl [(cI, .int), (cZ, .boolean)] A s.heap s [(m0, .inr (5, [.int (ft), .int (nI (n)), .ref aMd, .ref aO1, .ref aT2, .int (nI (R)), .ref aSh, .ref aMk, .ref aFa, .ref aDe, .ref aNe, .ref aBy, .ref aPi, .int (pd), .ref aNw, .ref aNs, .ref aBf, .int (rn), .int (rr)])), (aMd, .inl (cI, 24, .inl (fun w => nI (db_rk (K w))))), (aO1, .inl (cI, 24, .inl (db_one1 K X Nm))), (aT2, .inl (cI, 24, .inl (db_two2 K Y Nm))), (aSh, .inl (cI, 4, .inl (fun r => nI (RV r)))), (aMk, .inl (cI, 4, .inl (Ms))), (aFa, .inl (cI, 768, .inl (Fa))), (aDe, .inl (cZ, 768, .inl (De))), (aNe, .inl (cZ, 768, .inl (Ne))), (aBy, .inl (cI, 24, .inl (By))), (aPi, .inl (cI, 1600, .inl (Pi)))] H locs → W p l e (headSpec wsM_bits { frames := 5, cells := 0, slots := 0, locals := 180 }).room s m [.ref m0, .int (nI (v)), .int (3)].toArray below meth c H locs 0 0 Q (F0 m 0 ls []) from hgo _ _ hG
  clear hG
  intro H locs hG
  refine lv_aload_n hx hb dM_bits_0 rfl (lv_at hl 0 rfl) ?_
  refine lv_aload_n hx hb dM_bits_1 rfl (lv_at hl 0 rfl) ?_
  refine lv_iload_n hx hb dM_bits_2 rfl (lv_at hl 1 rfl) ?_
  refine dw_calli (wc := [(m0, .inr (5, [.int (ft), .int (nI (n)), .ref aMd, .ref aO1, .ref aT2, .int (nI (R)), .ref aSh, .ref aMk, .ref aFa, .ref aDe, .ref aNe, .ref aBy, .ref aPi, .int (pd), .ref aNw, .ref aNs, .ref aBf, .int (rn), .int (rr)]))]) (wr := [(aMd, .inl (cI, 24, .inl (fun w => nI (db_rk (K w))))), (aO1, .inl (cI, 24, .inl (db_one1 K X Nm))), (aT2, .inl (cI, 24, .inl (db_two2 K Y Nm))), (aSh, .inl (cI, 4, .inl (fun r => nI (RV r)))), (aMk, .inl (cI, 4, .inl (Ms))), (aFa, .inl (cI, 768, .inl (Fa))), (aDe, .inl (cZ, 768, .inl (De))), (aNe, .inl (cZ, 768, .inl (Ne))), (aBy, .inl (cI, 24, .inl (By))), (aPi, .inl (cI, 1600, .inl (Pi)))]) hG [0] [1, 2, 3, 4, 5, 6, 7, 8, 9, 10] rfl rfl (by decide) (by decide) (va_runV (As := [.int (nI (v))]) (rest := [.ref m0]) ⟨hx, hb, hml, hown, hts⟩ (rf_isValue l dC dI cI cZ m0 aMd aO1 aT2 aSh aMk aFa aDe aNe aBy aPi aNw aNs aBf ft (nI n) (nI R) pd rn rr (nI (v)) H.size ) (dc_V 1 hts tw_573 tw_575 tp_M_isValue tw_7 tw_576 rfl rfl (by decide +kernel) ⟨Nat.le_of_ble_eq_true rfl, Nat.le_of_ble_eq_true rfl⟩) (dw_preV (ci := 5) hG [0] [0, 1] rfl rfl (by decide) rfl rfl (q0 := 0) rfl) rfl rfl hl.1 rfl (lv_room (Nat.le_of_ble_eq_true rfl)) dM_bits_3 ⟨Nat.le_refl _, Nat.le_refl _⟩) (fun r u H locs hp hG => ?_)
  subst hp
  have hG : dw_G (dC, dI) vwCl [(cI, .int), (cZ, .boolean)] A s.heap s [(aMd, .inl (cI, 24, .inl (fun w => nI (db_rk (K w))))), (aO1, .inl (cI, 24, .inl (db_one1 K X Nm))), (aT2, .inl (cI, 24, .inl (db_two2 K Y Nm))), (aSh, .inl (cI, 4, .inl (fun r => nI (RV r)))), (aMk, .inl (cI, 4, .inl (Ms))), (aFa, .inl (cI, 768, .inl (Fa))), (aDe, .inl (cZ, 768, .inl (De))), (aNe, .inl (cZ, 768, .inl (Ne))), (aBy, .inl (cI, 24, .inl (By))), (aPi, .inl (cI, 1600, .inl (Pi))), (m0, .inr (5, [.int (ft), .int (nI (n)), .ref aMd, .ref aO1, .ref aT2, .int (nI (R)), .ref aSh, .ref aMk, .ref aFa, .ref aDe, .ref aNe, .ref aBy, .ref aPi, .int (pd), .ref aNw, .ref aNs, .ref aBf, .int (rn), .int (rr)]))] H locs := hG
  refine lv_topi (nm_r (show (db_isv (nI (v)) (nI n) : Int32) = 1 from (db_isv_y (by omega) (by omega))) ?_)
  refine lv_if_ne (tgt := 13) hx hb dM_bits_6 (by decide) (fun h6 => ?_) (fun h6 => ?_)
  · skip
    replace h6 : ¬ 1 = 0 := fun hq0 => h6 ((nI_eq (a := 1) (b := 0) (by omega) (by omega)).mpr hq0)
    refine lv_iload_n hx hb dM_bits_13 rfl (lv_at hl 2 rfl) ?_
    refine lv_if_lt (tgt := 22) hx hb dM_bits_14 (by decide) (fun h14 => ?_) (fun h14 => ?_)
    · skip
      replace h14 := (nI_ltI (a := 3) (b := 0) (by omega) (by omega)).mp h14
      (exfalso; omega)
    replace h14 : ¬ 3 < 0 := fun hq0 => h14 ((nI_ltI (a := 3) (b := 0) (by omega) (by omega)).mpr hq0)
    refine lv_iload_n hx hb dM_bits_17 rfl (lv_at hl 2 rfl) ?_
    refine lv_iconst (v := 4) hx hb dM_bits_18 (by decide) ?_
    refine lv_icmp_le (tgt := 26) hx hb dM_bits_19 (by decide) (fun h19 => ?_) (fun h19 => ?_)
    · skip
      replace h19 := (nI_leI (a := 3) (b := 4) (by omega) (by omega)).mp h19
      refine lv_iconst (v := 0) hx hb dM_bits_26 (by decide) ?_
      refine dw_put (ws' := [(aMd, .inl (cI, 24, .inl (fun w => nI (db_rk (K w))))), (aO1, .inl (cI, 24, .inl (db_one1 K X Nm))), (aT2, .inl (cI, 24, .inl (db_two2 K Y Nm))), (aSh, .inl (cI, 4, .inl (fun r => nI (RV r)))), (aMk, .inl (cI, 4, .inl (Ms))), (aFa, .inl (cI, 768, .inl (Fa))), (aDe, .inl (cZ, 768, .inl (De))), (aNe, .inl (cZ, 768, .inl (Ne))), (aBy, .inl (cI, 24, .inl (By))), (aPi, .inl (cI, 1600, .inl (Pi))), (m0, .inr (5, [.int (0), .int (nI (n)), .ref aMd, .ref aO1, .ref aT2, .int (nI (R)), .ref aSh, .ref aMk, .ref aFa, .ref aDe, .ref aNe, .ref aBy, .ref aPi, .int (pd), .ref aNw, .ref aNs, .ref aBf, .int (rn), .int (rr)]))]) hx hb hts inMc tyM tyM_ok nmM hown hG 10 0 rfl rfl (by decide) hw494 rfl rfl (ty := .int) (by decide +kernel) rfl rfl (Nat.le_of_ble_eq_true rfl) dM_bits_27 rfl (fun H locs hG => ?_)
      refine lv_aload_n hx hb dM_bits_30 rfl (lv_at hl 0 rfl) ?_
      refine dw_get hx hb hts inMc hown hG 10 0 rfl rfl (by decide) hw494 rfl rfl dM_bits_31 ?_
      refine lv_if_le (tgt := 39) hx hb dM_bits_34 (by decide) (fun h34 => ?_) (fun h34 => ?_)
      · skip
        replace h34 := (nI_leI (a := 0) (b := 0) (by omega) (by omega)).mp h34
        refine lv_aload_n hx hb dM_bits_39 rfl (lv_at hl 0 rfl) ?_
        refine dw_callv (wc := [(m0, .inr (5, [.int (0), .int (nI (n)), .ref aMd, .ref aO1, .ref aT2, .int (nI (R)), .ref aSh, .ref aMk, .ref aFa, .ref aDe, .ref aNe, .ref aBy, .ref aPi, .int (pd), .ref aNw, .ref aNs, .ref aBf, .int (rn), .int (rr)])), (aMd, .inl (cI, 24, .inl (fun w => nI (db_rk (K w))))), (aO1, .inl (cI, 24, .inl (db_one1 K X Nm))), (aT2, .inl (cI, 24, .inl (db_two2 K Y Nm))), (aSh, .inl (cI, 4, .inl (fun r => nI (RV r)))), (aMk, .inl (cI, 4, .inl (Ms))), (aFa, .inl (cI, 768, .inl (Fa))), (aDe, .inl (cZ, 768, .inl (De))), (aNe, .inl (cZ, 768, .inl (Ne))), (aBy, .inl (cI, 24, .inl (By))), (aPi, .inl (cI, 1600, .inl (Pi)))]) (wr := []) hG [10, 0, 1, 2, 3, 4, 5, 6, 7, 8, 9] [] rfl rfl (by decide) (by decide) (va_runV (As := []) (rest := []) ⟨hx, hb, hml, hown, hts⟩ (rf_analyse l dC dI cI cZ m0 aMd aO1 aT2 aSh aMk aFa aDe aNe aBy aPi aNw aNs aBf n R (0) (rn) (rr) (pd) K X Y Nm RV Ms (Fa) (De) (Ne) (By) (Pi) H.size hn hR hwf hRV) (dc_V 0 hts tw_601 tw_603 tp_M_analyse tw_7 tw_604 rfl rfl (by decide +kernel) ⟨Nat.le_of_ble_eq_true rfl, Nat.le_of_ble_eq_true rfl⟩) (dw_preV (ci := 5) hG [10, 0, 1, 2, 3, 4, 5, 6, 7, 8, 9] [0, 1] rfl rfl (by decide) rfl rfl (q0 := 10) rfl) rfl rfl hl.1 rfl (lv_room (Nat.le_of_ble_eq_true rfl)) dM_bits_40 ⟨Nat.le_refl _, Nat.le_refl _⟩) (fun a H locs ha hG => ?_)
        have hG : dw_G (dC, dI) vwCl [(cI, .int), (cZ, .boolean)] A s.heap s [(m0, .inr (5, [.int (0), .int (nI (n)), .ref aMd, .ref aO1, .ref aT2, .int (nI (R)), .ref aSh, .ref aMk, .ref aFa, .ref aDe, .ref aNe, .ref aBy, .ref aPi, .int (nI a.2.2.2.2.2), .ref aNw, .ref aNs, .ref aBf, .int (rn), .int (rr)])), (aMd, .inl (cI, 24, .inl (fun w => nI (db_rk (K w))))), (aO1, .inl (cI, 24, .inl (db_one1 K X Nm))), (aT2, .inl (cI, 24, .inl (db_two2 K Y Nm))), (aSh, .inl (cI, 4, .inl (fun r => nI (RV r)))), (aMk, .inl (cI, 4, .inl (Ms))), (aFa, .inl (cI, 768, .inl (a.1))), (aDe, .inl (cZ, 768, .inl (a.2.1))), (aNe, .inl (cZ, 768, .inl (a.2.2.1))), (aBy, .inl (cI, 24, .inl (a.2.2.2.1))), (aPi, .inl (cI, 1600, .inl (a.2.2.2.2.1)))] H locs := hG
        refine lv_iload_n hx hb dM_bits_43 rfl (lv_at hl 2 rfl) ?_
        refine lv_tableIn (tgt := 100) hx hb dM_bits_44 (by decide) (by decide) rfl (by decide) ?_
        refine lv_aload_n hx hb dM_bits_100 rfl (lv_at hl 0 rfl) ?_
        refine lv_iload_n hx hb dM_bits_101 rfl (lv_at hl 1 rfl) ?_
        refine lv_bipush (v := 8) hx hb dM_bits_102 (by decide) ?_
        refine dw_calli (wc := [(m0, .inr (5, [.int (0), .int (nI (n)), .ref aMd, .ref aO1, .ref aT2, .int (nI (R)), .ref aSh, .ref aMk, .ref aFa, .ref aDe, .ref aNe, .ref aBy, .ref aPi, .int (nI a.2.2.2.2.2), .ref aNw, .ref aNs, .ref aBf, .int (rn), .int (rr)])), (aDe, .inl (cZ, 768, .inl (a.2.1)))]) (wr := [(aMd, .inl (cI, 24, .inl (fun w => nI (db_rk (K w))))), (aO1, .inl (cI, 24, .inl (db_one1 K X Nm))), (aT2, .inl (cI, 24, .inl (db_two2 K Y Nm))), (aSh, .inl (cI, 4, .inl (fun r => nI (RV r)))), (aMk, .inl (cI, 4, .inl (Ms))), (aFa, .inl (cI, 768, .inl (a.1))), (aNe, .inl (cZ, 768, .inl (a.2.2.1))), (aBy, .inl (cI, 24, .inl (a.2.2.2.1))), (aPi, .inl (cI, 1600, .inl (a.2.2.2.2.1)))]) hG [0, 7] [1, 2, 3, 4, 5, 6, 8, 9, 10] rfl rfl (by decide) (by decide) (va_runV (As := [.int (nI (v)), .int (8)]) (rest := []) ⟨hx, hb, hml, hown, hts⟩ (rf_isNarrow8 l dC dI cI cZ m0 aMd aO1 aT2 aSh aMk aFa aDe aNe aBy aPi aNw aNs aBf 0 (nI n) (nI R) (nI a.2.2.2.2.2) rn rr v a.2.1 (db_D1 n K X Y Nm R RV Ms v) H.size (by omega) (ha.2.1 v hv)) (dc_V 2 hts tw_672 tw_674 tp_M_isNarrow tw_7 tw_675 rfl rfl (by decide +kernel) ⟨Nat.le_of_ble_eq_true rfl, Nat.le_of_ble_eq_true rfl⟩) (dw_preV (ci := 5) hG [0, 7] [0, 1] rfl rfl (by decide) rfl rfl (q0 := 0) rfl) rfl rfl hl.1 rfl (lv_room (Nat.le_of_ble_eq_true rfl)) dM_bits_104 ⟨Nat.le_refl _, Nat.le_refl _⟩) (fun r u H locs hp hG => ?_)
        subst hp
        have hG : dw_G (dC, dI) vwCl [(cI, .int), (cZ, .boolean)] A s.heap s [(aMd, .inl (cI, 24, .inl (fun w => nI (db_rk (K w))))), (aO1, .inl (cI, 24, .inl (db_one1 K X Nm))), (aT2, .inl (cI, 24, .inl (db_two2 K Y Nm))), (aSh, .inl (cI, 4, .inl (fun r => nI (RV r)))), (aMk, .inl (cI, 4, .inl (Ms))), (aFa, .inl (cI, 768, .inl (a.1))), (aNe, .inl (cZ, 768, .inl (a.2.2.1))), (aBy, .inl (cI, 24, .inl (a.2.2.2.1))), (aPi, .inl (cI, 1600, .inl (a.2.2.2.2.1))), (m0, .inr (5, [.int (0), .int (nI (n)), .ref aMd, .ref aO1, .ref aT2, .int (nI (R)), .ref aSh, .ref aMk, .ref aFa, .ref aDe, .ref aNe, .ref aBy, .ref aPi, .int (nI a.2.2.2.2.2), .ref aNw, .ref aNs, .ref aBf, .int (rn), .int (rr)])), (aDe, .inl (cZ, 768, .inl (a.2.1)))] H locs := hG
        rcases Decidable.em ((db_D1 n K X Y Nm R RV Ms v) &&& (-256) = 0) with hc8 | hc8
        · skip
          refine lv_topi (nm_r (show (if (db_D1 n K X Y Nm R RV Ms v) &&& (-256) = 0 then 1 else 0 : Int32) = 1 from (if_pos hc8)) ?_)
          refine lv_if_eq (tgt := 115) hx hb dM_bits_107 (by decide) (fun h107 => ?_) (fun h107 => ?_)
          · skip
            replace h107 := (nI_eq (a := 1) (b := 0) (by omega) (by omega)).mp h107
            (exfalso; omega)
          replace h107 : ¬ 1 = 0 := fun hq0 => h107 ((nI_eq (a := 1) (b := 0) (by omega) (by omega)).mpr hq0)
          refine lv_bipush (v := 8) hx hb dM_bits_110 (by decide) ?_
          refine lv_goto (tgt := 132) hx hb dM_bits_112 (by decide) ?_
          subst hQ
          exact dw_iret hx hb hr (dw_perm hG [9, 0, 1, 2, 3, 4, 5, 10, 6, 7, 8] (by decide) rfl rfl) (a) rfl ⟨(if_pos hc8).symm, ha⟩ dM_bits_132 hlocks
        refine lv_topi (nm_r (show (if (db_D1 n K X Y Nm R RV Ms v) &&& (-256) = 0 then 1 else 0 : Int32) = 0 from (if_neg hc8)) ?_)
        refine lv_if_eq (tgt := 115) hx hb dM_bits_107 (by decide) (fun h107 => ?_) (fun h107 => ?_)
        · skip
          replace h107 := (nI_eq (a := 0) (b := 0) (by omega) (by omega)).mp h107
          refine lv_aload_n hx hb dM_bits_115 rfl (lv_at hl 0 rfl) ?_
          refine lv_iload_n hx hb dM_bits_116 rfl (lv_at hl 1 rfl) ?_
          refine lv_bipush (v := 16) hx hb dM_bits_117 (by decide) ?_
          refine dw_calli (wc := [(m0, .inr (5, [.int (0), .int (nI (n)), .ref aMd, .ref aO1, .ref aT2, .int (nI (R)), .ref aSh, .ref aMk, .ref aFa, .ref aDe, .ref aNe, .ref aBy, .ref aPi, .int (nI a.2.2.2.2.2), .ref aNw, .ref aNs, .ref aBf, .int (rn), .int (rr)])), (aDe, .inl (cZ, 768, .inl (a.2.1)))]) (wr := [(aMd, .inl (cI, 24, .inl (fun w => nI (db_rk (K w))))), (aO1, .inl (cI, 24, .inl (db_one1 K X Nm))), (aT2, .inl (cI, 24, .inl (db_two2 K Y Nm))), (aSh, .inl (cI, 4, .inl (fun r => nI (RV r)))), (aMk, .inl (cI, 4, .inl (Ms))), (aFa, .inl (cI, 768, .inl (a.1))), (aNe, .inl (cZ, 768, .inl (a.2.2.1))), (aBy, .inl (cI, 24, .inl (a.2.2.2.1))), (aPi, .inl (cI, 1600, .inl (a.2.2.2.2.1)))]) hG [9, 10] [0, 1, 2, 3, 4, 5, 6, 7, 8] rfl rfl (by decide) (by decide) (va_runV (As := [.int (nI (v)), .int (16)]) (rest := []) ⟨hx, hb, hml, hown, hts⟩ (rf_isNarrow16 l dC dI cI cZ m0 aMd aO1 aT2 aSh aMk aFa aDe aNe aBy aPi aNw aNs aBf 0 (nI n) (nI R) (nI a.2.2.2.2.2) rn rr v a.2.1 (db_D1 n K X Y Nm R RV Ms v) H.size (by omega) (ha.2.1 v hv)) (dc_V 2 hts tw_672 tw_674 tp_M_isNarrow tw_7 tw_675 rfl rfl (by decide +kernel) ⟨Nat.le_of_ble_eq_true rfl, Nat.le_of_ble_eq_true rfl⟩) (dw_preV (ci := 5) hG [9, 10] [0, 1] rfl rfl (by decide) rfl rfl (q0 := 9) rfl) rfl rfl hl.1 rfl (lv_room (Nat.le_of_ble_eq_true rfl)) dM_bits_119 ⟨Nat.le_refl _, Nat.le_refl _⟩) (fun r u H locs hp hG => ?_)
          subst hp
          have hG : dw_G (dC, dI) vwCl [(cI, .int), (cZ, .boolean)] A s.heap s [(aMd, .inl (cI, 24, .inl (fun w => nI (db_rk (K w))))), (aO1, .inl (cI, 24, .inl (db_one1 K X Nm))), (aT2, .inl (cI, 24, .inl (db_two2 K Y Nm))), (aSh, .inl (cI, 4, .inl (fun r => nI (RV r)))), (aMk, .inl (cI, 4, .inl (Ms))), (aFa, .inl (cI, 768, .inl (a.1))), (aNe, .inl (cZ, 768, .inl (a.2.2.1))), (aBy, .inl (cI, 24, .inl (a.2.2.2.1))), (aPi, .inl (cI, 1600, .inl (a.2.2.2.2.1))), (m0, .inr (5, [.int (0), .int (nI (n)), .ref aMd, .ref aO1, .ref aT2, .int (nI (R)), .ref aSh, .ref aMk, .ref aFa, .ref aDe, .ref aNe, .ref aBy, .ref aPi, .int (nI a.2.2.2.2.2), .ref aNw, .ref aNs, .ref aBf, .int (rn), .int (rr)])), (aDe, .inl (cZ, 768, .inl (a.2.1)))] H locs := hG
          rcases Decidable.em ((db_D1 n K X Y Nm R RV Ms v) &&& (-65536) = 0) with hc16 | hc16
          · skip
            refine lv_topi (nm_r (show (if (db_D1 n K X Y Nm R RV Ms v) &&& (-65536) = 0 then 1 else 0 : Int32) = 1 from (if_pos hc16)) ?_)
            refine lv_if_eq (tgt := 130) hx hb dM_bits_122 (by decide) (fun h122 => ?_) (fun h122 => ?_)
            · skip
              replace h122 := (nI_eq (a := 1) (b := 0) (by omega) (by omega)).mp h122
              (exfalso; omega)
            replace h122 : ¬ 1 = 0 := fun hq0 => h122 ((nI_eq (a := 1) (b := 0) (by omega) (by omega)).mpr hq0)
            refine lv_bipush (v := 16) hx hb dM_bits_125 (by decide) ?_
            refine lv_goto (tgt := 132) hx hb dM_bits_127 (by decide) ?_
            subst hQ
            exact dw_iret hx hb hr (dw_perm hG [9, 0, 1, 2, 3, 4, 5, 10, 6, 7, 8] (by decide) rfl rfl) (a) rfl ⟨((if_neg hc8).trans (if_pos hc16)).symm, ha⟩ dM_bits_132 hlocks
          refine lv_topi (nm_r (show (if (db_D1 n K X Y Nm R RV Ms v) &&& (-65536) = 0 then 1 else 0 : Int32) = 0 from (if_neg hc16)) ?_)
          refine lv_if_eq (tgt := 130) hx hb dM_bits_122 (by decide) (fun h122 => ?_) (fun h122 => ?_)
          · skip
            replace h122 := (nI_eq (a := 0) (b := 0) (by omega) (by omega)).mp h122
            refine lv_bipush (v := 32) hx hb dM_bits_130 (by decide) ?_
            subst hQ
            exact dw_iret hx hb hr (dw_perm hG [9, 0, 1, 2, 3, 4, 5, 10, 6, 7, 8] (by decide) rfl rfl) (a) rfl ⟨((if_neg hc8).trans (if_neg hc16)).symm, ha⟩ dM_bits_132 hlocks
          replace h122 : ¬ 0 = 0 := fun hq0 => h122 ((nI_eq (a := 0) (b := 0) (by omega) (by omega)).mpr hq0)
          (exfalso; omega)
        replace h107 : ¬ 0 = 0 := fun hq0 => h107 ((nI_eq (a := 0) (b := 0) (by omega) (by omega)).mpr hq0)
        (exfalso; omega)
      replace h34 : ¬ 0 ≤ 0 := fun hq0 => h34 ((nI_leI (a := 0) (b := 0) (by omega) (by omega)).mpr hq0)
      (exfalso; omega)
    replace h19 : ¬ 3 ≤ 4 := fun hq0 => h19 ((nI_leI (a := 3) (b := 4) (by omega) (by omega)).mpr hq0)
    (exfalso; omega)
  replace h6 := (nI_eq (a := 1) (b := 0) (by omega) (by omega)).mp h6
  (exfalso; omega)

set_option maxRecDepth 100000 in
set_option maxHeartbeats 4000000 in
theorem rf_bits_04 (l : Launch) (dC : Nat → ClassId) (dI : Nat → Nat → Nat) (cI cZ : ClassId) (m0 aMd aO1 aT2 aSh aMk aFa aDe aNe aBy aPi aNw aNs aBf n R : Nat) (ft rn rr pd : Int32) (K X Y : Nat → Nat) (Nm : Nat → Int32) (RV : Nat → Nat) (Ms : Nat → Int32) (Fa De Ne By Pi : Nat → Int32) (v : Nat) (sz : Nat) (hn : n ≤ 24) (hR : R ≤ 4) (hwf : db_wf n K X Y Nm) (hRV : ∀ r, r < R → RV r < n) (hv : v < n) : Met l yM_bits wsM_bits { frames := 5, cells := 0, slots := 0, locals := 180 } (va_Pc [.ref m0, .int (nI (v)), .int (4)] (dw_pre (dC, dI) vwCl [(m0, .inr (5, [.int (ft), .int (nI (n)), .ref aMd, .ref aO1, .ref aT2, .int (nI (R)), .ref aSh, .ref aMk, .ref aFa, .ref aDe, .ref aNe, .ref aBy, .ref aPi, .int (pd), .ref aNw, .ref aNs, .ref aBf, .int (rn), .int (rr)])), (aMd, .inl (cI, 24, .inl (fun w => nI (db_rk (K w))))), (aO1, .inl (cI, 24, .inl (db_one1 K X Nm))), (aT2, .inl (cI, 24, .inl (db_two2 K Y Nm))), (aSh, .inl (cI, 4, .inl (fun r => nI (RV r)))), (aMk, .inl (cI, 4, .inl (Ms))), (aFa, .inl (cI, 768, .inl (Fa))), (aDe, .inl (cZ, 768, .inl (De))), (aNe, .inl (cZ, 768, .inl (Ne))), (aBy, .inl (cI, 24, .inl (By))), (aPi, .inl (cI, 1600, .inl (Pi)))] [(cI, .int), (cZ, .boolean)] sz)) (va_Qi (fun (r : Int32) (u : db_AR) => r = ((db_D2 n K X Y Nm R RV Ms v)) ∧ db_an n K X Y Nm R RV Ms u) (fun u t => dw_post (dC, dI) vwCl [(m0, .inr (5, [.int (0), .int (nI (n)), .ref aMd, .ref aO1, .ref aT2, .int (nI (R)), .ref aSh, .ref aMk, .ref aFa, .ref aDe, .ref aNe, .ref aBy, .ref aPi, .int (nI u.2.2.2.2.2), .ref aNw, .ref aNs, .ref aBf, .int (rn), .int (rr)])), (aMd, .inl (cI, 24, .inl (fun w => nI (db_rk (K w))))), (aO1, .inl (cI, 24, .inl (db_one1 K X Nm))), (aT2, .inl (cI, 24, .inl (db_two2 K Y Nm))), (aSh, .inl (cI, 4, .inl (fun r => nI (RV r)))), (aMk, .inl (cI, 4, .inl (Ms))), (aFa, .inl (cI, 768, .inl (u.1))), (aDe, .inl (cZ, 768, .inl (u.2.1))), (aNe, .inl (cZ, 768, .inl (u.2.2.1))), (aBy, .inl (cI, 24, .inl (u.2.2.2.1))), (aPi, .inl (cI, 1600, .inl (u.2.2.2.2.1)))] [(cI, .int), (cZ, .boolean)] (va_A [(m0, .inr (5, [.int (ft), .int (nI (n)), .ref aMd, .ref aO1, .ref aT2, .int (nI (R)), .ref aSh, .ref aMk, .ref aFa, .ref aDe, .ref aNe, .ref aBy, .ref aPi, .int (pd), .ref aNw, .ref aNs, .ref aBf, .int (rn), .int (rr)])), (aMd, .inl (cI, 24, .inl (fun w => nI (db_rk (K w))))), (aO1, .inl (cI, 24, .inl (db_one1 K X Nm))), (aT2, .inl (cI, 24, .inl (db_two2 K Y Nm))), (aSh, .inl (cI, 4, .inl (fun r => nI (RV r)))), (aMk, .inl (cI, 4, .inl (Ms))), (aFa, .inl (cI, 768, .inl (Fa))), (aDe, .inl (cZ, 768, .inl (De))), (aNe, .inl (cZ, 768, .inl (Ne))), (aBy, .inl (cI, 24, .inl (By))), (aPi, .inl (cI, 1600, .inl (Pi)))] sz) t) (va_A [(m0, .inr (5, [.int (ft), .int (nI (n)), .ref aMd, .ref aO1, .ref aT2, .int (nI (R)), .ref aSh, .ref aMk, .ref aFa, .ref aDe, .ref aNe, .ref aBy, .ref aPi, .int (pd), .ref aNw, .ref aNs, .ref aBf, .int (rn), .int (rr)])), (aMd, .inl (cI, 24, .inl (fun w => nI (db_rk (K w))))), (aO1, .inl (cI, 24, .inl (db_one1 K X Nm))), (aT2, .inl (cI, 24, .inl (db_two2 K Y Nm))), (aSh, .inl (cI, 4, .inl (fun r => nI (RV r)))), (aMk, .inl (cI, 4, .inl (Ms))), (aFa, .inl (cI, 768, .inl (Fa))), (aDe, .inl (cZ, 768, .inl (De))), (aNe, .inl (cZ, 768, .inl (Ne))), (aBy, .inl (cI, 24, .inl (By))), (aPi, .inl (cI, 1600, .inl (Pi)))] sz)) 0 0 (va_A [(m0, .inr (5, [.int (ft), .int (nI (n)), .ref aMd, .ref aO1, .ref aT2, .int (nI (R)), .ref aSh, .ref aMk, .ref aFa, .ref aDe, .ref aNe, .ref aBy, .ref aPi, .int (pd), .ref aNw, .ref aNs, .ref aBf, .int (rn), .int (rr)])), (aMd, .inl (cI, 24, .inl (fun w => nI (db_rk (K w))))), (aO1, .inl (cI, 24, .inl (db_one1 K X Nm))), (aT2, .inl (cI, 24, .inl (db_two2 K Y Nm))), (aSh, .inl (cI, 4, .inl (fun r => nI (RV r)))), (aMk, .inl (cI, 4, .inl (Ms))), (aFa, .inl (cI, 768, .inl (Fa))), (aDe, .inl (cZ, 768, .inl (De))), (aNe, .inl (cZ, 768, .inl (Ne))), (aBy, .inl (cI, 24, .inl (By))), (aPi, .inl (cI, 1600, .inl (Pi)))] sz) := by
  refine Met.ofW (cc := cM_bits) (maxL := 3) (ret := (some .int)) (by decide) rfl ?_
  intro p e s m args below meth c s₁ B hml hv0
  have hx := B.exec
  have hb := B.bytes
  have hr := B.returns
  have hts := atoms_spec (ws := wsM_bits) B.pre
  have hown : s.vm.findClass RM = some m.cls := findClass_of_methodNamed B.named
  have hlocks := B.notSynchronized
  obtain ⟨rfl, hsz, hG⟩ := dw_enter hv0
  generalize va_A [(m0, .inr (5, [.int (ft), .int (nI (n)), .ref aMd, .ref aO1, .ref aT2, .int (nI (R)), .ref aSh, .ref aMk, .ref aFa, .ref aDe, .ref aNe, .ref aBy, .ref aPi, .int (pd), .ref aNw, .ref aNs, .ref aBf, .int (rn), .int (rr)])), (aMd, .inl (cI, 24, .inl (fun w => nI (db_rk (K w))))), (aO1, .inl (cI, 24, .inl (db_one1 K X Nm))), (aT2, .inl (cI, 24, .inl (db_two2 K Y Nm))), (aSh, .inl (cI, 4, .inl (fun r => nI (RV r)))), (aMk, .inl (cI, 4, .inl (Ms))), (aFa, .inl (cI, 768, .inl (Fa))), (aDe, .inl (cZ, 768, .inl (De))), (aNe, .inl (cZ, 768, .inl (Ne))), (aBy, .inl (cI, 24, .inl (By))), (aPi, .inl (cI, 1600, .inl (Pi)))] sz = A at hG ⊢
  have hl := lv_entry ([.ref m0, .int (nI (v)), .int (4)]) (n := 3) (Nat.le_of_ble_eq_true rfl)
  rw [lg_entry_eq]
  generalize (lg_sl ([.ref m0, .int (nI (v)), .int (4)]) ++ List.replicate (3 - (lg_sl ([.ref m0, .int (nI (v)), .int (4)])).length) Slot.unset).toArray = ls at hl ⊢
  have hl : lv_has ls 3 [(0, .ref m0), (1, .int (nI (v))), (2, .int (4))] := hl
  have hw494 := hts _ (List.mem_cons_of_mem _ tw_494)
  have hw504 := hts _ (List.mem_cons_of_mem _ tw_504)
  refine dw_Q (fun Q hQ => ?_)
  suffices hgo : ∀ (H : Heap) (locs : List Loc), dw_G (dC, dI) vwCl [(cI, .int), (cZ, .boolean)] A s.heap s [(m0, .inr (5, [.int (ft), .int (nI (n)), .ref aMd, .ref aO1, .ref aT2, .int (nI (R)), .ref aSh, .ref aMk, .ref aFa, .ref aDe, .ref aNe, .ref aBy, .ref aPi, .int (pd), .ref aNw, .ref aNs, .ref aBf, .int (rn), .int (rr)])), (aMd, .inl (cI, 24, .inl (fun w => nI (db_rk (K w))))), (aO1, .inl (cI, 24, .inl (db_one1 K X Nm))), (aT2, .inl (cI, 24, .inl (db_two2 K Y Nm))), (aSh, .inl (cI, 4, .inl (fun r => nI (RV r)))), (aMk, .inl (cI, 4, .inl (Ms))), (aFa, .inl (cI, 768, .inl (Fa))), (aDe, .inl (cZ, 768, .inl (De))), (aNe, .inl (cZ, 768, .inl (Ne))), (aBy, .inl (cI, 24, .inl (By))), (aPi, .inl (cI, 1600, .inl (Pi)))] H locs → W p l e (headSpec wsM_bits { frames := 5, cells := 0, slots := 0, locals := 180 }).room s m [.ref m0, .int (nI (v)), .int (4)].toArray below meth c H locs 0 0 Q (F0 m 0 ls []) from hgo _ _ hG
  clear hG
  intro H locs hG
  refine lv_aload_n hx hb dM_bits_0 rfl (lv_at hl 0 rfl) ?_
  refine lv_aload_n hx hb dM_bits_1 rfl (lv_at hl 0 rfl) ?_
  refine lv_iload_n hx hb dM_bits_2 rfl (lv_at hl 1 rfl) ?_
  refine dw_calli (wc := [(m0, .inr (5, [.int (ft), .int (nI (n)), .ref aMd, .ref aO1, .ref aT2, .int (nI (R)), .ref aSh, .ref aMk, .ref aFa, .ref aDe, .ref aNe, .ref aBy, .ref aPi, .int (pd), .ref aNw, .ref aNs, .ref aBf, .int (rn), .int (rr)]))]) (wr := [(aMd, .inl (cI, 24, .inl (fun w => nI (db_rk (K w))))), (aO1, .inl (cI, 24, .inl (db_one1 K X Nm))), (aT2, .inl (cI, 24, .inl (db_two2 K Y Nm))), (aSh, .inl (cI, 4, .inl (fun r => nI (RV r)))), (aMk, .inl (cI, 4, .inl (Ms))), (aFa, .inl (cI, 768, .inl (Fa))), (aDe, .inl (cZ, 768, .inl (De))), (aNe, .inl (cZ, 768, .inl (Ne))), (aBy, .inl (cI, 24, .inl (By))), (aPi, .inl (cI, 1600, .inl (Pi)))]) hG [0] [1, 2, 3, 4, 5, 6, 7, 8, 9, 10] rfl rfl (by decide) (by decide) (va_runV (As := [.int (nI (v))]) (rest := [.ref m0]) ⟨hx, hb, hml, hown, hts⟩ (rf_isValue l dC dI cI cZ m0 aMd aO1 aT2 aSh aMk aFa aDe aNe aBy aPi aNw aNs aBf ft (nI n) (nI R) pd rn rr (nI (v)) H.size ) (dc_V 1 hts tw_573 tw_575 tp_M_isValue tw_7 tw_576 rfl rfl (by decide +kernel) ⟨Nat.le_of_ble_eq_true rfl, Nat.le_of_ble_eq_true rfl⟩) (dw_preV (ci := 5) hG [0] [0, 1] rfl rfl (by decide) rfl rfl (q0 := 0) rfl) rfl rfl hl.1 rfl (lv_room (Nat.le_of_ble_eq_true rfl)) dM_bits_3 ⟨Nat.le_refl _, Nat.le_refl _⟩) (fun r u H locs hp hG => ?_)
  subst hp
  have hG : dw_G (dC, dI) vwCl [(cI, .int), (cZ, .boolean)] A s.heap s [(aMd, .inl (cI, 24, .inl (fun w => nI (db_rk (K w))))), (aO1, .inl (cI, 24, .inl (db_one1 K X Nm))), (aT2, .inl (cI, 24, .inl (db_two2 K Y Nm))), (aSh, .inl (cI, 4, .inl (fun r => nI (RV r)))), (aMk, .inl (cI, 4, .inl (Ms))), (aFa, .inl (cI, 768, .inl (Fa))), (aDe, .inl (cZ, 768, .inl (De))), (aNe, .inl (cZ, 768, .inl (Ne))), (aBy, .inl (cI, 24, .inl (By))), (aPi, .inl (cI, 1600, .inl (Pi))), (m0, .inr (5, [.int (ft), .int (nI (n)), .ref aMd, .ref aO1, .ref aT2, .int (nI (R)), .ref aSh, .ref aMk, .ref aFa, .ref aDe, .ref aNe, .ref aBy, .ref aPi, .int (pd), .ref aNw, .ref aNs, .ref aBf, .int (rn), .int (rr)]))] H locs := hG
  refine lv_topi (nm_r (show (db_isv (nI (v)) (nI n) : Int32) = 1 from (db_isv_y (by omega) (by omega))) ?_)
  refine lv_if_ne (tgt := 13) hx hb dM_bits_6 (by decide) (fun h6 => ?_) (fun h6 => ?_)
  · skip
    replace h6 : ¬ 1 = 0 := fun hq0 => h6 ((nI_eq (a := 1) (b := 0) (by omega) (by omega)).mpr hq0)
    refine lv_iload_n hx hb dM_bits_13 rfl (lv_at hl 2 rfl) ?_
    refine lv_if_lt (tgt := 22) hx hb dM_bits_14 (by decide) (fun h14 => ?_) (fun h14 => ?_)
    · skip
      replace h14 := (nI_ltI (a := 4) (b := 0) (by omega) (by omega)).mp h14
      (exfalso; omega)
    replace h14 : ¬ 4 < 0 := fun hq0 => h14 ((nI_ltI (a := 4) (b := 0) (by omega) (by omega)).mpr hq0)
    refine lv_iload_n hx hb dM_bits_17 rfl (lv_at hl 2 rfl) ?_
    refine lv_iconst (v := 4) hx hb dM_bits_18 (by decide) ?_
    refine lv_icmp_le (tgt := 26) hx hb dM_bits_19 (by decide) (fun h19 => ?_) (fun h19 => ?_)
    · skip
      replace h19 := (nI_leI (a := 4) (b := 4) (by omega) (by omega)).mp h19
      refine lv_iconst (v := 0) hx hb dM_bits_26 (by decide) ?_
      refine dw_put (ws' := [(aMd, .inl (cI, 24, .inl (fun w => nI (db_rk (K w))))), (aO1, .inl (cI, 24, .inl (db_one1 K X Nm))), (aT2, .inl (cI, 24, .inl (db_two2 K Y Nm))), (aSh, .inl (cI, 4, .inl (fun r => nI (RV r)))), (aMk, .inl (cI, 4, .inl (Ms))), (aFa, .inl (cI, 768, .inl (Fa))), (aDe, .inl (cZ, 768, .inl (De))), (aNe, .inl (cZ, 768, .inl (Ne))), (aBy, .inl (cI, 24, .inl (By))), (aPi, .inl (cI, 1600, .inl (Pi))), (m0, .inr (5, [.int (0), .int (nI (n)), .ref aMd, .ref aO1, .ref aT2, .int (nI (R)), .ref aSh, .ref aMk, .ref aFa, .ref aDe, .ref aNe, .ref aBy, .ref aPi, .int (pd), .ref aNw, .ref aNs, .ref aBf, .int (rn), .int (rr)]))]) hx hb hts inMc tyM tyM_ok nmM hown hG 10 0 rfl rfl (by decide) hw494 rfl rfl (ty := .int) (by decide +kernel) rfl rfl (Nat.le_of_ble_eq_true rfl) dM_bits_27 rfl (fun H locs hG => ?_)
      refine lv_aload_n hx hb dM_bits_30 rfl (lv_at hl 0 rfl) ?_
      refine dw_get hx hb hts inMc hown hG 10 0 rfl rfl (by decide) hw494 rfl rfl dM_bits_31 ?_
      refine lv_if_le (tgt := 39) hx hb dM_bits_34 (by decide) (fun h34 => ?_) (fun h34 => ?_)
      · skip
        replace h34 := (nI_leI (a := 0) (b := 0) (by omega) (by omega)).mp h34
        refine lv_aload_n hx hb dM_bits_39 rfl (lv_at hl 0 rfl) ?_
        refine dw_callv (wc := [(m0, .inr (5, [.int (0), .int (nI (n)), .ref aMd, .ref aO1, .ref aT2, .int (nI (R)), .ref aSh, .ref aMk, .ref aFa, .ref aDe, .ref aNe, .ref aBy, .ref aPi, .int (pd), .ref aNw, .ref aNs, .ref aBf, .int (rn), .int (rr)])), (aMd, .inl (cI, 24, .inl (fun w => nI (db_rk (K w))))), (aO1, .inl (cI, 24, .inl (db_one1 K X Nm))), (aT2, .inl (cI, 24, .inl (db_two2 K Y Nm))), (aSh, .inl (cI, 4, .inl (fun r => nI (RV r)))), (aMk, .inl (cI, 4, .inl (Ms))), (aFa, .inl (cI, 768, .inl (Fa))), (aDe, .inl (cZ, 768, .inl (De))), (aNe, .inl (cZ, 768, .inl (Ne))), (aBy, .inl (cI, 24, .inl (By))), (aPi, .inl (cI, 1600, .inl (Pi)))]) (wr := []) hG [10, 0, 1, 2, 3, 4, 5, 6, 7, 8, 9] [] rfl rfl (by decide) (by decide) (va_runV (As := []) (rest := []) ⟨hx, hb, hml, hown, hts⟩ (rf_analyse l dC dI cI cZ m0 aMd aO1 aT2 aSh aMk aFa aDe aNe aBy aPi aNw aNs aBf n R (0) (rn) (rr) (pd) K X Y Nm RV Ms (Fa) (De) (Ne) (By) (Pi) H.size hn hR hwf hRV) (dc_V 0 hts tw_601 tw_603 tp_M_analyse tw_7 tw_604 rfl rfl (by decide +kernel) ⟨Nat.le_of_ble_eq_true rfl, Nat.le_of_ble_eq_true rfl⟩) (dw_preV (ci := 5) hG [10, 0, 1, 2, 3, 4, 5, 6, 7, 8, 9] [0, 1] rfl rfl (by decide) rfl rfl (q0 := 10) rfl) rfl rfl hl.1 rfl (lv_room (Nat.le_of_ble_eq_true rfl)) dM_bits_40 ⟨Nat.le_refl _, Nat.le_refl _⟩) (fun a H locs ha hG => ?_)
        have hG : dw_G (dC, dI) vwCl [(cI, .int), (cZ, .boolean)] A s.heap s [(m0, .inr (5, [.int (0), .int (nI (n)), .ref aMd, .ref aO1, .ref aT2, .int (nI (R)), .ref aSh, .ref aMk, .ref aFa, .ref aDe, .ref aNe, .ref aBy, .ref aPi, .int (nI a.2.2.2.2.2), .ref aNw, .ref aNs, .ref aBf, .int (rn), .int (rr)])), (aMd, .inl (cI, 24, .inl (fun w => nI (db_rk (K w))))), (aO1, .inl (cI, 24, .inl (db_one1 K X Nm))), (aT2, .inl (cI, 24, .inl (db_two2 K Y Nm))), (aSh, .inl (cI, 4, .inl (fun r => nI (RV r)))), (aMk, .inl (cI, 4, .inl (Ms))), (aFa, .inl (cI, 768, .inl (a.1))), (aDe, .inl (cZ, 768, .inl (a.2.1))), (aNe, .inl (cZ, 768, .inl (a.2.2.1))), (aBy, .inl (cI, 24, .inl (a.2.2.2.1))), (aPi, .inl (cI, 1600, .inl (a.2.2.2.2.1)))] H locs := hG
        refine lv_iload_n hx hb dM_bits_43 rfl (lv_at hl 2 rfl) ?_
        refine lv_tableOut (tgt := 133) hx hb dM_bits_44 (by decide) (by decide) ?_
        refine lv_aload_n hx hb dM_bits_133 rfl (lv_at hl 0 rfl) ?_
        refine lv_aload_n hx hb dM_bits_134 rfl (lv_at hl 0 rfl) ?_
        refine dw_get hx hb hts inMc hown hG 0 10 rfl rfl (by decide) hw504 rfl rfl dM_bits_135 ?_
        refine lv_iload_n hx hb dM_bits_138 rfl (lv_at hl 1 rfl) ?_
        refine dw_calli (wc := [(aNe, .inl (cZ, 768, .inl (a.2.2.1)))]) (wr := [(m0, .inr (5, [.int (0), .int (nI (n)), .ref aMd, .ref aO1, .ref aT2, .int (nI (R)), .ref aSh, .ref aMk, .ref aFa, .ref aDe, .ref aNe, .ref aBy, .ref aPi, .int (nI a.2.2.2.2.2), .ref aNw, .ref aNs, .ref aBf, .int (rn), .int (rr)])), (aMd, .inl (cI, 24, .inl (fun w => nI (db_rk (K w))))), (aO1, .inl (cI, 24, .inl (db_one1 K X Nm))), (aT2, .inl (cI, 24, .inl (db_two2 K Y Nm))), (aSh, .inl (cI, 4, .inl (fun r => nI (RV r)))), (aMk, .inl (cI, 4, .inl (Ms))), (aFa, .inl (cI, 768, .inl (a.1))), (aDe, .inl (cZ, 768, .inl (a.2.1))), (aBy, .inl (cI, 24, .inl (a.2.2.2.1))), (aPi, .inl (cI, 1600, .inl (a.2.2.2.2.1)))]) hG [8] [0, 1, 2, 3, 4, 5, 6, 7, 9, 10] rfl rfl (by decide) (by decide) (va_runV (As := [.ref aNe, .int (nI (v))]) (rest := []) ⟨hx, hb, hml, hown, hts⟩ (rf_word l dC dI cI cZ m0 aNe v (a.2.2.1) (db_D2 n K X Y Nm R RV Ms v) H.size (by omega) (ha.2.2.1 v hv)) (dc_V 2 hts tw_680 tw_682 tp_M_word tw_7 tw_683 rfl rfl (by decide +kernel) ⟨Nat.le_of_ble_eq_true rfl, Nat.le_of_ble_eq_true rfl⟩) (dw_preV (ci := 5) hG [8] [0, 1] rfl rfl (by decide) rfl rfl (q0 := 0) rfl) rfl rfl hl.1 rfl (lv_room (Nat.le_of_ble_eq_true rfl)) dM_bits_139 ⟨Nat.le_refl _, Nat.le_refl _⟩) (fun r u H locs hp hG => ?_)
        subst hp
        have hG : dw_G (dC, dI) vwCl [(cI, .int), (cZ, .boolean)] A s.heap s [(m0, .inr (5, [.int (0), .int (nI (n)), .ref aMd, .ref aO1, .ref aT2, .int (nI (R)), .ref aSh, .ref aMk, .ref aFa, .ref aDe, .ref aNe, .ref aBy, .ref aPi, .int (nI a.2.2.2.2.2), .ref aNw, .ref aNs, .ref aBf, .int (rn), .int (rr)])), (aMd, .inl (cI, 24, .inl (fun w => nI (db_rk (K w))))), (aO1, .inl (cI, 24, .inl (db_one1 K X Nm))), (aT2, .inl (cI, 24, .inl (db_two2 K Y Nm))), (aSh, .inl (cI, 4, .inl (fun r => nI (RV r)))), (aMk, .inl (cI, 4, .inl (Ms))), (aFa, .inl (cI, 768, .inl (a.1))), (aDe, .inl (cZ, 768, .inl (a.2.1))), (aBy, .inl (cI, 24, .inl (a.2.2.2.1))), (aPi, .inl (cI, 1600, .inl (a.2.2.2.2.1))), (aNe, .inl (cZ, 768, .inl (a.2.2.1)))] H locs := hG
        subst hQ
        exact dw_iret hx hb hr (dw_perm hG [0, 1, 2, 3, 4, 5, 6, 7, 10, 8, 9] (by decide) rfl rfl) (a) rfl ⟨rfl, ha⟩ dM_bits_142 hlocks
      replace h34 : ¬ 0 ≤ 0 := fun hq0 => h34 ((nI_leI (a := 0) (b := 0) (by omega) (by omega)).mpr hq0)
      (exfalso; omega)
    replace h19 : ¬ 4 ≤ 4 := fun hq0 => h19 ((nI_leI (a := 4) (b := 4) (by omega) (by omega)).mpr hq0)
    (exfalso; omega)
  replace h6 := (nI_eq (a := 1) (b := 0) (by omega) (by omega)).mp h6
  (exfalso; omega)

set_option maxRecDepth 100000 in
set_option maxHeartbeats 4000000 in
theorem rf_bits_1 (l : Launch) (dC : Nat → ClassId) (dI : Nat → Nat → Nat) (cI cZ : ClassId) (m0 aMd aO1 aT2 aSh aMk aFa aDe aNe aBy aPi aNw aNs aBf n R : Nat) (ft rn rr pd : Int32) (v wh : Int32) (sz : Nat) (hinv : db_isv v (nI n) = 0) : Met l yM_bits wsM_bits { frames := 1, cells := 0, slots := 0, locals := 30 } (va_Pc [.ref m0, .int (v), .int (wh)] (dw_pre (dC, dI) vwCl [(m0, .inr (5, [.int (ft), .int (nI (n)), .ref aMd, .ref aO1, .ref aT2, .int (nI (R)), .ref aSh, .ref aMk, .ref aFa, .ref aDe, .ref aNe, .ref aBy, .ref aPi, .int (pd), .ref aNw, .ref aNs, .ref aBf, .int (rn), .int (rr)]))] [(cI, .int), (cZ, .boolean)] sz)) (va_Qi (fun (r : Int32) (u : Unit) => r = 0) (fun u t => dw_post (dC, dI) vwCl [(m0, .inr (5, [.int (1), .int (nI (n)), .ref aMd, .ref aO1, .ref aT2, .int (nI (R)), .ref aSh, .ref aMk, .ref aFa, .ref aDe, .ref aNe, .ref aBy, .ref aPi, .int (pd), .ref aNw, .ref aNs, .ref aBf, .int (rn), .int (rr)]))] [(cI, .int), (cZ, .boolean)] (va_A [(m0, .inr (5, [.int (ft), .int (nI (n)), .ref aMd, .ref aO1, .ref aT2, .int (nI (R)), .ref aSh, .ref aMk, .ref aFa, .ref aDe, .ref aNe, .ref aBy, .ref aPi, .int (pd), .ref aNw, .ref aNs, .ref aBf, .int (rn), .int (rr)]))] sz) t) (va_A [(m0, .inr (5, [.int (ft), .int (nI (n)), .ref aMd, .ref aO1, .ref aT2, .int (nI (R)), .ref aSh, .ref aMk, .ref aFa, .ref aDe, .ref aNe, .ref aBy, .ref aPi, .int (pd), .ref aNw, .ref aNs, .ref aBf, .int (rn), .int (rr)]))] sz)) 0 0 (va_A [(m0, .inr (5, [.int (ft), .int (nI (n)), .ref aMd, .ref aO1, .ref aT2, .int (nI (R)), .ref aSh, .ref aMk, .ref aFa, .ref aDe, .ref aNe, .ref aBy, .ref aPi, .int (pd), .ref aNw, .ref aNs, .ref aBf, .int (rn), .int (rr)]))] sz) := by
  refine Met.ofW (cc := cM_bits) (maxL := 3) (ret := (some .int)) (by decide) rfl ?_
  intro p e s m args below meth c s₁ B hml hv0
  have hx := B.exec
  have hb := B.bytes
  have hr := B.returns
  have hts := atoms_spec (ws := wsM_bits) B.pre
  have hown : s.vm.findClass RM = some m.cls := findClass_of_methodNamed B.named
  have hlocks := B.notSynchronized
  obtain ⟨rfl, hsz, hG⟩ := dw_enter hv0
  generalize va_A [(m0, .inr (5, [.int (ft), .int (nI (n)), .ref aMd, .ref aO1, .ref aT2, .int (nI (R)), .ref aSh, .ref aMk, .ref aFa, .ref aDe, .ref aNe, .ref aBy, .ref aPi, .int (pd), .ref aNw, .ref aNs, .ref aBf, .int (rn), .int (rr)]))] sz = A at hG ⊢
  have hl := lv_entry ([.ref m0, .int (v), .int (wh)]) (n := 3) (Nat.le_of_ble_eq_true rfl)
  rw [lg_entry_eq]
  generalize (lg_sl ([.ref m0, .int (v), .int (wh)]) ++ List.replicate (3 - (lg_sl ([.ref m0, .int (v), .int (wh)])).length) Slot.unset).toArray = ls at hl ⊢
  have hl : lv_has ls 3 [(0, .ref m0), (1, .int (v)), (2, .int (wh))] := hl
  have hw494 := hts _ (List.mem_cons_of_mem _ tw_494)
  refine dw_Q (fun Q hQ => ?_)
  suffices hgo : ∀ (H : Heap) (locs : List Loc), dw_G (dC, dI) vwCl [(cI, .int), (cZ, .boolean)] A s.heap s [(m0, .inr (5, [.int (ft), .int (nI (n)), .ref aMd, .ref aO1, .ref aT2, .int (nI (R)), .ref aSh, .ref aMk, .ref aFa, .ref aDe, .ref aNe, .ref aBy, .ref aPi, .int (pd), .ref aNw, .ref aNs, .ref aBf, .int (rn), .int (rr)]))] H locs → W p l e (headSpec wsM_bits { frames := 1, cells := 0, slots := 0, locals := 30 }).room s m [.ref m0, .int (v), .int (wh)].toArray below meth c H locs 0 0 Q (F0 m 0 ls []) from hgo _ _ hG
  clear hG
  intro H locs hG
  refine lv_aload_n hx hb dM_bits_0 rfl (lv_at hl 0 rfl) ?_
  refine lv_aload_n hx hb dM_bits_1 rfl (lv_at hl 0 rfl) ?_
  refine lv_iload_n hx hb dM_bits_2 rfl (lv_at hl 1 rfl) ?_
  refine dw_calli (wc := [(m0, .inr (5, [.int (ft), .int (nI (n)), .ref aMd, .ref aO1, .ref aT2, .int (nI (R)), .ref aSh, .ref aMk, .ref aFa, .ref aDe, .ref aNe, .ref aBy, .ref aPi, .int (pd), .ref aNw, .ref aNs, .ref aBf, .int (rn), .int (rr)]))]) (wr := []) hG [0] [] rfl rfl (by decide) (by decide) (va_runV (As := [.int (v)]) (rest := [.ref m0]) ⟨hx, hb, hml, hown, hts⟩ (rf_isValue l dC dI cI cZ m0 aMd aO1 aT2 aSh aMk aFa aDe aNe aBy aPi aNw aNs aBf ft (nI n) (nI R) pd rn rr (v) H.size ) (dc_V 1 hts tw_573 tw_575 tp_M_isValue tw_7 tw_576 rfl rfl (by decide +kernel) ⟨Nat.le_of_ble_eq_true rfl, Nat.le_of_ble_eq_true rfl⟩) (dw_preV (ci := 5) hG [0] [0, 1] rfl rfl (by decide) rfl rfl (q0 := 0) rfl) rfl rfl hl.1 rfl (lv_room (Nat.le_of_ble_eq_true rfl)) dM_bits_3 ⟨Nat.le_refl _, Nat.le_refl _⟩) (fun r u H locs hp hG => ?_)
  subst hp
  have hG : dw_G (dC, dI) vwCl [(cI, .int), (cZ, .boolean)] A s.heap s [(m0, .inr (5, [.int (ft), .int (nI (n)), .ref aMd, .ref aO1, .ref aT2, .int (nI (R)), .ref aSh, .ref aMk, .ref aFa, .ref aDe, .ref aNe, .ref aBy, .ref aPi, .int (pd), .ref aNw, .ref aNs, .ref aBf, .int (rn), .int (rr)]))] H locs := hG
  refine lv_topi (nm_r (show (db_isv (v) (nI n) : Int32) = 0 from hinv) ?_)
  refine lv_if_ne (tgt := 13) hx hb dM_bits_6 (by decide) (fun h6 => ?_) (fun h6 => ?_)
  · skip
    replace h6 : ¬ 0 = 0 := fun hq0 => h6 ((nI_eq (a := 0) (b := 0) (by omega) (by omega)).mpr hq0)
    (exfalso; omega)
  replace h6 := (nI_eq (a := 0) (b := 0) (by omega) (by omega)).mp h6
  refine lv_iconst (v := 1) hx hb dM_bits_9 (by decide) ?_
  refine lv_goto (tgt := 27) hx hb dM_bits_10 (by decide) ?_
  refine dw_put (ws' := [(m0, .inr (5, [.int (1), .int (nI (n)), .ref aMd, .ref aO1, .ref aT2, .int (nI (R)), .ref aSh, .ref aMk, .ref aFa, .ref aDe, .ref aNe, .ref aBy, .ref aPi, .int (pd), .ref aNw, .ref aNs, .ref aBf, .int (rn), .int (rr)]))]) hx hb hts inMc tyM tyM_ok nmM hown hG 0 0 rfl rfl (by decide) hw494 rfl rfl (ty := .int) (by decide +kernel) rfl rfl (Nat.le_of_ble_eq_true rfl) dM_bits_27 rfl (fun H locs hG => ?_)
  refine lv_aload_n hx hb dM_bits_30 rfl (lv_at hl 0 rfl) ?_
  refine dw_get hx hb hts inMc hown hG 0 0 rfl rfl (by decide) hw494 rfl rfl dM_bits_31 ?_
  refine lv_if_le (tgt := 39) hx hb dM_bits_34 (by decide) (fun h34 => ?_) (fun h34 => ?_)
  · skip
    replace h34 := (nI_leI (a := 1) (b := 0) (by omega) (by omega)).mp h34
    (exfalso; omega)
  replace h34 : ¬ 1 ≤ 0 := fun hq0 => h34 ((nI_leI (a := 1) (b := 0) (by omega) (by omega)).mpr hq0)
  refine lv_iconst (v := 0) hx hb dM_bits_37 (by decide) ?_
  subst hQ
  exact dw_iret hx hb hr hG (()) rfl rfl dM_bits_38 hlocks

set_option maxRecDepth 100000 in
set_option maxHeartbeats 4000000 in
theorem rf_bits_2 (l : Launch) (dC : Nat → ClassId) (dI : Nat → Nat → Nat) (cI cZ : ClassId) (m0 aMd aO1 aT2 aSh aMk aFa aDe aNe aBy aPi aNw aNs aBf n R : Nat) (ft rn rr pd : Int32) (v : Nat) (wh : Int32) (sz : Nat) (hn : n ≤ 24) (hv : v < n) (hbad : wh < 0 ∨ 4 < wh) : Met l yM_bits wsM_bits { frames := 1, cells := 0, slots := 0, locals := 30 } (va_Pc [.ref m0, .int (nI (v)), .int (wh)] (dw_pre (dC, dI) vwCl [(m0, .inr (5, [.int (ft), .int (nI (n)), .ref aMd, .ref aO1, .ref aT2, .int (nI (R)), .ref aSh, .ref aMk, .ref aFa, .ref aDe, .ref aNe, .ref aBy, .ref aPi, .int (pd), .ref aNw, .ref aNs, .ref aBf, .int (rn), .int (rr)]))] [(cI, .int), (cZ, .boolean)] sz)) (va_Qi (fun (r : Int32) (u : Unit) => r = 0) (fun u t => dw_post (dC, dI) vwCl [(m0, .inr (5, [.int (2), .int (nI (n)), .ref aMd, .ref aO1, .ref aT2, .int (nI (R)), .ref aSh, .ref aMk, .ref aFa, .ref aDe, .ref aNe, .ref aBy, .ref aPi, .int (pd), .ref aNw, .ref aNs, .ref aBf, .int (rn), .int (rr)]))] [(cI, .int), (cZ, .boolean)] (va_A [(m0, .inr (5, [.int (ft), .int (nI (n)), .ref aMd, .ref aO1, .ref aT2, .int (nI (R)), .ref aSh, .ref aMk, .ref aFa, .ref aDe, .ref aNe, .ref aBy, .ref aPi, .int (pd), .ref aNw, .ref aNs, .ref aBf, .int (rn), .int (rr)]))] sz) t) (va_A [(m0, .inr (5, [.int (ft), .int (nI (n)), .ref aMd, .ref aO1, .ref aT2, .int (nI (R)), .ref aSh, .ref aMk, .ref aFa, .ref aDe, .ref aNe, .ref aBy, .ref aPi, .int (pd), .ref aNw, .ref aNs, .ref aBf, .int (rn), .int (rr)]))] sz)) 0 0 (va_A [(m0, .inr (5, [.int (ft), .int (nI (n)), .ref aMd, .ref aO1, .ref aT2, .int (nI (R)), .ref aSh, .ref aMk, .ref aFa, .ref aDe, .ref aNe, .ref aBy, .ref aPi, .int (pd), .ref aNw, .ref aNs, .ref aBf, .int (rn), .int (rr)]))] sz) := by
  refine Met.ofW (cc := cM_bits) (maxL := 3) (ret := (some .int)) (by decide) rfl ?_
  intro p e s m args below meth c s₁ B hml hv0
  have hx := B.exec
  have hb := B.bytes
  have hr := B.returns
  have hts := atoms_spec (ws := wsM_bits) B.pre
  have hown : s.vm.findClass RM = some m.cls := findClass_of_methodNamed B.named
  have hlocks := B.notSynchronized
  obtain ⟨rfl, hsz, hG⟩ := dw_enter hv0
  generalize va_A [(m0, .inr (5, [.int (ft), .int (nI (n)), .ref aMd, .ref aO1, .ref aT2, .int (nI (R)), .ref aSh, .ref aMk, .ref aFa, .ref aDe, .ref aNe, .ref aBy, .ref aPi, .int (pd), .ref aNw, .ref aNs, .ref aBf, .int (rn), .int (rr)]))] sz = A at hG ⊢
  have hl := lv_entry ([.ref m0, .int (nI (v)), .int (wh)]) (n := 3) (Nat.le_of_ble_eq_true rfl)
  rw [lg_entry_eq]
  generalize (lg_sl ([.ref m0, .int (nI (v)), .int (wh)]) ++ List.replicate (3 - (lg_sl ([.ref m0, .int (nI (v)), .int (wh)])).length) Slot.unset).toArray = ls at hl ⊢
  have hl : lv_has ls 3 [(0, .ref m0), (1, .int (nI (v))), (2, .int (wh))] := hl
  have hw494 := hts _ (List.mem_cons_of_mem _ tw_494)
  refine dw_Q (fun Q hQ => ?_)
  suffices hgo : ∀ (H : Heap) (locs : List Loc), dw_G (dC, dI) vwCl [(cI, .int), (cZ, .boolean)] A s.heap s [(m0, .inr (5, [.int (ft), .int (nI (n)), .ref aMd, .ref aO1, .ref aT2, .int (nI (R)), .ref aSh, .ref aMk, .ref aFa, .ref aDe, .ref aNe, .ref aBy, .ref aPi, .int (pd), .ref aNw, .ref aNs, .ref aBf, .int (rn), .int (rr)]))] H locs → W p l e (headSpec wsM_bits { frames := 1, cells := 0, slots := 0, locals := 30 }).room s m [.ref m0, .int (nI (v)), .int (wh)].toArray below meth c H locs 0 0 Q (F0 m 0 ls []) from hgo _ _ hG
  clear hG
  intro H locs hG
  refine lv_aload_n hx hb dM_bits_0 rfl (lv_at hl 0 rfl) ?_
  refine lv_aload_n hx hb dM_bits_1 rfl (lv_at hl 0 rfl) ?_
  refine lv_iload_n hx hb dM_bits_2 rfl (lv_at hl 1 rfl) ?_
  refine dw_calli (wc := [(m0, .inr (5, [.int (ft), .int (nI (n)), .ref aMd, .ref aO1, .ref aT2, .int (nI (R)), .ref aSh, .ref aMk, .ref aFa, .ref aDe, .ref aNe, .ref aBy, .ref aPi, .int (pd), .ref aNw, .ref aNs, .ref aBf, .int (rn), .int (rr)]))]) (wr := []) hG [0] [] rfl rfl (by decide) (by decide) (va_runV (As := [.int (nI (v))]) (rest := [.ref m0]) ⟨hx, hb, hml, hown, hts⟩ (rf_isValue l dC dI cI cZ m0 aMd aO1 aT2 aSh aMk aFa aDe aNe aBy aPi aNw aNs aBf ft (nI n) (nI R) pd rn rr (nI (v)) H.size ) (dc_V 1 hts tw_573 tw_575 tp_M_isValue tw_7 tw_576 rfl rfl (by decide +kernel) ⟨Nat.le_of_ble_eq_true rfl, Nat.le_of_ble_eq_true rfl⟩) (dw_preV (ci := 5) hG [0] [0, 1] rfl rfl (by decide) rfl rfl (q0 := 0) rfl) rfl rfl hl.1 rfl (lv_room (Nat.le_of_ble_eq_true rfl)) dM_bits_3 ⟨Nat.le_refl _, Nat.le_refl _⟩) (fun r u H locs hp hG => ?_)
  subst hp
  have hG : dw_G (dC, dI) vwCl [(cI, .int), (cZ, .boolean)] A s.heap s [(m0, .inr (5, [.int (ft), .int (nI (n)), .ref aMd, .ref aO1, .ref aT2, .int (nI (R)), .ref aSh, .ref aMk, .ref aFa, .ref aDe, .ref aNe, .ref aBy, .ref aPi, .int (pd), .ref aNw, .ref aNs, .ref aBf, .int (rn), .int (rr)]))] H locs := hG
  refine lv_topi (nm_r (show (db_isv (nI (v)) (nI n) : Int32) = 1 from (db_isv_y (by omega) (by omega))) ?_)
  refine lv_if_ne (tgt := 13) hx hb dM_bits_6 (by decide) (fun h6 => ?_) (fun h6 => ?_)
  · skip
    replace h6 : ¬ 1 = 0 := fun hq0 => h6 ((nI_eq (a := 1) (b := 0) (by omega) (by omega)).mpr hq0)
    refine lv_iload_n hx hb dM_bits_13 rfl (lv_at hl 2 rfl) ?_
    refine lv_if_lt (tgt := 22) hx hb dM_bits_14 (by decide) (fun h14 => ?_) (fun h14 => ?_)
    · skip
      refine lv_iconst (v := 2) hx hb dM_bits_22 (by decide) ?_
      refine lv_goto (tgt := 27) hx hb dM_bits_23 (by decide) ?_
      refine dw_put (ws' := [(m0, .inr (5, [.int (2), .int (nI (n)), .ref aMd, .ref aO1, .ref aT2, .int (nI (R)), .ref aSh, .ref aMk, .ref aFa, .ref aDe, .ref aNe, .ref aBy, .ref aPi, .int (pd), .ref aNw, .ref aNs, .ref aBf, .int (rn), .int (rr)]))]) hx hb hts inMc tyM tyM_ok nmM hown hG 0 0 rfl rfl (by decide) hw494 rfl rfl (ty := .int) (by decide +kernel) rfl rfl (Nat.le_of_ble_eq_true rfl) dM_bits_27 rfl (fun H locs hG => ?_)
      refine lv_aload_n hx hb dM_bits_30 rfl (lv_at hl 0 rfl) ?_
      refine dw_get hx hb hts inMc hown hG 0 0 rfl rfl (by decide) hw494 rfl rfl dM_bits_31 ?_
      refine lv_if_le (tgt := 39) hx hb dM_bits_34 (by decide) (fun h34 => ?_) (fun h34 => ?_)
      · skip
        replace h34 := (nI_leI (a := 2) (b := 0) (by omega) (by omega)).mp h34
        (exfalso; omega)
      replace h34 : ¬ 2 ≤ 0 := fun hq0 => h34 ((nI_leI (a := 2) (b := 0) (by omega) (by omega)).mpr hq0)
      refine lv_iconst (v := 0) hx hb dM_bits_37 (by decide) ?_
      subst hQ
      exact dw_iret hx hb hr hG (()) rfl rfl dM_bits_38 hlocks
    refine lv_iload_n hx hb dM_bits_17 rfl (lv_at hl 2 rfl) ?_
    refine lv_iconst (v := 4) hx hb dM_bits_18 (by decide) ?_
    refine lv_icmp_le (tgt := 26) hx hb dM_bits_19 (by decide) (fun h19 => ?_) (fun h19 => ?_)
    · skip
      exact absurd hbad (fun q => q.elim h14 (fun z => Int32.not_lt.mpr h19 z))
    refine lv_iconst (v := 2) hx hb dM_bits_22 (by decide) ?_
    refine lv_goto (tgt := 27) hx hb dM_bits_23 (by decide) ?_
    refine dw_put (ws' := [(m0, .inr (5, [.int (2), .int (nI (n)), .ref aMd, .ref aO1, .ref aT2, .int (nI (R)), .ref aSh, .ref aMk, .ref aFa, .ref aDe, .ref aNe, .ref aBy, .ref aPi, .int (pd), .ref aNw, .ref aNs, .ref aBf, .int (rn), .int (rr)]))]) hx hb hts inMc tyM tyM_ok nmM hown hG 0 0 rfl rfl (by decide) hw494 rfl rfl (ty := .int) (by decide +kernel) rfl rfl (Nat.le_of_ble_eq_true rfl) dM_bits_27 rfl (fun H locs hG => ?_)
    refine lv_aload_n hx hb dM_bits_30 rfl (lv_at hl 0 rfl) ?_
    refine dw_get hx hb hts inMc hown hG 0 0 rfl rfl (by decide) hw494 rfl rfl dM_bits_31 ?_
    refine lv_if_le (tgt := 39) hx hb dM_bits_34 (by decide) (fun h34 => ?_) (fun h34 => ?_)
    · skip
      replace h34 := (nI_leI (a := 2) (b := 0) (by omega) (by omega)).mp h34
      (exfalso; omega)
    replace h34 : ¬ 2 ≤ 0 := fun hq0 => h34 ((nI_leI (a := 2) (b := 0) (by omega) (by omega)).mpr hq0)
    refine lv_iconst (v := 0) hx hb dM_bits_37 (by decide) ?_
    subst hQ
    exact dw_iret hx hb hr hG (()) rfl rfl dM_bits_38 hlocks
  replace h6 := (nI_eq (a := 1) (b := 0) (by omega) (by omega)).mp h6
  (exfalso; omega)

set_option maxRecDepth 100000 in
set_option maxHeartbeats 4000000 in
theorem rf_replaced_0 (l : Launch) (dC : Nat → ClassId) (dI : Nat → Nat → Nat) (cI cZ : ClassId) (m0 aMd aO1 aT2 aSh aMk aFa aDe aNe aBy aPi aNw aNs aBf n R : Nat) (ft rn rr pd : Int32) (K X Y : Nat → Nat) (Nm : Nat → Int32) (RV : Nat → Nat) (Ms : Nat → Int32) (Fa De Ne By Pi : Nat → Int32) (v : Nat) (sz : Nat) (hn : n ≤ 24) (hR : R ≤ 4) (hwf : db_wf n K X Y Nm) (hRV : ∀ r, r < R → RV r < n) (hv : v < n) : Met l yM_replaced wsM_replaced { frames := 5, cells := 0, slots := 0, locals := 180 } (va_Pc [.ref m0, .int (nI (v))] (dw_pre (dC, dI) vwCl [(m0, .inr (5, [.int (ft), .int (nI (n)), .ref aMd, .ref aO1, .ref aT2, .int (nI (R)), .ref aSh, .ref aMk, .ref aFa, .ref aDe, .ref aNe, .ref aBy, .ref aPi, .int (pd), .ref aNw, .ref aNs, .ref aBf, .int (rn), .int (rr)])), (aMd, .inl (cI, 24, .inl (fun w => nI (db_rk (K w))))), (aO1, .inl (cI, 24, .inl (db_one1 K X Nm))), (aT2, .inl (cI, 24, .inl (db_two2 K Y Nm))), (aSh, .inl (cI, 4, .inl (fun r => nI (RV r)))), (aMk, .inl (cI, 4, .inl (Ms))), (aFa, .inl (cI, 768, .inl (Fa))), (aDe, .inl (cZ, 768, .inl (De))), (aNe, .inl (cZ, 768, .inl (Ne))), (aBy, .inl (cI, 24, .inl (By))), (aPi, .inl (cI, 1600, .inl (Pi)))] [(cI, .int), (cZ, .boolean)] sz)) (va_Qi (fun (r : Int32) (u : db_AR) => r = db_Bf n K X Y Nm R RV Ms v ∧ db_an n K X Y Nm R RV Ms u) (fun u t => dw_post (dC, dI) vwCl [(m0, .inr (5, [.int (0), .int (nI (n)), .ref aMd, .ref aO1, .ref aT2, .int (nI (R)), .ref aSh, .ref aMk, .ref aFa, .ref aDe, .ref aNe, .ref aBy, .ref aPi, .int (nI u.2.2.2.2.2), .ref aNw, .ref aNs, .ref aBf, .int (rn), .int (rr)])), (aMd, .inl (cI, 24, .inl (fun w => nI (db_rk (K w))))), (aO1, .inl (cI, 24, .inl (db_one1 K X Nm))), (aT2, .inl (cI, 24, .inl (db_two2 K Y Nm))), (aSh, .inl (cI, 4, .inl (fun r => nI (RV r)))), (aMk, .inl (cI, 4, .inl (Ms))), (aFa, .inl (cI, 768, .inl (u.1))), (aDe, .inl (cZ, 768, .inl (u.2.1))), (aNe, .inl (cZ, 768, .inl (u.2.2.1))), (aBy, .inl (cI, 24, .inl (u.2.2.2.1))), (aPi, .inl (cI, 1600, .inl (u.2.2.2.2.1)))] [(cI, .int), (cZ, .boolean)] (va_A [(m0, .inr (5, [.int (ft), .int (nI (n)), .ref aMd, .ref aO1, .ref aT2, .int (nI (R)), .ref aSh, .ref aMk, .ref aFa, .ref aDe, .ref aNe, .ref aBy, .ref aPi, .int (pd), .ref aNw, .ref aNs, .ref aBf, .int (rn), .int (rr)])), (aMd, .inl (cI, 24, .inl (fun w => nI (db_rk (K w))))), (aO1, .inl (cI, 24, .inl (db_one1 K X Nm))), (aT2, .inl (cI, 24, .inl (db_two2 K Y Nm))), (aSh, .inl (cI, 4, .inl (fun r => nI (RV r)))), (aMk, .inl (cI, 4, .inl (Ms))), (aFa, .inl (cI, 768, .inl (Fa))), (aDe, .inl (cZ, 768, .inl (De))), (aNe, .inl (cZ, 768, .inl (Ne))), (aBy, .inl (cI, 24, .inl (By))), (aPi, .inl (cI, 1600, .inl (Pi)))] sz) t) (va_A [(m0, .inr (5, [.int (ft), .int (nI (n)), .ref aMd, .ref aO1, .ref aT2, .int (nI (R)), .ref aSh, .ref aMk, .ref aFa, .ref aDe, .ref aNe, .ref aBy, .ref aPi, .int (pd), .ref aNw, .ref aNs, .ref aBf, .int (rn), .int (rr)])), (aMd, .inl (cI, 24, .inl (fun w => nI (db_rk (K w))))), (aO1, .inl (cI, 24, .inl (db_one1 K X Nm))), (aT2, .inl (cI, 24, .inl (db_two2 K Y Nm))), (aSh, .inl (cI, 4, .inl (fun r => nI (RV r)))), (aMk, .inl (cI, 4, .inl (Ms))), (aFa, .inl (cI, 768, .inl (Fa))), (aDe, .inl (cZ, 768, .inl (De))), (aNe, .inl (cZ, 768, .inl (Ne))), (aBy, .inl (cI, 24, .inl (By))), (aPi, .inl (cI, 1600, .inl (Pi)))] sz)) 0 0 (va_A [(m0, .inr (5, [.int (ft), .int (nI (n)), .ref aMd, .ref aO1, .ref aT2, .int (nI (R)), .ref aSh, .ref aMk, .ref aFa, .ref aDe, .ref aNe, .ref aBy, .ref aPi, .int (pd), .ref aNw, .ref aNs, .ref aBf, .int (rn), .int (rr)])), (aMd, .inl (cI, 24, .inl (fun w => nI (db_rk (K w))))), (aO1, .inl (cI, 24, .inl (db_one1 K X Nm))), (aT2, .inl (cI, 24, .inl (db_two2 K Y Nm))), (aSh, .inl (cI, 4, .inl (fun r => nI (RV r)))), (aMk, .inl (cI, 4, .inl (Ms))), (aFa, .inl (cI, 768, .inl (Fa))), (aDe, .inl (cZ, 768, .inl (De))), (aNe, .inl (cZ, 768, .inl (Ne))), (aBy, .inl (cI, 24, .inl (By))), (aPi, .inl (cI, 1600, .inl (Pi)))] sz) := by
  refine Met.ofW (cc := cM_replaced) (maxL := 2) (ret := (some .int)) (by decide) rfl ?_
  intro p e s m args below meth c s₁ B hml hv0
  have hx := B.exec
  have hb := B.bytes
  have hr := B.returns
  have hts := atoms_spec (ws := wsM_replaced) B.pre
  have hown : s.vm.findClass RM = some m.cls := findClass_of_methodNamed B.named
  have hlocks := B.notSynchronized
  obtain ⟨rfl, hsz, hG⟩ := dw_enter hv0
  generalize va_A [(m0, .inr (5, [.int (ft), .int (nI (n)), .ref aMd, .ref aO1, .ref aT2, .int (nI (R)), .ref aSh, .ref aMk, .ref aFa, .ref aDe, .ref aNe, .ref aBy, .ref aPi, .int (pd), .ref aNw, .ref aNs, .ref aBf, .int (rn), .int (rr)])), (aMd, .inl (cI, 24, .inl (fun w => nI (db_rk (K w))))), (aO1, .inl (cI, 24, .inl (db_one1 K X Nm))), (aT2, .inl (cI, 24, .inl (db_two2 K Y Nm))), (aSh, .inl (cI, 4, .inl (fun r => nI (RV r)))), (aMk, .inl (cI, 4, .inl (Ms))), (aFa, .inl (cI, 768, .inl (Fa))), (aDe, .inl (cZ, 768, .inl (De))), (aNe, .inl (cZ, 768, .inl (Ne))), (aBy, .inl (cI, 24, .inl (By))), (aPi, .inl (cI, 1600, .inl (Pi)))] sz = A at hG ⊢
  have hl := lv_entry ([.ref m0, .int (nI (v))]) (n := 2) (Nat.le_of_ble_eq_true rfl)
  rw [lg_entry_eq]
  generalize (lg_sl ([.ref m0, .int (nI (v))]) ++ List.replicate (2 - (lg_sl ([.ref m0, .int (nI (v))])).length) Slot.unset).toArray = ls at hl ⊢
  have hl : lv_has ls 2 [(0, .ref m0), (1, .int (nI (v)))] := hl
  have hw494 := hts _ (List.mem_cons_of_mem _ tw_494)
  have hw505 := hts _ (List.mem_cons_of_mem _ tw_505)
  refine dw_Q (fun Q hQ => ?_)
  suffices hgo : ∀ (H : Heap) (locs : List Loc), dw_G (dC, dI) vwCl [(cI, .int), (cZ, .boolean)] A s.heap s [(m0, .inr (5, [.int (ft), .int (nI (n)), .ref aMd, .ref aO1, .ref aT2, .int (nI (R)), .ref aSh, .ref aMk, .ref aFa, .ref aDe, .ref aNe, .ref aBy, .ref aPi, .int (pd), .ref aNw, .ref aNs, .ref aBf, .int (rn), .int (rr)])), (aMd, .inl (cI, 24, .inl (fun w => nI (db_rk (K w))))), (aO1, .inl (cI, 24, .inl (db_one1 K X Nm))), (aT2, .inl (cI, 24, .inl (db_two2 K Y Nm))), (aSh, .inl (cI, 4, .inl (fun r => nI (RV r)))), (aMk, .inl (cI, 4, .inl (Ms))), (aFa, .inl (cI, 768, .inl (Fa))), (aDe, .inl (cZ, 768, .inl (De))), (aNe, .inl (cZ, 768, .inl (Ne))), (aBy, .inl (cI, 24, .inl (By))), (aPi, .inl (cI, 1600, .inl (Pi)))] H locs → W p l e (headSpec wsM_replaced { frames := 5, cells := 0, slots := 0, locals := 180 }).room s m [.ref m0, .int (nI (v))].toArray below meth c H locs 0 0 Q (F0 m 0 ls []) from hgo _ _ hG
  clear hG
  intro H locs hG
  refine lv_aload_n hx hb dM_replaced_0 rfl (lv_at hl 0 rfl) ?_
  refine lv_aload_n hx hb dM_replaced_1 rfl (lv_at hl 0 rfl) ?_
  refine lv_iload_n hx hb dM_replaced_2 rfl (lv_at hl 1 rfl) ?_
  refine dw_calli (wc := [(m0, .inr (5, [.int (ft), .int (nI (n)), .ref aMd, .ref aO1, .ref aT2, .int (nI (R)), .ref aSh, .ref aMk, .ref aFa, .ref aDe, .ref aNe, .ref aBy, .ref aPi, .int (pd), .ref aNw, .ref aNs, .ref aBf, .int (rn), .int (rr)]))]) (wr := [(aMd, .inl (cI, 24, .inl (fun w => nI (db_rk (K w))))), (aO1, .inl (cI, 24, .inl (db_one1 K X Nm))), (aT2, .inl (cI, 24, .inl (db_two2 K Y Nm))), (aSh, .inl (cI, 4, .inl (fun r => nI (RV r)))), (aMk, .inl (cI, 4, .inl (Ms))), (aFa, .inl (cI, 768, .inl (Fa))), (aDe, .inl (cZ, 768, .inl (De))), (aNe, .inl (cZ, 768, .inl (Ne))), (aBy, .inl (cI, 24, .inl (By))), (aPi, .inl (cI, 1600, .inl (Pi)))]) hG [0] [1, 2, 3, 4, 5, 6, 7, 8, 9, 10] rfl rfl (by decide) (by decide) (va_runV (As := [.int (nI (v))]) (rest := [.ref m0]) ⟨hx, hb, hml, hown, hts⟩ (rf_isValue l dC dI cI cZ m0 aMd aO1 aT2 aSh aMk aFa aDe aNe aBy aPi aNw aNs aBf ft (nI n) (nI R) pd rn rr (nI (v)) H.size ) (dc_V 1 hts tw_573 tw_575 tp_M_isValue tw_7 tw_576 rfl rfl (by decide +kernel) ⟨Nat.le_of_ble_eq_true rfl, Nat.le_of_ble_eq_true rfl⟩) (dw_preV (ci := 5) hG [0] [0, 1] rfl rfl (by decide) rfl rfl (q0 := 0) rfl) rfl rfl hl.1 rfl (lv_room (Nat.le_of_ble_eq_true rfl)) dM_replaced_3 ⟨Nat.le_refl _, Nat.le_refl _⟩) (fun r u H locs hp hG => ?_)
  subst hp
  have hG : dw_G (dC, dI) vwCl [(cI, .int), (cZ, .boolean)] A s.heap s [(aMd, .inl (cI, 24, .inl (fun w => nI (db_rk (K w))))), (aO1, .inl (cI, 24, .inl (db_one1 K X Nm))), (aT2, .inl (cI, 24, .inl (db_two2 K Y Nm))), (aSh, .inl (cI, 4, .inl (fun r => nI (RV r)))), (aMk, .inl (cI, 4, .inl (Ms))), (aFa, .inl (cI, 768, .inl (Fa))), (aDe, .inl (cZ, 768, .inl (De))), (aNe, .inl (cZ, 768, .inl (Ne))), (aBy, .inl (cI, 24, .inl (By))), (aPi, .inl (cI, 1600, .inl (Pi))), (m0, .inr (5, [.int (ft), .int (nI (n)), .ref aMd, .ref aO1, .ref aT2, .int (nI (R)), .ref aSh, .ref aMk, .ref aFa, .ref aDe, .ref aNe, .ref aBy, .ref aPi, .int (pd), .ref aNw, .ref aNs, .ref aBf, .int (rn), .int (rr)]))] H locs := hG
  refine lv_topi (nm_r (show (db_isv (nI (v)) (nI n) : Int32) = 1 from (db_isv_y (by omega) (by omega))) ?_)
  refine lv_if_eq (tgt := 13) hx hb dM_replaced_6 (by decide) (fun h6 => ?_) (fun h6 => ?_)
  · skip
    replace h6 := (nI_eq (a := 1) (b := 0) (by omega) (by omega)).mp h6
    (exfalso; omega)
  replace h6 : ¬ 1 = 0 := fun hq0 => h6 ((nI_eq (a := 1) (b := 0) (by omega) (by omega)).mpr hq0)
  refine lv_iconst (v := 0) hx hb dM_replaced_9 (by decide) ?_
  refine lv_goto (tgt := 14) hx hb dM_replaced_10 (by decide) ?_
  refine dw_put (ws' := [(aMd, .inl (cI, 24, .inl (fun w => nI (db_rk (K w))))), (aO1, .inl (cI, 24, .inl (db_one1 K X Nm))), (aT2, .inl (cI, 24, .inl (db_two2 K Y Nm))), (aSh, .inl (cI, 4, .inl (fun r => nI (RV r)))), (aMk, .inl (cI, 4, .inl (Ms))), (aFa, .inl (cI, 768, .inl (Fa))), (aDe, .inl (cZ, 768, .inl (De))), (aNe, .inl (cZ, 768, .inl (Ne))), (aBy, .inl (cI, 24, .inl (By))), (aPi, .inl (cI, 1600, .inl (Pi))), (m0, .inr (5, [.int (0), .int (nI (n)), .ref aMd, .ref aO1, .ref aT2, .int (nI (R)), .ref aSh, .ref aMk, .ref aFa, .ref aDe, .ref aNe, .ref aBy, .ref aPi, .int (pd), .ref aNw, .ref aNs, .ref aBf, .int (rn), .int (rr)]))]) hx hb hts inMc tyM tyM_ok nmM hown hG 10 0 rfl rfl (by decide) hw494 rfl rfl (ty := .int) (by decide +kernel) rfl rfl (Nat.le_of_ble_eq_true rfl) dM_replaced_14 rfl (fun H locs hG => ?_)
  refine lv_aload_n hx hb dM_replaced_17 rfl (lv_at hl 0 rfl) ?_
  refine dw_get hx hb hts inMc hown hG 10 0 rfl rfl (by decide) hw494 rfl rfl dM_replaced_18 ?_
  refine lv_if_le (tgt := 26) hx hb dM_replaced_21 (by decide) (fun h21 => ?_) (fun h21 => ?_)
  · skip
    replace h21 := (nI_leI (a := 0) (b := 0) (by omega) (by omega)).mp h21
    refine lv_aload_n hx hb dM_replaced_26 rfl (lv_at hl 0 rfl) ?_
    refine dw_callv (wc := [(m0, .inr (5, [.int (0), .int (nI (n)), .ref aMd, .ref aO1, .ref aT2, .int (nI (R)), .ref aSh, .ref aMk, .ref aFa, .ref aDe, .ref aNe, .ref aBy, .ref aPi, .int (pd), .ref aNw, .ref aNs, .ref aBf, .int (rn), .int (rr)])), (aMd, .inl (cI, 24, .inl (fun w => nI (db_rk (K w))))), (aO1, .inl (cI, 24, .inl (db_one1 K X Nm))), (aT2, .inl (cI, 24, .inl (db_two2 K Y Nm))), (aSh, .inl (cI, 4, .inl (fun r => nI (RV r)))), (aMk, .inl (cI, 4, .inl (Ms))), (aFa, .inl (cI, 768, .inl (Fa))), (aDe, .inl (cZ, 768, .inl (De))), (aNe, .inl (cZ, 768, .inl (Ne))), (aBy, .inl (cI, 24, .inl (By))), (aPi, .inl (cI, 1600, .inl (Pi)))]) (wr := []) hG [10, 0, 1, 2, 3, 4, 5, 6, 7, 8, 9] [] rfl rfl (by decide) (by decide) (va_runV (As := []) (rest := []) ⟨hx, hb, hml, hown, hts⟩ (rf_analyse l dC dI cI cZ m0 aMd aO1 aT2 aSh aMk aFa aDe aNe aBy aPi aNw aNs aBf n R (0) (rn) (rr) (pd) K X Y Nm RV Ms (Fa) (De) (Ne) (By) (Pi) H.size hn hR hwf hRV) (dc_V 0 hts tw_601 tw_603 tp_M_analyse tw_7 tw_604 rfl rfl (by decide +kernel) ⟨Nat.le_of_ble_eq_true rfl, Nat.le_of_ble_eq_true rfl⟩) (dw_preV (ci := 5) hG [10, 0, 1, 2, 3, 4, 5, 6, 7, 8, 9] [0, 1] rfl rfl (by decide) rfl rfl (q0 := 10) rfl) rfl rfl hl.1 rfl (lv_room (Nat.le_of_ble_eq_true rfl)) dM_replaced_27 ⟨Nat.le_refl _, Nat.le_refl _⟩) (fun a H locs ha hG => ?_)
    have hG : dw_G (dC, dI) vwCl [(cI, .int), (cZ, .boolean)] A s.heap s [(m0, .inr (5, [.int (0), .int (nI (n)), .ref aMd, .ref aO1, .ref aT2, .int (nI (R)), .ref aSh, .ref aMk, .ref aFa, .ref aDe, .ref aNe, .ref aBy, .ref aPi, .int (nI a.2.2.2.2.2), .ref aNw, .ref aNs, .ref aBf, .int (rn), .int (rr)])), (aMd, .inl (cI, 24, .inl (fun w => nI (db_rk (K w))))), (aO1, .inl (cI, 24, .inl (db_one1 K X Nm))), (aT2, .inl (cI, 24, .inl (db_two2 K Y Nm))), (aSh, .inl (cI, 4, .inl (fun r => nI (RV r)))), (aMk, .inl (cI, 4, .inl (Ms))), (aFa, .inl (cI, 768, .inl (a.1))), (aDe, .inl (cZ, 768, .inl (a.2.1))), (aNe, .inl (cZ, 768, .inl (a.2.2.1))), (aBy, .inl (cI, 24, .inl (a.2.2.2.1))), (aPi, .inl (cI, 1600, .inl (a.2.2.2.2.1)))] H locs := hG
    refine lv_aload_n hx hb dM_replaced_30 rfl (lv_at hl 0 rfl) ?_
    refine dw_get hx hb hts inMc hown hG 0 11 rfl rfl (by decide) hw505 rfl rfl dM_replaced_31 ?_
    refine lv_iload_n hx hb dM_replaced_34 rfl (lv_at hl 1 rfl) ?_
    refine dw_ia (x := (a.2.2.2.1) (v)) hx hb hG 9 0 rfl rfl (v) rfl (by omega) (by decide) rfl dM_replaced_35 ?_
    subst hQ
    exact dw_iret hx hb hr hG (a) rfl ⟨ha.2.2.2 v hv, ha⟩ dM_replaced_36 hlocks
  replace h21 : ¬ 0 ≤ 0 := fun hq0 => h21 ((nI_leI (a := 0) (b := 0) (by omega) (by omega)).mpr hq0)
  (exfalso; omega)

set_option maxRecDepth 100000 in
set_option maxHeartbeats 4000000 in
theorem rf_replaced_1 (l : Launch) (dC : Nat → ClassId) (dI : Nat → Nat → Nat) (cI cZ : ClassId) (m0 aMd aO1 aT2 aSh aMk aFa aDe aNe aBy aPi aNw aNs aBf n R : Nat) (ft rn rr pd : Int32) (v : Int32) (sz : Nat) (hinv : db_isv v (nI n) = 0) : Met l yM_replaced wsM_replaced { frames := 1, cells := 0, slots := 0, locals := 30 } (va_Pc [.ref m0, .int (v)] (dw_pre (dC, dI) vwCl [(m0, .inr (5, [.int (ft), .int (nI (n)), .ref aMd, .ref aO1, .ref aT2, .int (nI (R)), .ref aSh, .ref aMk, .ref aFa, .ref aDe, .ref aNe, .ref aBy, .ref aPi, .int (pd), .ref aNw, .ref aNs, .ref aBf, .int (rn), .int (rr)]))] [(cI, .int), (cZ, .boolean)] sz)) (va_Qi (fun (r : Int32) (u : Unit) => r = 0) (fun u t => dw_post (dC, dI) vwCl [(m0, .inr (5, [.int (1), .int (nI (n)), .ref aMd, .ref aO1, .ref aT2, .int (nI (R)), .ref aSh, .ref aMk, .ref aFa, .ref aDe, .ref aNe, .ref aBy, .ref aPi, .int (pd), .ref aNw, .ref aNs, .ref aBf, .int (rn), .int (rr)]))] [(cI, .int), (cZ, .boolean)] (va_A [(m0, .inr (5, [.int (ft), .int (nI (n)), .ref aMd, .ref aO1, .ref aT2, .int (nI (R)), .ref aSh, .ref aMk, .ref aFa, .ref aDe, .ref aNe, .ref aBy, .ref aPi, .int (pd), .ref aNw, .ref aNs, .ref aBf, .int (rn), .int (rr)]))] sz) t) (va_A [(m0, .inr (5, [.int (ft), .int (nI (n)), .ref aMd, .ref aO1, .ref aT2, .int (nI (R)), .ref aSh, .ref aMk, .ref aFa, .ref aDe, .ref aNe, .ref aBy, .ref aPi, .int (pd), .ref aNw, .ref aNs, .ref aBf, .int (rn), .int (rr)]))] sz)) 0 0 (va_A [(m0, .inr (5, [.int (ft), .int (nI (n)), .ref aMd, .ref aO1, .ref aT2, .int (nI (R)), .ref aSh, .ref aMk, .ref aFa, .ref aDe, .ref aNe, .ref aBy, .ref aPi, .int (pd), .ref aNw, .ref aNs, .ref aBf, .int (rn), .int (rr)]))] sz) := by
  refine Met.ofW (cc := cM_replaced) (maxL := 2) (ret := (some .int)) (by decide) rfl ?_
  intro p e s m args below meth c s₁ B hml hv0
  have hx := B.exec
  have hb := B.bytes
  have hr := B.returns
  have hts := atoms_spec (ws := wsM_replaced) B.pre
  have hown : s.vm.findClass RM = some m.cls := findClass_of_methodNamed B.named
  have hlocks := B.notSynchronized
  obtain ⟨rfl, hsz, hG⟩ := dw_enter hv0
  generalize va_A [(m0, .inr (5, [.int (ft), .int (nI (n)), .ref aMd, .ref aO1, .ref aT2, .int (nI (R)), .ref aSh, .ref aMk, .ref aFa, .ref aDe, .ref aNe, .ref aBy, .ref aPi, .int (pd), .ref aNw, .ref aNs, .ref aBf, .int (rn), .int (rr)]))] sz = A at hG ⊢
  have hl := lv_entry ([.ref m0, .int (v)]) (n := 2) (Nat.le_of_ble_eq_true rfl)
  rw [lg_entry_eq]
  generalize (lg_sl ([.ref m0, .int (v)]) ++ List.replicate (2 - (lg_sl ([.ref m0, .int (v)])).length) Slot.unset).toArray = ls at hl ⊢
  have hl : lv_has ls 2 [(0, .ref m0), (1, .int (v))] := hl
  have hw494 := hts _ (List.mem_cons_of_mem _ tw_494)
  refine dw_Q (fun Q hQ => ?_)
  suffices hgo : ∀ (H : Heap) (locs : List Loc), dw_G (dC, dI) vwCl [(cI, .int), (cZ, .boolean)] A s.heap s [(m0, .inr (5, [.int (ft), .int (nI (n)), .ref aMd, .ref aO1, .ref aT2, .int (nI (R)), .ref aSh, .ref aMk, .ref aFa, .ref aDe, .ref aNe, .ref aBy, .ref aPi, .int (pd), .ref aNw, .ref aNs, .ref aBf, .int (rn), .int (rr)]))] H locs → W p l e (headSpec wsM_replaced { frames := 1, cells := 0, slots := 0, locals := 30 }).room s m [.ref m0, .int (v)].toArray below meth c H locs 0 0 Q (F0 m 0 ls []) from hgo _ _ hG
  clear hG
  intro H locs hG
  refine lv_aload_n hx hb dM_replaced_0 rfl (lv_at hl 0 rfl) ?_
  refine lv_aload_n hx hb dM_replaced_1 rfl (lv_at hl 0 rfl) ?_
  refine lv_iload_n hx hb dM_replaced_2 rfl (lv_at hl 1 rfl) ?_
  refine dw_calli (wc := [(m0, .inr (5, [.int (ft), .int (nI (n)), .ref aMd, .ref aO1, .ref aT2, .int (nI (R)), .ref aSh, .ref aMk, .ref aFa, .ref aDe, .ref aNe, .ref aBy, .ref aPi, .int (pd), .ref aNw, .ref aNs, .ref aBf, .int (rn), .int (rr)]))]) (wr := []) hG [0] [] rfl rfl (by decide) (by decide) (va_runV (As := [.int (v)]) (rest := [.ref m0]) ⟨hx, hb, hml, hown, hts⟩ (rf_isValue l dC dI cI cZ m0 aMd aO1 aT2 aSh aMk aFa aDe aNe aBy aPi aNw aNs aBf ft (nI n) (nI R) pd rn rr (v) H.size ) (dc_V 1 hts tw_573 tw_575 tp_M_isValue tw_7 tw_576 rfl rfl (by decide +kernel) ⟨Nat.le_of_ble_eq_true rfl, Nat.le_of_ble_eq_true rfl⟩) (dw_preV (ci := 5) hG [0] [0, 1] rfl rfl (by decide) rfl rfl (q0 := 0) rfl) rfl rfl hl.1 rfl (lv_room (Nat.le_of_ble_eq_true rfl)) dM_replaced_3 ⟨Nat.le_refl _, Nat.le_refl _⟩) (fun r u H locs hp hG => ?_)
  subst hp
  have hG : dw_G (dC, dI) vwCl [(cI, .int), (cZ, .boolean)] A s.heap s [(m0, .inr (5, [.int (ft), .int (nI (n)), .ref aMd, .ref aO1, .ref aT2, .int (nI (R)), .ref aSh, .ref aMk, .ref aFa, .ref aDe, .ref aNe, .ref aBy, .ref aPi, .int (pd), .ref aNw, .ref aNs, .ref aBf, .int (rn), .int (rr)]))] H locs := hG
  refine lv_topi (nm_r (show (db_isv (v) (nI n) : Int32) = 0 from hinv) ?_)
  refine lv_if_eq (tgt := 13) hx hb dM_replaced_6 (by decide) (fun h6 => ?_) (fun h6 => ?_)
  · skip
    replace h6 := (nI_eq (a := 0) (b := 0) (by omega) (by omega)).mp h6
    refine lv_iconst (v := 1) hx hb dM_replaced_13 (by decide) ?_
    refine dw_put (ws' := [(m0, .inr (5, [.int (1), .int (nI (n)), .ref aMd, .ref aO1, .ref aT2, .int (nI (R)), .ref aSh, .ref aMk, .ref aFa, .ref aDe, .ref aNe, .ref aBy, .ref aPi, .int (pd), .ref aNw, .ref aNs, .ref aBf, .int (rn), .int (rr)]))]) hx hb hts inMc tyM tyM_ok nmM hown hG 0 0 rfl rfl (by decide) hw494 rfl rfl (ty := .int) (by decide +kernel) rfl rfl (Nat.le_of_ble_eq_true rfl) dM_replaced_14 rfl (fun H locs hG => ?_)
    refine lv_aload_n hx hb dM_replaced_17 rfl (lv_at hl 0 rfl) ?_
    refine dw_get hx hb hts inMc hown hG 0 0 rfl rfl (by decide) hw494 rfl rfl dM_replaced_18 ?_
    refine lv_if_le (tgt := 26) hx hb dM_replaced_21 (by decide) (fun h21 => ?_) (fun h21 => ?_)
    · skip
      replace h21 := (nI_leI (a := 1) (b := 0) (by omega) (by omega)).mp h21
      (exfalso; omega)
    replace h21 : ¬ 1 ≤ 0 := fun hq0 => h21 ((nI_leI (a := 1) (b := 0) (by omega) (by omega)).mpr hq0)
    refine lv_iconst (v := 0) hx hb dM_replaced_24 (by decide) ?_
    subst hQ
    exact dw_iret hx hb hr hG (()) rfl rfl dM_replaced_25 hlocks
  replace h6 : ¬ 0 = 0 := fun hq0 => h6 ((nI_eq (a := 0) (b := 0) (by omega) (by omega)).mpr hq0)
  (exfalso; omega)

set_option maxRecDepth 100000 in
set_option maxHeartbeats 4000000 in
theorem rf_live (l : Launch) (dC : Nat → ClassId) (dI : Nat → Nat → Nat) (cI cZ : ClassId) (m0 aMd aO1 aT2 aSh aMk aFa aDe aNe aBy aPi aNw aNs aBf n R : Nat) (ft rn rr pd : Int32) (K X Y : Nat → Nat) (Nm : Nat → Int32) (RV : Nat → Nat) (Ms : Nat → Int32) (Fa De Ne By Pi : Nat → Int32) (sz : Nat) (hn : n ≤ 24) (hR : R ≤ 4) (hwf : db_wf n K X Y Nm) (hRV : ∀ r, r < R → RV r < n) : Met l yM_live wsM_live { frames := 5, cells := 0, slots := 0, locals := 180 } (va_Pc [.ref m0] (dw_pre (dC, dI) vwCl [(m0, .inr (5, [.int (ft), .int (nI (n)), .ref aMd, .ref aO1, .ref aT2, .int (nI (R)), .ref aSh, .ref aMk, .ref aFa, .ref aDe, .ref aNe, .ref aBy, .ref aPi, .int (pd), .ref aNw, .ref aNs, .ref aBf, .int (rn), .int (rr)])), (aMd, .inl (cI, 24, .inl (fun w => nI (db_rk (K w))))), (aO1, .inl (cI, 24, .inl (db_one1 K X Nm))), (aT2, .inl (cI, 24, .inl (db_two2 K Y Nm))), (aSh, .inl (cI, 4, .inl (fun r => nI (RV r)))), (aMk, .inl (cI, 4, .inl (Ms))), (aFa, .inl (cI, 768, .inl (Fa))), (aDe, .inl (cZ, 768, .inl (De))), (aNe, .inl (cZ, 768, .inl (Ne))), (aBy, .inl (cI, 24, .inl (By))), (aPi, .inl (cI, 1600, .inl (Pi)))] [(cI, .int), (cZ, .boolean)] sz)) (va_Qi (fun (r : Int32) (u : db_AR) => r = nI (db_cn (fun w => decide (¬ db_D2 n K X Y Nm R RV Ms w = 0)) n) ∧ db_an n K X Y Nm R RV Ms u) (fun u t => dw_post (dC, dI) vwCl [(m0, .inr (5, [.int (0), .int (nI (n)), .ref aMd, .ref aO1, .ref aT2, .int (nI (R)), .ref aSh, .ref aMk, .ref aFa, .ref aDe, .ref aNe, .ref aBy, .ref aPi, .int (nI u.2.2.2.2.2), .ref aNw, .ref aNs, .ref aBf, .int (rn), .int (rr)])), (aMd, .inl (cI, 24, .inl (fun w => nI (db_rk (K w))))), (aO1, .inl (cI, 24, .inl (db_one1 K X Nm))), (aT2, .inl (cI, 24, .inl (db_two2 K Y Nm))), (aSh, .inl (cI, 4, .inl (fun r => nI (RV r)))), (aMk, .inl (cI, 4, .inl (Ms))), (aFa, .inl (cI, 768, .inl (u.1))), (aDe, .inl (cZ, 768, .inl (u.2.1))), (aNe, .inl (cZ, 768, .inl (u.2.2.1))), (aBy, .inl (cI, 24, .inl (u.2.2.2.1))), (aPi, .inl (cI, 1600, .inl (u.2.2.2.2.1)))] [(cI, .int), (cZ, .boolean)] (va_A [(m0, .inr (5, [.int (ft), .int (nI (n)), .ref aMd, .ref aO1, .ref aT2, .int (nI (R)), .ref aSh, .ref aMk, .ref aFa, .ref aDe, .ref aNe, .ref aBy, .ref aPi, .int (pd), .ref aNw, .ref aNs, .ref aBf, .int (rn), .int (rr)])), (aMd, .inl (cI, 24, .inl (fun w => nI (db_rk (K w))))), (aO1, .inl (cI, 24, .inl (db_one1 K X Nm))), (aT2, .inl (cI, 24, .inl (db_two2 K Y Nm))), (aSh, .inl (cI, 4, .inl (fun r => nI (RV r)))), (aMk, .inl (cI, 4, .inl (Ms))), (aFa, .inl (cI, 768, .inl (Fa))), (aDe, .inl (cZ, 768, .inl (De))), (aNe, .inl (cZ, 768, .inl (Ne))), (aBy, .inl (cI, 24, .inl (By))), (aPi, .inl (cI, 1600, .inl (Pi)))] sz) t) (va_A [(m0, .inr (5, [.int (ft), .int (nI (n)), .ref aMd, .ref aO1, .ref aT2, .int (nI (R)), .ref aSh, .ref aMk, .ref aFa, .ref aDe, .ref aNe, .ref aBy, .ref aPi, .int (pd), .ref aNw, .ref aNs, .ref aBf, .int (rn), .int (rr)])), (aMd, .inl (cI, 24, .inl (fun w => nI (db_rk (K w))))), (aO1, .inl (cI, 24, .inl (db_one1 K X Nm))), (aT2, .inl (cI, 24, .inl (db_two2 K Y Nm))), (aSh, .inl (cI, 4, .inl (fun r => nI (RV r)))), (aMk, .inl (cI, 4, .inl (Ms))), (aFa, .inl (cI, 768, .inl (Fa))), (aDe, .inl (cZ, 768, .inl (De))), (aNe, .inl (cZ, 768, .inl (Ne))), (aBy, .inl (cI, 24, .inl (By))), (aPi, .inl (cI, 1600, .inl (Pi)))] sz)) 0 0 (va_A [(m0, .inr (5, [.int (ft), .int (nI (n)), .ref aMd, .ref aO1, .ref aT2, .int (nI (R)), .ref aSh, .ref aMk, .ref aFa, .ref aDe, .ref aNe, .ref aBy, .ref aPi, .int (pd), .ref aNw, .ref aNs, .ref aBf, .int (rn), .int (rr)])), (aMd, .inl (cI, 24, .inl (fun w => nI (db_rk (K w))))), (aO1, .inl (cI, 24, .inl (db_one1 K X Nm))), (aT2, .inl (cI, 24, .inl (db_two2 K Y Nm))), (aSh, .inl (cI, 4, .inl (fun r => nI (RV r)))), (aMk, .inl (cI, 4, .inl (Ms))), (aFa, .inl (cI, 768, .inl (Fa))), (aDe, .inl (cZ, 768, .inl (De))), (aNe, .inl (cZ, 768, .inl (Ne))), (aBy, .inl (cI, 24, .inl (By))), (aPi, .inl (cI, 1600, .inl (Pi)))] sz) := by
  refine Met.ofW (cc := cM_live) (maxL := 3) (ret := (some .int)) (by decide) rfl ?_
  intro p e s m args below meth c s₁ B hml hv0
  have hx := B.exec
  have hb := B.bytes
  have hr := B.returns
  have hts := atoms_spec (ws := wsM_live) B.pre
  have hown : s.vm.findClass RM = some m.cls := findClass_of_methodNamed B.named
  have hlocks := B.notSynchronized
  obtain ⟨rfl, hsz, hG⟩ := dw_enter hv0
  generalize va_A [(m0, .inr (5, [.int (ft), .int (nI (n)), .ref aMd, .ref aO1, .ref aT2, .int (nI (R)), .ref aSh, .ref aMk, .ref aFa, .ref aDe, .ref aNe, .ref aBy, .ref aPi, .int (pd), .ref aNw, .ref aNs, .ref aBf, .int (rn), .int (rr)])), (aMd, .inl (cI, 24, .inl (fun w => nI (db_rk (K w))))), (aO1, .inl (cI, 24, .inl (db_one1 K X Nm))), (aT2, .inl (cI, 24, .inl (db_two2 K Y Nm))), (aSh, .inl (cI, 4, .inl (fun r => nI (RV r)))), (aMk, .inl (cI, 4, .inl (Ms))), (aFa, .inl (cI, 768, .inl (Fa))), (aDe, .inl (cZ, 768, .inl (De))), (aNe, .inl (cZ, 768, .inl (Ne))), (aBy, .inl (cI, 24, .inl (By))), (aPi, .inl (cI, 1600, .inl (Pi)))] sz = A at hG ⊢
  have hl := lv_entry ([.ref m0]) (n := 3) (Nat.le_of_ble_eq_true rfl)
  rw [lg_entry_eq]
  generalize (lg_sl ([.ref m0]) ++ List.replicate (3 - (lg_sl ([.ref m0])).length) Slot.unset).toArray = ls at hl ⊢
  have hl : lv_has ls 3 [(0, .ref m0)] := hl
  have hw494 := hts _ (List.mem_cons_of_mem _ tw_494)
  have hw495 := hts _ (List.mem_cons_of_mem _ tw_495)
  have hw504 := hts _ (List.mem_cons_of_mem _ tw_504)
  refine dw_Q (fun Q hQ => ?_)
  suffices hgo : ∀ (H : Heap) (locs : List Loc), dw_G (dC, dI) vwCl [(cI, .int), (cZ, .boolean)] A s.heap s [(m0, .inr (5, [.int (ft), .int (nI (n)), .ref aMd, .ref aO1, .ref aT2, .int (nI (R)), .ref aSh, .ref aMk, .ref aFa, .ref aDe, .ref aNe, .ref aBy, .ref aPi, .int (pd), .ref aNw, .ref aNs, .ref aBf, .int (rn), .int (rr)])), (aMd, .inl (cI, 24, .inl (fun w => nI (db_rk (K w))))), (aO1, .inl (cI, 24, .inl (db_one1 K X Nm))), (aT2, .inl (cI, 24, .inl (db_two2 K Y Nm))), (aSh, .inl (cI, 4, .inl (fun r => nI (RV r)))), (aMk, .inl (cI, 4, .inl (Ms))), (aFa, .inl (cI, 768, .inl (Fa))), (aDe, .inl (cZ, 768, .inl (De))), (aNe, .inl (cZ, 768, .inl (Ne))), (aBy, .inl (cI, 24, .inl (By))), (aPi, .inl (cI, 1600, .inl (Pi)))] H locs → W p l e (headSpec wsM_live { frames := 5, cells := 0, slots := 0, locals := 180 }).room s m [.ref m0].toArray below meth c H locs 0 0 Q (F0 m 0 ls []) from hgo _ _ hG
  clear hG
  intro H locs hG
  refine lv_aload_n hx hb dM_live_0 rfl (lv_at hl 0 rfl) ?_
  refine lv_iconst (v := 0) hx hb dM_live_1 (by decide) ?_
  refine dw_put (ws' := [(m0, .inr (5, [.int (0), .int (nI (n)), .ref aMd, .ref aO1, .ref aT2, .int (nI (R)), .ref aSh, .ref aMk, .ref aFa, .ref aDe, .ref aNe, .ref aBy, .ref aPi, .int (pd), .ref aNw, .ref aNs, .ref aBf, .int (rn), .int (rr)])), (aMd, .inl (cI, 24, .inl (fun w => nI (db_rk (K w))))), (aO1, .inl (cI, 24, .inl (db_one1 K X Nm))), (aT2, .inl (cI, 24, .inl (db_two2 K Y Nm))), (aSh, .inl (cI, 4, .inl (fun r => nI (RV r)))), (aMk, .inl (cI, 4, .inl (Ms))), (aFa, .inl (cI, 768, .inl (Fa))), (aDe, .inl (cZ, 768, .inl (De))), (aNe, .inl (cZ, 768, .inl (Ne))), (aBy, .inl (cI, 24, .inl (By))), (aPi, .inl (cI, 1600, .inl (Pi)))]) hx hb hts inMc tyM tyM_ok nmM hown hG 0 0 rfl rfl (by decide) hw494 rfl rfl (ty := .int) (by decide +kernel) rfl rfl (Nat.le_of_ble_eq_true rfl) dM_live_2 rfl (fun H locs hG => ?_)
  refine lv_aload_n hx hb dM_live_5 rfl (lv_at hl 0 rfl) ?_
  refine dw_callv (wc := [(m0, .inr (5, [.int (0), .int (nI (n)), .ref aMd, .ref aO1, .ref aT2, .int (nI (R)), .ref aSh, .ref aMk, .ref aFa, .ref aDe, .ref aNe, .ref aBy, .ref aPi, .int (pd), .ref aNw, .ref aNs, .ref aBf, .int (rn), .int (rr)])), (aMd, .inl (cI, 24, .inl (fun w => nI (db_rk (K w))))), (aO1, .inl (cI, 24, .inl (db_one1 K X Nm))), (aT2, .inl (cI, 24, .inl (db_two2 K Y Nm))), (aSh, .inl (cI, 4, .inl (fun r => nI (RV r)))), (aMk, .inl (cI, 4, .inl (Ms))), (aFa, .inl (cI, 768, .inl (Fa))), (aDe, .inl (cZ, 768, .inl (De))), (aNe, .inl (cZ, 768, .inl (Ne))), (aBy, .inl (cI, 24, .inl (By))), (aPi, .inl (cI, 1600, .inl (Pi)))]) (wr := []) hG [0, 1, 2, 3, 4, 5, 6, 7, 8, 9, 10] [] rfl rfl (by decide) (by decide) (va_runV (As := []) (rest := []) ⟨hx, hb, hml, hown, hts⟩ (rf_analyse l dC dI cI cZ m0 aMd aO1 aT2 aSh aMk aFa aDe aNe aBy aPi aNw aNs aBf n R (0) (rn) (rr) (pd) K X Y Nm RV Ms (Fa) (De) (Ne) (By) (Pi) H.size hn hR hwf hRV) (dc_V 0 hts tw_601 tw_603 tp_M_analyse tw_7 tw_604 rfl rfl (by decide +kernel) ⟨Nat.le_of_ble_eq_true rfl, Nat.le_of_ble_eq_true rfl⟩) (dw_preV (ci := 5) hG [0, 1, 2, 3, 4, 5, 6, 7, 8, 9, 10] [0, 1] rfl rfl (by decide) rfl rfl (q0 := 0) rfl) rfl rfl hl.1 rfl (lv_room (Nat.le_of_ble_eq_true rfl)) dM_live_6 ⟨Nat.le_refl _, Nat.le_refl _⟩) (fun a H locs ha hG => ?_)
  have hG : dw_G (dC, dI) vwCl [(cI, .int), (cZ, .boolean)] A s.heap s [(m0, .inr (5, [.int (0), .int (nI (n)), .ref aMd, .ref aO1, .ref aT2, .int (nI (R)), .ref aSh, .ref aMk, .ref aFa, .ref aDe, .ref aNe, .ref aBy, .ref aPi, .int (nI a.2.2.2.2.2), .ref aNw, .ref aNs, .ref aBf, .int (rn), .int (rr)])), (aMd, .inl (cI, 24, .inl (fun w => nI (db_rk (K w))))), (aO1, .inl (cI, 24, .inl (db_one1 K X Nm))), (aT2, .inl (cI, 24, .inl (db_two2 K Y Nm))), (aSh, .inl (cI, 4, .inl (fun r => nI (RV r)))), (aMk, .inl (cI, 4, .inl (Ms))), (aFa, .inl (cI, 768, .inl (a.1))), (aDe, .inl (cZ, 768, .inl (a.2.1))), (aNe, .inl (cZ, 768, .inl (a.2.2.1))), (aBy, .inl (cI, 24, .inl (a.2.2.2.1))), (aPi, .inl (cI, 1600, .inl (a.2.2.2.2.1)))] H locs := hG
  refine lv_iconst (v := 0) hx hb dM_live_9 (by decide) ?_
  refine lv_istore_n (lv' := [(1, .int (0)), (0, .ref m0)]) hx hb dM_live_10 rfl hl (by decide) rfl (fun ls hl => ?_)
  refine lv_iconst (v := 0) hx hb dM_live_11 (by decide) ?_
  refine lv_istore_n (lv' := [(2, .int (0)), (1, .int (0)), (0, .ref m0)]) hx hb dM_live_12 rfl hl (by decide) rfl (fun ls hl => ?_)
  have L13 : ∀ (zz : Nat) (v : Nat) (ls : Array Slot) (H : Heap) (locs : List Loc), n - v < zz → v ≤ n → lv_has ls 3 [(0, .ref m0), (1, .int (nI (db_cn (fun w => decide (¬ db_D2 n K X Y Nm R RV Ms w = 0)) v))), (2, .int (nI (v)))] → dw_G (dC, dI) vwCl [(cI, .int), (cZ, .boolean)] A s.heap s [(m0, .inr (5, [.int (0), .int (nI (n)), .ref aMd, .ref aO1, .ref aT2, .int (nI (R)), .ref aSh, .ref aMk, .ref aFa, .ref aDe, .ref aNe, .ref aBy, .ref aPi, .int (nI a.2.2.2.2.2), .ref aNw, .ref aNs, .ref aBf, .int (rn), .int (rr)])), (aMd, .inl (cI, 24, .inl (fun w => nI (db_rk (K w))))), (aO1, .inl (cI, 24, .inl (db_one1 K X Nm))), (aT2, .inl (cI, 24, .inl (db_two2 K Y Nm))), (aSh, .inl (cI, 4, .inl (fun r => nI (RV r)))), (aMk, .inl (cI, 4, .inl (Ms))), (aFa, .inl (cI, 768, .inl (a.1))), (aDe, .inl (cZ, 768, .inl (a.2.1))), (aNe, .inl (cZ, 768, .inl (a.2.2.1))), (aBy, .inl (cI, 24, .inl (a.2.2.2.1))), (aPi, .inl (cI, 1600, .inl (a.2.2.2.2.1)))] H locs → W p l e (headSpec wsM_live { frames := 5, cells := 0, slots := 0, locals := 180 }).room s m [.ref m0].toArray below meth c H locs 0 0 Q (F0 m 13 ls []) := by
    intro zz
    induction zz with
    | zero => intro v ls H locs hz; exact absurd hz (Nat.not_lt_zero _)
    | succ zz L13_ih =>
      intro v ls H locs hz hv9 hl hG
      refine lv_iload_n hx hb dM_live_13 rfl (lv_at hl 2 rfl) ?_
      refine lv_aload_n hx hb dM_live_14 rfl (lv_at hl 0 rfl) ?_
      refine dw_get hx hb hts inMc hown hG 0 1 rfl rfl (by decide) hw495 rfl rfl dM_live_15 ?_
      refine lv_icmp_ge (tgt := 47) hx hb dM_live_18 (by decide) (fun h18 => ?_) (fun h18 => ?_)
      · skip
        replace h18 := (nI_leI (a := n) (b := v) (by omega) (by omega)).mp h18
        refine lv_iload_n hx hb dM_live_47 rfl (lv_at hl 1 rfl) ?_
        subst hQ
        exact dw_iret hx hb hr hG (a) rfl ⟨by rw [show v = n by omega], ha⟩ dM_live_48 hlocks
      replace h18 : ¬ n ≤ v := fun hq0 => h18 ((nI_leI (a := n) (b := v) (by omega) (by omega)).mpr hq0)
      refine lv_aload_n hx hb dM_live_21 rfl (lv_at hl 0 rfl) ?_
      refine lv_aload_n hx hb dM_live_22 rfl (lv_at hl 0 rfl) ?_
      refine dw_get hx hb hts inMc hown hG 0 10 rfl rfl (by decide) hw504 rfl rfl dM_live_23 ?_
      refine lv_iload_n hx hb dM_live_26 rfl (lv_at hl 2 rfl) ?_
      refine dw_calli (wc := [(aNe, .inl (cZ, 768, .inl (a.2.2.1)))]) (wr := [(m0, .inr (5, [.int (0), .int (nI (n)), .ref aMd, .ref aO1, .ref aT2, .int (nI (R)), .ref aSh, .ref aMk, .ref aFa, .ref aDe, .ref aNe, .ref aBy, .ref aPi, .int (nI a.2.2.2.2.2), .ref aNw, .ref aNs, .ref aBf, .int (rn), .int (rr)])), (aMd, .inl (cI, 24, .inl (fun w => nI (db_rk (K w))))), (aO1, .inl (cI, 24, .inl (db_one1 K X Nm))), (aT2, .inl (cI, 24, .inl (db_two2 K Y Nm))), (aSh, .inl (cI, 4, .inl (fun r => nI (RV r)))), (aMk, .inl (cI, 4, .inl (Ms))), (aFa, .inl (cI, 768, .inl (a.1))), (aDe, .inl (cZ, 768, .inl (a.2.1))), (aBy, .inl (cI, 24, .inl (a.2.2.2.1))), (aPi, .inl (cI, 1600, .inl (a.2.2.2.2.1)))]) hG [8] [0, 1, 2, 3, 4, 5, 6, 7, 9, 10] rfl rfl (by decide) (by decide) (va_runV (As := [.ref aNe, .int (nI (v))]) (rest := []) ⟨hx, hb, hml, hown, hts⟩ (rf_word l dC dI cI cZ m0 aNe v a.2.2.1 (db_D2 n K X Y Nm R RV Ms v) H.size (by omega) (ha.2.2.1 v (by omega))) (dc_V 2 hts tw_680 tw_682 tp_M_word tw_7 tw_683 rfl rfl (by decide +kernel) ⟨Nat.le_of_ble_eq_true rfl, Nat.le_of_ble_eq_true rfl⟩) (dw_preV (ci := 5) hG [8] [0, 1] rfl rfl (by decide) rfl rfl (q0 := 0) rfl) rfl rfl hl.1 rfl (lv_room (Nat.le_of_ble_eq_true rfl)) dM_live_27 ⟨Nat.le_refl _, Nat.le_refl _⟩) (fun r u H locs hp hG => ?_)
      subst hp
      have hG : dw_G (dC, dI) vwCl [(cI, .int), (cZ, .boolean)] A s.heap s [(m0, .inr (5, [.int (0), .int (nI (n)), .ref aMd, .ref aO1, .ref aT2, .int (nI (R)), .ref aSh, .ref aMk, .ref aFa, .ref aDe, .ref aNe, .ref aBy, .ref aPi, .int (nI a.2.2.2.2.2), .ref aNw, .ref aNs, .ref aBf, .int (rn), .int (rr)])), (aMd, .inl (cI, 24, .inl (fun w => nI (db_rk (K w))))), (aO1, .inl (cI, 24, .inl (db_one1 K X Nm))), (aT2, .inl (cI, 24, .inl (db_two2 K Y Nm))), (aSh, .inl (cI, 4, .inl (fun r => nI (RV r)))), (aMk, .inl (cI, 4, .inl (Ms))), (aFa, .inl (cI, 768, .inl (a.1))), (aDe, .inl (cZ, 768, .inl (a.2.1))), (aBy, .inl (cI, 24, .inl (a.2.2.2.1))), (aPi, .inl (cI, 1600, .inl (a.2.2.2.2.1))), (aNe, .inl (cZ, 768, .inl (a.2.2.1)))] H locs := hG
      refine lv_if_eq (tgt := 39) hx hb dM_live_30 (by decide) (fun h30 => ?_) (fun h30 => ?_)
      · skip
        refine lv_iload_n hx hb dM_live_39 rfl (lv_at hl 1 rfl) ?_
        refine lv_istore_n (lv' := [(1, .int (nI (db_cn (fun w => decide (¬ db_D2 n K X Y Nm R RV Ms w = 0)) v))), (0, .ref m0), (2, .int (nI (v)))]) hx hb dM_live_40 rfl hl (by decide) rfl (fun ls hl => ?_)
        refine lv_iinc (v := nI (v + 1)) (lv' := [(2, .int (nI (v + 1))), (1, .int (nI (db_cn (fun w => decide (¬ db_D2 n K X Y Nm R RV Ms w = 0)) v))), (0, .ref m0)]) hx hb dM_live_41 hl (k := 2) rfl (dw_inc (v)) (by decide) rfl (fun ls hl => ?_)
        refine lv_goto (tgt := 13) hx hb dM_live_44 (by decide) ?_
        have e5 : nI (db_cn (fun w => decide (¬ db_D2 n K X Y Nm R RV Ms w = 0)) (v + 1)) = nI (db_cn (fun w => decide (¬ db_D2 n K X Y Nm R RV Ms w = 0)) v) := by
          show nI (db_cn (fun w => decide (¬ db_D2 n K X Y Nm R RV Ms w = 0)) v + (if decide (¬ db_D2 n K X Y Nm R RV Ms v = 0) = true then 1 else 0)) = _; rw [if_neg (by rw [decide_eq_false (fun z => z h30)]; decide), Nat.add_zero]
        have hl : lv_has ls 3 [(2, .int (nI (v + 1))), (1, .int (nI (db_cn (fun w => decide (¬ db_D2 n K X Y Nm R RV Ms w = 0)) (v + 1)))), (0, .ref m0)] := by rw [e5]; exact hl
        exact L13_ih (v + 1) ls H locs (by omega) (by omega) (lv_sub hl [2, 1, 0] rfl) (dw_perm hG [0, 1, 2, 3, 4, 5, 6, 7, 10, 8, 9] (by decide) rfl rfl)
      refine lv_iload_n hx hb dM_live_33 rfl (lv_at hl 1 rfl) ?_
      refine lv_iconst (v := 1) hx hb dM_live_34 (by decide) ?_
      refine lv_iadd hx hb dM_live_35 ?_
      refine lv_goto (tgt := 40) hx hb dM_live_36 (by decide) ?_
      refine lv_istore_n (lv' := [(1, .int ((nI (db_cn (fun w => decide (¬ db_D2 n K X Y Nm R RV Ms w = 0)) v)) + (1))), (0, .ref m0), (2, .int (nI (v)))]) hx hb dM_live_40 rfl hl (by decide) rfl (fun ls hl => ?_)
      refine lv_iinc (v := nI (v + 1)) (lv' := [(2, .int (nI (v + 1))), (1, .int ((nI (db_cn (fun w => decide (¬ db_D2 n K X Y Nm R RV Ms w = 0)) v)) + (1))), (0, .ref m0)]) hx hb dM_live_41 hl (k := 2) rfl (dw_inc (v)) (by decide) rfl (fun ls hl => ?_)
      refine lv_goto (tgt := 13) hx hb dM_live_44 (by decide) ?_
      have e5 : nI (db_cn (fun w => decide (¬ db_D2 n K X Y Nm R RV Ms w = 0)) (v + 1)) = (nI (db_cn (fun w => decide (¬ db_D2 n K X Y Nm R RV Ms w = 0)) v)) + (1) := by
        show nI (db_cn (fun w => decide (¬ db_D2 n K X Y Nm R RV Ms w = 0)) v + (if decide (¬ db_D2 n K X Y Nm R RV Ms v = 0) = true then 1 else 0)) = _; rw [if_pos (decide_eq_true h30)]; exact (nI_1 _).symm
      have hl : lv_has ls 3 [(2, .int (nI (v + 1))), (1, .int (nI (db_cn (fun w => decide (¬ db_D2 n K X Y Nm R RV Ms w = 0)) (v + 1)))), (0, .ref m0)] := by rw [e5]; exact hl
      exact L13_ih (v + 1) ls H locs (by omega) (by omega) (lv_sub hl [2, 1, 0] rfl) (dw_perm hG [0, 1, 2, 3, 4, 5, 6, 7, 10, 8, 9] (by decide) rfl rfl)
  exact L13 _ (0) ls H locs (Nat.lt_succ_self _) (Nat.zero_le _) (lv_sub hl [2, 1, 0] rfl) hG

