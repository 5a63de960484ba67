set_option maxRecDepth 100000 in
set_option maxHeartbeats 4000000 in
theorem rf_run_0 (l : Launch) (dC : Nat → ClassId) (dI : Nat → Nat → Nat) (cI cZ : ClassId) (m0 aMd aO1 aT2 aSh aMk aFa aDe aNe aBy aPi aNw aNs aBf n R : Nat) (ft rn rr pd : Int32) (K X Y : Nat → Nat) (Nm : Nat → Int32) (RV : Nat → Nat) (Ms : Nat → Int32) (Fa De Ne By Pi Nw Ns Bef : Nat → Int32) (kr : Nat) (in0 in1 in2 : Int32) (sz : Nat) (hn : n ≤ 24) (hR : R ≤ 4) (hwf : db_wf n K X Y Nm) (hRV : ∀ r, r < R → RV r < n) (hk1 : 1 ≤ kr) (hk50 : kr ≤ 50) : Met l yM_run wsM_run { frames := 5, cells := 0, slots := 0, locals := 180 } (va_Pc [.ref m0, .int (nI (kr)), .int (in0), .int (in1), .int (in2)] (dw_pre (dC, dI) vwCl [(m0, .inr (5, [.int (ft), .int (nI (n)), .ref aMd, .ref aO1, .ref aT2, .int (nI (R)), .ref aSh, .ref aMk, .ref aFa, .ref aDe, .ref aNe, .ref aBy, .ref aPi, .int (pd), .ref aNw, .ref aNs, .ref aBf, .int (rn), .int (rr)])), (aMd, .inl (cI, 24, .inl (fun w => nI (db_rk (K w))))), (aO1, .inl (cI, 24, .inl (db_one1 K X Nm))), (aT2, .inl (cI, 24, .inl (db_two2 K Y Nm))), (aSh, .inl (cI, 4, .inl (fun r => nI (RV r)))), (aMk, .inl (cI, 4, .inl (Ms))), (aFa, .inl (cI, 768, .inl (Fa))), (aDe, .inl (cZ, 768, .inl (De))), (aNe, .inl (cZ, 768, .inl (Ne))), (aBy, .inl (cI, 24, .inl (By))), (aPi, .inl (cI, 1600, .inl (Pi))), (aNw, .inl (cI, 24, .inl (Nw))), (aNs, .inl (cI, 24, .inl (Ns))), (aBf, .inl (cI, 24, .inl (Bef)))] [(cI, .int), (cZ, .boolean)] sz)) (va_Qi (fun (r : Int32) (u : db_AR × (Nat → Int32)) => r = nI (db_dif (db_course n K X Y Nm (fun _ => -1) (db_facts n K X Y Nm).2 (db_inp in0 in1 in2) kr Nw) (db_course n K X Y Nm (db_Bf n K X Y Nm R RV Ms) (db_facts n K X Y Nm).2 (db_inp in0 in1 in2) kr Ns) n) ∧ db_an n K X Y Nm R RV Ms u.1) (fun u t => dw_post (dC, dI) vwCl [(m0, .inr (5, [.int (0), .int (nI (n)), .ref aMd, .ref aO1, .ref aT2, .int (nI (R)), .ref aSh, .ref aMk, .ref aFa, .ref aDe, .ref aNe, .ref aBy, .ref aPi, .int (nI u.1.2.2.2.2.2), .ref aNw, .ref aNs, .ref aBf, .int (nI (n)), .int (nI (R))])), (aMd, .inl (cI, 24, .inl (fun w => nI (db_rk (K w))))), (aO1, .inl (cI, 24, .inl (db_one1 K X Nm))), (aT2, .inl (cI, 24, .inl (db_two2 K Y Nm))), (aSh, .inl (cI, 4, .inl (fun r => nI (RV r)))), (aMk, .inl (cI, 4, .inl (Ms))), (aFa, .inl (cI, 768, .inl (u.1.1))), (aDe, .inl (cZ, 768, .inl (u.1.2.1))), (aNe, .inl (cZ, 768, .inl (u.1.2.2.1))), (aBy, .inl (cI, 24, .inl (u.1.2.2.2.1))), (aPi, .inl (cI, 1600, .inl (u.1.2.2.2.2.1))), (aNw, .inl (cI, 24, .inl ((db_course n K X Y Nm (fun _ => -1) (db_facts n K X Y Nm).2 (db_inp in0 in1 in2) kr Nw)))), (aNs, .inl (cI, 24, .inl ((db_course n K X Y Nm (db_Bf n K X Y Nm R RV Ms) (db_facts n K X Y Nm).2 (db_inp in0 in1 in2) kr Ns)))), (aBf, .inl (cI, 24, .inl (u.2)))] [(cI, .int), (cZ, .boolean)] (va_A [(m0, .inr (5, [.int (ft), .int (nI (n)), .ref aMd, .ref aO1, .ref aT2, .int (nI (R)), .ref aSh, .ref aMk, .ref aFa, .ref aDe, .ref aNe, .ref aBy, .ref aPi, .int (pd), .ref aNw, .ref aNs, .ref aBf, .int (rn), .int (rr)])), (aMd, .inl (cI, 24, .inl (fun w => nI (db_rk (K w))))), (aO1, .inl (cI, 24, .inl (db_one1 K X Nm))), (aT2, .inl (cI, 24, .inl (db_two2 K Y Nm))), (aSh, .inl (cI, 4, .inl (fun r => nI (RV r)))), (aMk, .inl (cI, 4, .inl (Ms))), (aFa, .inl (cI, 768, .inl (Fa))), (aDe, .inl (cZ, 768, .inl (De))), (aNe, .inl (cZ, 768, .inl (Ne))), (aBy, .inl (cI, 24, .inl (By))), (aPi, .inl (cI, 1600, .inl (Pi))), (aNw, .inl (cI, 24, .inl (Nw))), (aNs, .inl (cI, 24, .inl (Ns))), (aBf, .inl (cI, 24, .inl (Bef)))] sz) t) (va_A [(m0, .inr (5, [.int (ft), .int (nI (n)), .ref aMd, .ref aO1, .ref aT2, .int (nI (R)), .ref aSh, .ref aMk, .ref aFa, .ref aDe, .ref aNe, .ref aBy, .ref aPi, .int (pd), .ref aNw, .ref aNs, .ref aBf, .int (rn), .int (rr)])), (aMd, .inl (cI, 24, .inl (fun w => nI (db_rk (K w))))), (aO1, .inl (cI, 24, .inl (db_one1 K X Nm))), (aT2, .inl (cI, 24, .inl (db_two2 K Y Nm))), (aSh, .inl (cI, 4, .inl (fun r => nI (RV r)))), (aMk, .inl (cI, 4, .inl (Ms))), (aFa, .inl (cI, 768, .inl (Fa))), (aDe, .inl (cZ, 768, .inl (De))), (aNe, .inl (cZ, 768, .inl (Ne))), (aBy, .inl (cI, 24, .inl (By))), (aPi, .inl (cI, 1600, .inl (Pi))), (aNw, .inl (cI, 24, .inl (Nw))), (aNs, .inl (cI, 24, .inl (Ns))), (aBf, .inl (cI, 24, .inl (Bef)))] sz)) 0 0 (va_A [(m0, .inr (5, [.int (ft), .int (nI (n)), .ref aMd, .ref aO1, .ref aT2, .int (nI (R)), .ref aSh, .ref aMk, .ref aFa, .ref aDe, .ref aNe, .ref aBy, .ref aPi, .int (pd), .ref aNw, .ref aNs, .ref aBf, .int (rn), .int (rr)])), (aMd, .inl (cI, 24, .inl (fun w => nI (db_rk (K w))))), (aO1, .inl (cI, 24, .inl (db_one1 K X Nm))), (aT2, .inl (cI, 24, .inl (db_two2 K Y Nm))), (aSh, .inl (cI, 4, .inl (fun r => nI (RV r)))), (aMk, .inl (cI, 4, .inl (Ms))), (aFa, .inl (cI, 768, .inl (Fa))), (aDe, .inl (cZ, 768, .inl (De))), (aNe, .inl (cZ, 768, .inl (Ne))), (aBy, .inl (cI, 24, .inl (By))), (aPi, .inl (cI, 1600, .inl (Pi))), (aNw, .inl (cI, 24, .inl (Nw))), (aNs, .inl (cI, 24, .inl (Ns))), (aBf, .inl (cI, 24, .inl (Bef)))] sz) := by
  refine Met.ofW (cc := cM_run) (maxL := 7) (ret := (some .int)) (by decide) rfl ?_
  intro p e s m args below meth c s₁ B hml hv0
  have hx := B.exec
  have hb := B.bytes
  have hr := B.returns
  have hts := atoms_spec (ws := wsM_run) B.pre
  have hown : s.vm.findClass RM = some m.cls := findClass_of_methodNamed B.named
  have hlocks := B.notSynchronized
  obtain ⟨rfl, hsz, hG⟩ := dw_enter hv0
  generalize va_A [(m0, .inr (5, [.int (ft), .int (nI (n)), .ref aMd, .ref aO1, .ref aT2, .int (nI (R)), .ref aSh, .ref aMk, .ref aFa, .ref aDe, .ref aNe, .ref aBy, .ref aPi, .int (pd), .ref aNw, .ref aNs, .ref aBf, .int (rn), .int (rr)])), (aMd, .inl (cI, 24, .inl (fun w => nI (db_rk (K w))))), (aO1, .inl (cI, 24, .inl (db_one1 K X Nm))), (aT2, .inl (cI, 24, .inl (db_two2 K Y Nm))), (aSh, .inl (cI, 4, .inl (fun r => nI (RV r)))), (aMk, .inl (cI, 4, .inl (Ms))), (aFa, .inl (cI, 768, .inl (Fa))), (aDe, .inl (cZ, 768, .inl (De))), (aNe, .inl (cZ, 768, .inl (Ne))), (aBy, .inl (cI, 24, .inl (By))), (aPi, .inl (cI, 1600, .inl (Pi))), (aNw, .inl (cI, 24, .inl (Nw))), (aNs, .inl (cI, 24, .inl (Ns))), (aBf, .inl (cI, 24, .inl (Bef)))] sz = A at hG ⊢
  have hl := lv_entry ([.ref m0, .int (nI (kr)), .int (in0), .int (in1), .int (in2)]) (n := 7) (Nat.le_of_ble_eq_true rfl)
  rw [lg_entry_eq]
  generalize (lg_sl ([.ref m0, .int (nI (kr)), .int (in0), .int (in1), .int (in2)]) ++ List.replicate (7 - (lg_sl ([.ref m0, .int (nI (kr)), .int (in0), .int (in1), .int (in2)])).length) Slot.unset).toArray = ls at hl ⊢
  have hl : lv_has ls 7 [(0, .ref m0), (1, .int (nI (kr))), (2, .int (in0)), (3, .int (in1)), (4, .int (in2))] := hl
  have hw494 := hts _ (List.mem_cons_of_mem _ tw_494)
  have hw508 := hts _ (List.mem_cons_of_mem _ tw_508)
  have hw509 := hts _ (List.mem_cons_of_mem _ tw_509)
  have hw495 := hts _ (List.mem_cons_of_mem _ tw_495)
  have hw511 := hts _ (List.mem_cons_of_mem _ tw_511)
  have hw499 := hts _ (List.mem_cons_of_mem _ tw_499)
  have hw512 := hts _ (List.mem_cons_of_mem _ tw_512)
  refine dw_Q (fun Q hQ => ?_)
  suffices hgo : ∀ (H : Heap) (locs : List Loc), dw_G (dC, dI) vwCl [(cI, .int), (cZ, .boolean)] A s.heap s [(m0, .inr (5, [.int (ft), .int (nI (n)), .ref aMd, .ref aO1, .ref aT2, .int (nI (R)), .ref aSh, .ref aMk, .ref aFa, .ref aDe, .ref aNe, .ref aBy, .ref aPi, .int (pd), .ref aNw, .ref aNs, .ref aBf, .int (rn), .int (rr)])), (aMd, .inl (cI, 24, .inl (fun w => nI (db_rk (K w))))), (aO1, .inl (cI, 24, .inl (db_one1 K X Nm))), (aT2, .inl (cI, 24, .inl (db_two2 K Y Nm))), (aSh, .inl (cI, 4, .inl (fun r => nI (RV r)))), (aMk, .inl (cI, 4, .inl (Ms))), (aFa, .inl (cI, 768, .inl (Fa))), (aDe, .inl (cZ, 768, .inl (De))), (aNe, .inl (cZ, 768, .inl (Ne))), (aBy, .inl (cI, 24, .inl (By))), (aPi, .inl (cI, 1600, .inl (Pi))), (aNw, .inl (cI, 24, .inl (Nw))), (aNs, .inl (cI, 24, .inl (Ns))), (aBf, .inl (cI, 24, .inl (Bef)))] H locs → W p l e (headSpec wsM_run { frames := 5, cells := 0, slots := 0, locals := 180 }).room s m [.ref m0, .int (nI (kr)), .int (in0), .int (in1), .int (in2)].toArray below meth c H locs 0 0 Q (F0 m 0 ls []) from hgo _ _ hG
  clear hG
  intro H locs hG
  refine lv_aload_n hx hb dM_run_0 rfl (lv_at hl 0 rfl) ?_
  refine lv_iload_n hx hb dM_run_1 rfl (lv_at hl 1 rfl) ?_
  refine lv_iconst (v := 1) hx hb dM_run_2 (by decide) ?_
  refine lv_icmp_lt (tgt := 12) hx hb dM_run_3 (by decide) (fun h3 => ?_) (fun h3 => ?_)
  · skip
    replace h3 := (nI_ltI (a := kr) (b := 1) (by omega) (by omega)).mp h3
    (exfalso; omega)
  replace h3 : ¬ kr < 1 := fun hq0 => h3 ((nI_ltI (a := kr) (b := 1) (by omega) (by omega)).mpr hq0)
  refine lv_iload_n hx hb dM_run_6 rfl (lv_at hl 1 rfl) ?_
  refine lv_bipush (v := 50) hx hb dM_run_7 (by decide) ?_
  refine lv_icmp_le (tgt := 16) hx hb dM_run_9 (by decide) (fun h9 => ?_) (fun h9 => ?_)
  · skip
    replace h9 := (nI_leI (a := kr) (b := 50) (by omega) (by omega)).mp h9
    refine lv_iconst (v := 0) hx hb dM_run_16 (by decide) ?_
    refine dw_put (ws' := [(m0, .inr (5, [.int (0), .int (nI (n)), .ref aMd, .ref aO1, .ref aT2, .int (nI (R)), .ref aSh, .ref aMk, .ref aFa, .ref aDe, .ref aNe, .ref aBy, .ref aPi, .int (pd), .ref aNw, .ref aNs, .ref aBf, .int (rn), .int (rr)])), (aMd, .inl (cI, 24, .inl (fun w => nI (db_rk (K w))))), (aO1, .inl (cI, 24, .inl (db_one1 K X Nm))), (aT2, .inl (cI, 24, .inl (db_two2 K Y Nm))), (aSh, .inl (cI, 4, .inl (fun r => nI (RV r)))), (aMk, .inl (cI, 4, .inl (Ms))), (aFa, .inl (cI, 768, .inl (Fa))), (aDe, .inl (cZ, 768, .inl (De))), (aNe, .inl (cZ, 768, .inl (Ne))), (aBy, .inl (cI, 24, .inl (By))), (aPi, .inl (cI, 1600, .inl (Pi))), (aNw, .inl (cI, 24, .inl (Nw))), (aNs, .inl (cI, 24, .inl (Ns))), (aBf, .inl (cI, 24, .inl (Bef)))]) hx hb hts inMc tyM tyM_ok nmM hown hG 0 0 rfl rfl (by decide) hw494 rfl rfl (ty := .int) (by decide +kernel) rfl rfl (Nat.le_of_ble_eq_true rfl) dM_run_17 rfl (fun H locs hG => ?_)
    refine lv_aload_n hx hb dM_run_20 rfl (lv_at hl 0 rfl) ?_
    refine dw_get hx hb hts inMc hown hG 0 0 rfl rfl (by decide) hw494 rfl rfl dM_run_21 ?_
    refine lv_if_le (tgt := 29) hx hb dM_run_24 (by decide) (fun h24 => ?_) (fun h24 => ?_)
    · skip
      replace h24 := (nI_leI (a := 0) (b := 0) (by omega) (by omega)).mp h24
      refine lv_aload_n hx hb dM_run_29 rfl (lv_at hl 0 rfl) ?_
      refine dw_callv (wc := [(m0, .inr (5, [.int (0), .int (nI (n)), .ref aMd, .ref aO1, .ref aT2, .int (nI (R)), .ref aSh, .ref aMk, .ref aFa, .ref aDe, .ref aNe, .ref aBy, .ref aPi, .int (pd), .ref aNw, .ref aNs, .ref aBf, .int (rn), .int (rr)])), (aMd, .inl (cI, 24, .inl (fun w => nI (db_rk (K w))))), (aO1, .inl (cI, 24, .inl (db_one1 K X Nm))), (aT2, .inl (cI, 24, .inl (db_two2 K Y Nm))), (aSh, .inl (cI, 4, .inl (fun r => nI (RV r)))), (aMk, .inl (cI, 4, .inl (Ms))), (aFa, .inl (cI, 768, .inl (Fa))), (aDe, .inl (cZ, 768, .inl (De))), (aNe, .inl (cZ, 768, .inl (Ne))), (aBy, .inl (cI, 24, .inl (By))), (aPi, .inl (cI, 1600, .inl (Pi)))]) (wr := [(aNw, .inl (cI, 24, .inl (Nw))), (aNs, .inl (cI, 24, .inl (Ns))), (aBf, .inl (cI, 24, .inl (Bef)))]) hG [0, 1, 2, 3, 4, 5, 6, 7, 8, 9, 10] [11, 12, 13] rfl rfl (by decide) (by decide) (va_runV (As := []) (rest := []) ⟨hx, hb, hml, hown, hts⟩ (rf_analyse l dC dI cI cZ m0 aMd aO1 aT2 aSh aMk aFa aDe aNe aBy aPi aNw aNs aBf n R (0) (rn) (rr) (pd) K X Y Nm RV Ms (Fa) (De) (Ne) (By) (Pi) H.size hn hR hwf hRV) (dc_V 0 hts tw_601 tw_603 tp_M_analyse tw_7 tw_604 rfl rfl (by decide +kernel) ⟨Nat.le_of_ble_eq_true rfl, Nat.le_of_ble_eq_true rfl⟩) (dw_preV (ci := 5) hG [0, 1, 2, 3, 4, 5, 6, 7, 8, 9, 10] [0, 1] rfl rfl (by decide) rfl rfl (q0 := 0) rfl) rfl rfl hl.1 rfl (lv_room (Nat.le_of_ble_eq_true rfl)) dM_run_30 ⟨Nat.le_refl _, Nat.le_refl _⟩) (fun a H locs ha hG => ?_)
      have hG : dw_G (dC, dI) vwCl [(cI, .int), (cZ, .boolean)] A s.heap s [(aNw, .inl (cI, 24, .inl (Nw))), (aNs, .inl (cI, 24, .inl (Ns))), (aBf, .inl (cI, 24, .inl (Bef))), (m0, .inr (5, [.int (0), .int (nI (n)), .ref aMd, .ref aO1, .ref aT2, .int (nI (R)), .ref aSh, .ref aMk, .ref aFa, .ref aDe, .ref aNe, .ref aBy, .ref aPi, .int (nI a.2.2.2.2.2), .ref aNw, .ref aNs, .ref aBf, .int (rn), .int (rr)])), (aMd, .inl (cI, 24, .inl (fun w => nI (db_rk (K w))))), (aO1, .inl (cI, 24, .inl (db_one1 K X Nm))), (aT2, .inl (cI, 24, .inl (db_two2 K Y Nm))), (aSh, .inl (cI, 4, .inl (fun r => nI (RV r)))), (aMk, .inl (cI, 4, .inl (Ms))), (aFa, .inl (cI, 768, .inl (a.1))), (aDe, .inl (cZ, 768, .inl (a.2.1))), (aNe, .inl (cZ, 768, .inl (a.2.2.1))), (aBy, .inl (cI, 24, .inl (a.2.2.2.1))), (aPi, .inl (cI, 1600, .inl (a.2.2.2.2.1)))] H locs := hG
      refine lv_aload_n hx hb dM_run_33 rfl (lv_at hl 0 rfl) ?_
      refine lv_aload_n hx hb dM_run_34 rfl (lv_at hl 0 rfl) ?_
      refine dw_get hx hb hts inMc hown hG 3 14 rfl rfl (by decide) hw508 rfl rfl dM_run_35 ?_
      refine lv_iconst (v := 0) hx hb dM_run_38 (by decide) ?_
      refine lv_iload_n hx hb dM_run_39 rfl (lv_at hl 1 rfl) ?_
      refine lv_iload_n hx hb dM_run_40 rfl (lv_at hl 2 rfl) ?_
      refine lv_iload_n hx hb dM_run_41 rfl (lv_at hl 3 rfl) ?_
      refine lv_iload hx hb dM_run_42 (lv_at hl 4 rfl) ?_
      refine dw_callv (wc := [(m0, .inr (5, [.int (0), .int (nI (n)), .ref aMd, .ref aO1, .ref aT2, .int (nI (R)), .ref aSh, .ref aMk, .ref aFa, .ref aDe, .ref aNe, .ref aBy, .ref aPi, .int (nI a.2.2.2.2.2), .ref aNw, .ref aNs, .ref aBf, .int (rn), .int (rr)])), (aMd, .inl (cI, 24, .inl (fun w => nI (db_rk (K w))))), (aO1, .inl (cI, 24, .inl (db_one1 K X Nm))), (aT2, .inl (cI, 24, .inl (db_two2 K Y Nm))), (aFa, .inl (cI, 768, .inl (a.1))), (aBf, .inl (cI, 24, .inl (Bef))), (aNw, .inl (cI, 24, .inl (Nw)))]) (wr := [(aNs, .inl (cI, 24, .inl (Ns))), (aSh, .inl (cI, 4, .inl (fun r => nI (RV r)))), (aMk, .inl (cI, 4, .inl (Ms))), (aDe, .inl (cZ, 768, .inl (a.2.1))), (aNe, .inl (cZ, 768, .inl (a.2.2.1))), (aBy, .inl (cI, 24, .inl (a.2.2.2.1))), (aPi, .inl (cI, 1600, .inl (a.2.2.2.2.1)))]) hG [3, 4, 5, 6, 9, 2, 0] [1, 7, 8, 10, 11, 12, 13] rfl rfl (by decide) (by decide) (va_runV (As := [.ref aNw, .int (0), .int (nI (kr)), .int (in0), .int (in1), .int (in2)]) (rest := []) ⟨hx, hb, hml, hown, hts⟩ (rf_runOne0 l dC dI cI cZ m0 aMd aO1 aT2 aSh aMk aFa aDe aNe aBy aPi aNw aNs aBf n (0) (nI R) (nI a.2.2.2.2.2) (rn) (rr) aNw kr K X Y Nm (db_facts n K X Y Nm) a.1 (Bef) (Nw) in0 in1 in2 H.size hn hk50 hwf ha.1 (db_facts_aps hwf)) (dc_V 6 hts tw_696 tw_698 tp_M_runOne tw_7 tw_699 rfl rfl (by decide +kernel) ⟨Nat.le_of_ble_eq_true rfl, Nat.le_of_ble_eq_true rfl⟩) (dw_preV (ci := 5) hG [3, 4, 5, 6, 9, 2, 0] [0, 1] rfl rfl (by decide) rfl rfl (q0 := 3) rfl) rfl rfl hl.1 rfl (lv_room (Nat.le_of_ble_eq_true rfl)) dM_run_44 ⟨Nat.le_refl _, Nat.le_refl _⟩) (fun b0 H locs hb0 hG => ?_)
      have hG : dw_G (dC, dI) vwCl [(cI, .int), (cZ, .boolean)] A s.heap s [(aNs, .inl (cI, 24, .inl (Ns))), (aSh, .inl (cI, 4, .inl (fun r => nI (RV r)))), (aMk, .inl (cI, 4, .inl (Ms))), (aDe, .inl (cZ, 768, .inl (a.2.1))), (aNe, .inl (cZ, 768, .inl (a.2.2.1))), (aBy, .inl (cI, 24, .inl (a.2.2.2.1))), (aPi, .inl (cI, 1600, .inl (a.2.2.2.2.1))), (m0, .inr (5, [.int (0), .int (nI (n)), .ref aMd, .ref aO1, .ref aT2, .int (nI (R)), .ref aSh, .ref aMk, .ref aFa, .ref aDe, .ref aNe, .ref aBy, .ref aPi, .int (nI a.2.2.2.2.2), .ref aNw, .ref aNs, .ref aBf, .int (rn), .int (rr)])), (aMd, .inl (cI, 24, .inl (fun w => nI (db_rk (K w))))), (aO1, .inl (cI, 24, .inl (db_one1 K X Nm))), (aT2, .inl (cI, 24, .inl (db_two2 K Y Nm))), (aFa, .inl (cI, 768, .inl (a.1))), (aBf, .inl (cI, 24, .inl (b0.2))), (aNw, .inl (cI, 24, .inl (b0.1)))] H locs := hG
      rw [hb0] at hG
      refine lv_aload_n hx hb dM_run_47 rfl (lv_at hl 0 rfl) ?_
      refine lv_aload_n hx hb dM_run_48 rfl (lv_at hl 0 rfl) ?_
      refine dw_get hx hb hts inMc hown hG 7 15 rfl rfl (by decide) hw509 rfl rfl dM_run_49 ?_
      refine lv_iconst (v := 1) hx hb dM_run_52 (by decide) ?_
      refine lv_iload_n hx hb dM_run_53 rfl (lv_at hl 1 rfl) ?_
      refine lv_iload_n hx hb dM_run_54 rfl (lv_at hl 2 rfl) ?_
      refine lv_iload_n hx hb dM_run_55 rfl (lv_at hl 3 rfl) ?_
      refine lv_iload hx hb dM_run_56 (lv_at hl 4 rfl) ?_
      refine dw_callv (wc := [(m0, .inr (5, [.int (0), .int (nI (n)), .ref aMd, .ref aO1, .ref aT2, .int (nI (R)), .ref aSh, .ref aMk, .ref aFa, .ref aDe, .ref aNe, .ref aBy, .ref aPi, .int (nI a.2.2.2.2.2), .ref aNw, .ref aNs, .ref aBf, .int (rn), .int (rr)])), (aMd, .inl (cI, 24, .inl (fun w => nI (db_rk (K w))))), (aO1, .inl (cI, 24, .inl (db_one1 K X Nm))), (aT2, .inl (cI, 24, .inl (db_two2 K Y Nm))), (aFa, .inl (cI, 768, .inl (a.1))), (aBf, .inl (cI, 24, .inl (b0.2))), (aNs, .inl (cI, 24, .inl (Ns))), (aBy, .inl (cI, 24, .inl (a.2.2.2.1)))]) (wr := [(aSh, .inl (cI, 4, .inl (fun r => nI (RV r)))), (aMk, .inl (cI, 4, .inl (Ms))), (aDe, .inl (cZ, 768, .inl (a.2.1))), (aNe, .inl (cZ, 768, .inl (a.2.2.1))), (aPi, .inl (cI, 1600, .inl (a.2.2.2.2.1))), (aNw, .inl (cI, 24, .inl ((db_course n K X Y Nm (fun _ => -1) (db_facts n K X Y Nm).2 (db_inp in0 in1 in2) kr Nw))))]) hG [7, 8, 9, 10, 11, 12, 0, 5] [1, 2, 3, 4, 6, 13] rfl rfl (by decide) (by decide) (va_runV (As := [.ref aNs, .int (1), .int (nI (kr)), .int (in0), .int (in1), .int (in2)]) (rest := []) ⟨hx, hb, hml, hown, hts⟩ (rf_runOne1 l dC dI cI cZ m0 aMd aO1 aT2 aSh aMk aFa aDe aNe aBy aPi aNw aNs aBf n (0) (nI R) (nI a.2.2.2.2.2) (rn) (rr) aNs kr K X Y Nm (db_facts n K X Y Nm) a.1 (b0.2) (Ns) in0 in1 in2 a.2.2.2.1 H.size hn hk50 hwf ha.1 (db_facts_aps hwf) (fun v hv => by rw [ha.2.2.2 v hv]; exact db_Bf_range hwf hv)) (dc_V 6 hts tw_696 tw_698 tp_M_runOne tw_7 tw_699 rfl rfl (by decide +kernel) ⟨Nat.le_of_ble_eq_true rfl, Nat.le_of_ble_eq_true rfl⟩) (dw_preV (ci := 5) hG [7, 8, 9, 10, 11, 12, 0, 5] [0, 1] rfl rfl (by decide) rfl rfl (q0 := 7) rfl) rfl rfl hl.1 rfl (lv_room (Nat.le_of_ble_eq_true rfl)) dM_run_58 ⟨Nat.le_refl _, Nat.le_refl _⟩) (fun b1 H locs hb1 hG => ?_)
      have hG : dw_G (dC, dI) vwCl [(cI, .int), (cZ, .boolean)] A s.heap s [(aSh, .inl (cI, 4, .inl (fun r => nI (RV r)))), (aMk, .inl (cI, 4, .inl (Ms))), (aDe, .inl (cZ, 768, .inl (a.2.1))), (aNe, .inl (cZ, 768, .inl (a.2.2.1))), (aPi, .inl (cI, 1600, .inl (a.2.2.2.2.1))), (aNw, .inl (cI, 24, .inl ((db_course n K X Y Nm (fun _ => -1) (db_facts n K X Y Nm).2 (db_inp in0 in1 in2) kr Nw)))), (m0, .inr (5, [.int (0), .int (nI (n)), .ref aMd, .ref aO1, .ref aT2, .int (nI (R)), .ref aSh, .ref aMk, .ref aFa, .ref aDe, .ref aNe, .ref aBy, .ref aPi, .int (nI a.2.2.2.2.2), .ref aNw, .ref aNs, .ref aBf, .int (rn), .int (rr)])), (aMd, .inl (cI, 24, .inl (fun w => nI (db_rk (K w))))), (aO1, .inl (cI, 24, .inl (db_one1 K X Nm))), (aT2, .inl (cI, 24, .inl (db_two2 K Y Nm))), (aFa, .inl (cI, 768, .inl (a.1))), (aBf, .inl (cI, 24, .inl (b1.2))), (aNs, .inl (cI, 24, .inl (b1.1))), (aBy, .inl (cI, 24, .inl (a.2.2.2.1)))] H locs := hG
      rw [db_course_congr (fun v hv => ha.2.2.2 v hv) (fun v _ => rfl)] at hb1
      rw [hb1] at hG
      refine lv_aload_n hx hb dM_run_61 rfl (lv_at hl 0 rfl) ?_
      refine lv_aload_n hx hb dM_run_62 rfl (lv_at hl 0 rfl) ?_
      refine dw_get hx hb hts inMc hown hG 6 1 rfl rfl (by decide) hw495 rfl rfl dM_run_63 ?_
      refine dw_put (ws' := [(aSh, .inl (cI, 4, .inl (fun r => nI (RV r)))), (aMk, .inl (cI, 4, .inl (Ms))), (aDe, .inl (cZ, 768, .inl (a.2.1))), (aNe, .inl (cZ, 768, .inl (a.2.2.1))), (aPi, .inl (cI, 1600, .inl (a.2.2.2.2.1))), (aNw, .inl (cI, 24, .inl ((db_course n K X Y Nm (fun _ => -1) (db_facts n K X Y Nm).2 (db_inp in0 in1 in2) kr Nw)))), (m0, .inr (5, [.int (0), .int (nI (n)), .ref aMd, .ref aO1, .ref aT2, .int (nI (R)), .ref aSh, .ref aMk, .ref aFa, .ref aDe, .ref aNe, .ref aBy, .ref aPi, .int (nI a.2.2.2.2.2), .ref aNw, .ref aNs, .ref aBf, .int (nI (n)), .int (rr)])), (aMd, .inl (cI, 24, .inl (fun w => nI (db_rk (K w))))), (aO1, .inl (cI, 24, .inl (db_one1 K X Nm))), (aT2, .inl (cI, 24, .inl (db_two2 K Y Nm))), (aFa, .inl (cI, 768, .inl (a.1))), (aBf, .inl (cI, 24, .inl (b1.2))), (aNs, .inl (cI, 24, .inl ((db_course n K X Y Nm (db_Bf n K X Y Nm R RV Ms) (db_facts n K X Y Nm).2 (db_inp in0 in1 in2) kr Ns)))), (aBy, .inl (cI, 24, .inl (a.2.2.2.1)))]) hx hb hts inMc tyM tyM_ok nmM hown hG 6 17 rfl rfl (by decide) hw511 rfl rfl (ty := .int) (by decide +kernel) rfl rfl (Nat.le_of_ble_eq_true rfl) dM_run_66 rfl (fun H locs hG => ?_)
      refine lv_aload_n hx hb dM_run_69 rfl (lv_at hl 0 rfl) ?_
      refine lv_aload_n hx hb dM_run_70 rfl (lv_at hl 0 rfl) ?_
      refine dw_get hx hb hts inMc hown hG 6 5 rfl rfl (by decide) hw499 rfl rfl dM_run_71 ?_
      refine dw_put (ws' := [(aSh, .inl (cI, 4, .inl (fun r => nI (RV r)))), (aMk, .inl (cI, 4, .inl (Ms))), (aDe, .inl (cZ, 768, .inl (a.2.1))), (aNe, .inl (cZ, 768, .inl (a.2.2.1))), (aPi, .inl (cI, 1600, .inl (a.2.2.2.2.1))), (aNw, .inl (cI, 24, .inl ((db_course n K X Y Nm (fun _ => -1) (db_facts n K X Y Nm).2 (db_inp in0 in1 in2) kr Nw)))), (m0, .inr (5, [.int (0), .int (nI (n)), .ref aMd, .ref aO1, .ref aT2, .int (nI (R)), .ref aSh, .ref aMk, .ref aFa, .ref aDe, .ref aNe, .ref aBy, .ref aPi, .int (nI a.2.2.2.2.2), .ref aNw, .ref aNs, .ref aBf, .int (nI (n)), .int (nI (R))])), (aMd, .inl (cI, 24, .inl (fun w => nI (db_rk (K w))))), (aO1, .inl (cI, 24, .inl (db_one1 K X Nm))), (aT2, .inl (cI, 24, .inl (db_two2 K Y Nm))), (aFa, .inl (cI, 768, .inl (a.1))), (aBf, .inl (cI, 24, .inl (b1.2))), (aNs, .inl (cI, 24, .inl ((db_course n K X Y Nm (db_Bf n K X Y Nm R RV Ms) (db_facts n K X Y Nm).2 (db_inp in0 in1 in2) kr Ns)))), (aBy, .inl (cI, 24, .inl (a.2.2.2.1)))]) hx hb hts inMc tyM tyM_ok nmM hown hG 6 18 rfl rfl (by decide) hw512 rfl rfl (ty := .int) (by decide +kernel) rfl rfl (Nat.le_of_ble_eq_true rfl) dM_run_74 rfl (fun H locs hG => ?_)
      refine lv_iconst (v := 0) hx hb dM_run_77 (by decide) ?_
      refine lv_istore (lv' := [(5, .int (0)), (0, .ref m0), (1, .int (nI (kr))), (2, .int (in0)), (3, .int (in1)), (4, .int (in2))]) hx hb dM_run_78 hl (by decide) rfl (fun ls hl => ?_)
      refine lv_iconst (v := 0) hx hb dM_run_80 (by decide) ?_
      refine lv_istore (lv' := [(6, .int (0)), (5, .int (0)), (0, .ref m0), (1, .int (nI (kr))), (2, .int (in0)), (3, .int (in1)), (4, .int (in2))]) hx hb dM_run_81 hl (by decide) rfl (fun ls hl => ?_)
      have L83 : ∀ (zz : Nat) (v : Nat) (ls : Array Slot) (H : Heap) (locs : List Loc), n - v < zz → v ≤ n → lv_has ls 7 [(0, .ref m0), (5, .int (nI (db_dif (db_course n K X Y Nm (fun _ => -1) (db_facts n K X Y Nm).2 (db_inp in0 in1 in2) kr Nw) (db_course n K X Y Nm (db_Bf n K X Y Nm R RV Ms) (db_facts n K X Y Nm).2 (db_inp in0 in1 in2) kr Ns) v))), (6, .int (nI (v)))] → dw_G (dC, dI) vwCl [(cI, .int), (cZ, .boolean)] A s.heap s [(aSh, .inl (cI, 4, .inl (fun r => nI (RV r)))), (aMk, .inl (cI, 4, .inl (Ms))), (aDe, .inl (cZ, 768, .inl (a.2.1))), (aNe, .inl (cZ, 768, .inl (a.2.2.1))), (aPi, .inl (cI, 1600, .inl (a.2.2.2.2.1))), (aNw, .inl (cI, 24, .inl ((db_course n K X Y Nm (fun _ => -1) (db_facts n K X Y Nm).2 (db_inp in0 in1 in2) kr Nw)))), (m0, .inr (5, [.int (0), .int (nI (n)), .ref aMd, .ref aO1, .ref aT2, .int (nI (R)), .ref aSh, .ref aMk, .ref aFa, .ref aDe, .ref aNe, .ref aBy, .ref aPi, .int (nI a.2.2.2.2.2), .ref aNw, .ref aNs, .ref aBf, .int (nI (n)), .int (nI (R))])), (aMd, .inl (cI, 24, .inl (fun w => nI (db_rk (K w))))), (aO1, .inl (cI, 24, .inl (db_one1 K X Nm))), (aT2, .inl (cI, 24, .inl (db_two2 K Y Nm))), (aFa, .inl (cI, 768, .inl (a.1))), (aBf, .inl (cI, 24, .inl (b1.2))), (aNs, .inl (cI, 24, .inl ((db_course n K X Y Nm (db_Bf n K X Y Nm R RV Ms) (db_facts n K X Y Nm).2 (db_inp in0 in1 in2) kr Ns)))), (aBy, .inl (cI, 24, .inl (a.2.2.2.1)))] H locs → W p l e (headSpec wsM_run { frames := 5, cells := 0, slots := 0, locals := 180 }).room s m [.ref m0, .int (nI (kr)), .int (in0), .int (in1), .int (in2)].toArray below meth c H locs 0 0 Q (F0 m 83 ls []) := by
        intro zz
        induction zz with
        | zero => intro v ls H locs hz; exact absurd hz (Nat.not_lt_zero _)
        | succ zz L83_ih =>
          intro v ls H locs hz hv9 hl hG
          refine lv_iload hx hb dM_run_83 (lv_at hl 2 rfl) ?_
          refine lv_aload_n hx hb dM_run_85 rfl (lv_at hl 0 rfl) ?_
          refine dw_get hx hb hts inMc hown hG 6 1 rfl rfl (by decide) hw495 rfl rfl dM_run_86 ?_
          refine lv_icmp_ge (tgt := 126) hx hb dM_run_89 (by decide) (fun h89 => ?_) (fun h89 => ?_)
          · skip
            replace h89 := (nI_leI (a := n) (b := v) (by omega) (by omega)).mp h89
            refine lv_iload hx hb dM_run_126 (lv_at hl 1 rfl) ?_
            subst hQ
            exact dw_iret hx hb hr (dw_perm hG [6, 7, 8, 9, 0, 1, 10, 2, 3, 13, 4, 5, 12, 11] (by decide) rfl rfl) ((a, b1.2)) rfl ⟨by rw [show v = n by omega], ha⟩ dM_run_128 hlocks
          replace h89 : ¬ n ≤ v := fun hq0 => h89 ((nI_leI (a := n) (b := v) (by omega) (by omega)).mpr hq0)
          refine lv_aload_n hx hb dM_run_92 rfl (lv_at hl 0 rfl) ?_
          refine dw_get hx hb hts inMc hown hG 6 14 rfl rfl (by decide) hw508 rfl rfl dM_run_93 ?_
          refine lv_iload hx hb dM_run_96 (lv_at hl 2 rfl) ?_
          refine dw_ia (x := ((db_course n K X Y Nm (fun _ => -1) (db_facts n K X Y Nm).2 (db_inp in0 in1 in2) kr Nw)) (v)) hx hb hG 5 0 rfl rfl (v) rfl (by omega) (by decide) rfl dM_run_98 ?_
          refine lv_aload_n hx hb dM_run_99 rfl (lv_at hl 0 rfl) ?_
          refine dw_get hx hb hts inMc hown hG 6 15 rfl rfl (by decide) hw509 rfl rfl dM_run_100 ?_
          refine lv_iload hx hb dM_run_103 (lv_at hl 2 rfl) ?_
          refine dw_ia (x := ((db_course n K X Y Nm (db_Bf n K X Y Nm R RV Ms) (db_facts n K X Y Nm).2 (db_inp in0 in1 in2) kr Ns)) (v)) hx hb hG 12 0 rfl rfl (v) rfl (by omega) (by decide) rfl dM_run_105 ?_
          refine lv_icmp_eq (tgt := 116) hx hb dM_run_106 (by decide) (fun h106 => ?_) (fun h106 => ?_)
          · skip
            refine lv_iload hx hb dM_run_116 (lv_at hl 1 rfl) ?_
            refine lv_istore (lv' := [(5, .int (nI (db_dif (db_course n K X Y Nm (fun _ => -1) (db_facts n K X Y Nm).2 (db_inp in0 in1 in2) kr Nw) (db_course n K X Y Nm (db_Bf n K X Y Nm R RV Ms) (db_facts n K X Y Nm).2 (db_inp in0 in1 in2) kr Ns) v))), (0, .ref m0), (6, .int (nI (v)))]) hx hb dM_run_118 hl (by decide) rfl (fun ls hl => ?_)
            refine lv_iinc (v := nI (v + 1)) (lv' := [(6, .int (nI (v + 1))), (5, .int (nI (db_dif (db_course n K X Y Nm (fun _ => -1) (db_facts n K X Y Nm).2 (db_inp in0 in1 in2) kr Nw) (db_course n K X Y Nm (db_Bf n K X Y Nm R RV Ms) (db_facts n K X Y Nm).2 (db_inp in0 in1 in2) kr Ns) v))), (0, .ref m0)]) hx hb dM_run_120 hl (k := 2) rfl (dw_inc (v)) (by decide) rfl (fun ls hl => ?_)
            refine lv_goto (tgt := 83) hx hb dM_run_123 (by decide) ?_
            have e5 : nI (db_dif (db_course n K X Y Nm (fun _ => -1) (db_facts n K X Y Nm).2 (db_inp in0 in1 in2) kr Nw) (db_course n K X Y Nm (db_Bf n K X Y Nm R RV Ms) (db_facts n K X Y Nm).2 (db_inp in0 in1 in2) kr Ns) (v + 1)) = nI (db_dif (db_course n K X Y Nm (fun _ => -1) (db_facts n K X Y Nm).2 (db_inp in0 in1 in2) kr Nw) (db_course n K X Y Nm (db_Bf n K X Y Nm R RV Ms) (db_facts n K X Y Nm).2 (db_inp in0 in1 in2) kr Ns) v) := by
              show nI (db_dif (db_course n K X Y Nm (fun _ => -1) (db_facts n K X Y Nm).2 (db_inp in0 in1 in2) kr Nw) (db_course n K X Y Nm (db_Bf n K X Y Nm R RV Ms) (db_facts n K X Y Nm).2 (db_inp in0 in1 in2) kr Ns) v + (if decide (¬ (db_course n K X Y Nm (fun _ => -1) (db_facts n K X Y Nm).2 (db_inp in0 in1 in2) kr Nw) v = (db_course n K X Y Nm (db_Bf n K X Y Nm R RV Ms) (db_facts n K X Y Nm).2 (db_inp in0 in1 in2) kr Ns) v) = true then 1 else 0)) = _; rw [if_neg (by rw [decide_eq_false (fun z => z h106)]; decide), Nat.add_zero]
            have hl : lv_has ls 7 [(6, .int (nI (v + 1))), (5, .int (nI (db_dif (db_course n K X Y Nm (fun _ => -1) (db_facts n K X Y Nm).2 (db_inp in0 in1 in2) kr Nw) (db_course n K X Y Nm (db_Bf n K X Y Nm R RV Ms) (db_facts n K X Y Nm).2 (db_inp in0 in1 in2) kr Ns) (v + 1)))), (0, .ref m0)] := by rw [e5]; exact hl
            exact L83_ih (v + 1) ls H locs (by omega) (by omega) (lv_sub hl [2, 1, 0] rfl) hG
          refine lv_iload hx hb dM_run_109 (lv_at hl 1 rfl) ?_
          refine lv_iconst (v := 1) hx hb dM_run_111 (by decide) ?_
          refine lv_iadd hx hb dM_run_112 ?_
          refine lv_goto (tgt := 118) hx hb dM_run_113 (by decide) ?_
          refine lv_istore (lv' := [(5, .int ((nI (db_dif (db_course n K X Y Nm (fun _ => -1) (db_facts n K X Y Nm).2 (db_inp in0 in1 in2) kr Nw) (db_course n K X Y Nm (db_Bf n K X Y Nm R RV Ms) (db_facts n K X Y Nm).2 (db_inp in0 in1 in2) kr Ns) v)) + (1))), (0, .ref m0), (6, .int (nI (v)))]) hx hb dM_run_118 hl (by decide) rfl (fun ls hl => ?_)
          refine lv_iinc (v := nI (v + 1)) (lv' := [(6, .int (nI (v + 1))), (5, .int ((nI (db_dif (db_course n K X Y Nm (fun _ => -1) (db_facts n K X Y Nm).2 (db_inp in0 in1 in2) kr Nw) (db_course n K X Y Nm (db_Bf n K X Y Nm R RV Ms) (db_facts n K X Y Nm).2 (db_inp in0 in1 in2) kr Ns) v)) + (1))), (0, .ref m0)]) hx hb dM_run_120 hl (k := 2) rfl (dw_inc (v)) (by decide) rfl (fun ls hl => ?_)
          refine lv_goto (tgt := 83) hx hb dM_run_123 (by decide) ?_
          have e5 : nI (db_dif (db_course n K X Y Nm (fun _ => -1) (db_facts n K X Y Nm).2 (db_inp in0 in1 in2) kr Nw) (db_course n K X Y Nm (db_Bf n K X Y Nm R RV Ms) (db_facts n K X Y Nm).2 (db_inp in0 in1 in2) kr Ns) (v + 1)) = (nI (db_dif (db_course n K X Y Nm (fun _ => -1) (db_facts n K X Y Nm).2 (db_inp in0 in1 in2) kr Nw) (db_course n K X Y Nm (db_Bf n K X Y Nm R RV Ms) (db_facts n K X Y Nm).2 (db_inp in0 in1 in2) kr Ns) v)) + (1) := by
            show nI (db_dif (db_course n K X Y Nm (fun _ => -1) (db_facts n K X Y Nm).2 (db_inp in0 in1 in2) kr Nw) (db_course n K X Y Nm (db_Bf n K X Y Nm R RV Ms) (db_facts n K X Y Nm).2 (db_inp in0 in1 in2) kr Ns) v + (if decide (¬ (db_course n K X Y Nm (fun _ => -1) (db_facts n K X Y Nm).2 (db_inp in0 in1 in2) kr Nw) v = (db_course n K X Y Nm (db_Bf n K X Y Nm R RV Ms) (db_facts n K X Y Nm).2 (db_inp in0 in1 in2) kr Ns) v) = true then 1 else 0)) = _; rw [if_pos (decide_eq_true h106)]; exact (nI_1 _).symm
          have hl : lv_has ls 7 [(6, .int (nI (v + 1))), (5, .int (nI (db_dif (db_course n K X Y Nm (fun _ => -1) (db_facts n K X Y Nm).2 (db_inp in0 in1 in2) kr Nw) (db_course n K X Y Nm (db_Bf n K X Y Nm R RV Ms) (db_facts n K X Y Nm).2 (db_inp in0 in1 in2) kr Ns) (v + 1)))), (0, .ref m0)] := by rw [e5]; exact hl
          exact L83_ih (v + 1) ls H locs (by omega) (by omega) (lv_sub hl [2, 1, 0] rfl) hG
      exact L83 _ (0) ls H locs (Nat.lt_succ_self _) (Nat.zero_le _) (lv_sub hl [2, 1, 0] rfl) hG
    replace h24 : ¬ 0 ≤ 0 := fun hq0 => h24 ((nI_leI (a := 0) (b := 0) (by omega) (by omega)).mpr hq0)
    (exfalso; omega)
  replace h9 : ¬ kr ≤ 50 := fun hq0 => h9 ((nI_leI (a := kr) (b := 50) (by omega) (by omega)).mpr hq0)
  (exfalso; omega)

set_option maxRecDepth 100000 in
set_option maxHeartbeats 4000000 in
theorem rf_run_1 (l : Launch) (dC : Nat → ClassId) (dI : Nat → Nat → Nat) (cI cZ : ClassId) (m0 aMd aO1 aT2 aSh aMk aFa aDe aNe aBy aPi aNw aNs aBf n R : Nat) (ft rn rr pd : Int32) (kr in0 in1 in2 : Int32) (sz : Nat) (hbad : kr < 1 ∨ 50 < kr) : Met l yM_run wsM_run { frames := 0, cells := 0, slots := 0, locals := 0 } (va_Pc [.ref m0, .int (kr), .int (in0), .int (in1), .int (in2)] (dw_pre (dC, dI) vwCl [(m0, .inr (5, [.int (ft), .int (nI (n)), .ref aMd, .ref aO1, .ref aT2, .int (nI (R)), .ref aSh, .ref aMk, .ref aFa, .ref aDe, .ref aNe, .ref aBy, .ref aPi, .int (pd), .ref aNw, .ref aNs, .ref aBf, .int (rn), .int (rr)]))] [(cI, .int), (cZ, .boolean)] sz)) (va_Qi (fun (r : Int32) (u : Unit) => r = 0) (fun u t => dw_post (dC, dI) vwCl [(m0, .inr (5, [.int (1), .int (nI (n)), .ref aMd, .ref aO1, .ref aT2, .int (nI (R)), .ref aSh, .ref aMk, .ref aFa, .ref aDe, .ref aNe, .ref aBy, .ref aPi, .int (pd), .ref aNw, .ref aNs, .ref aBf, .int (rn), .int (rr)]))] [(cI, .int), (cZ, .boolean)] (va_A [(m0, .inr (5, [.int (ft), .int (nI (n)), .ref aMd, .ref aO1, .ref aT2, .int (nI (R)), .ref aSh, .ref aMk, .ref aFa, .ref aDe, .ref aNe, .ref aBy, .ref aPi, .int (pd), .ref aNw, .ref aNs, .ref aBf, .int (rn), .int (rr)]))] sz) t) (va_A [(m0, .inr (5, [.int (ft), .int (nI (n)), .ref aMd, .ref aO1, .ref aT2, .int (nI (R)), .ref aSh, .ref aMk, .ref aFa, .ref aDe, .ref aNe, .ref aBy, .ref aPi, .int (pd), .ref aNw, .ref aNs, .ref aBf, .int (rn), .int (rr)]))] sz)) 0 0 (va_A [(m0, .inr (5, [.int (ft), .int (nI (n)), .ref aMd, .ref aO1, .ref aT2, .int (nI (R)), .ref aSh, .ref aMk, .ref aFa, .ref aDe, .ref aNe, .ref aBy, .ref aPi, .int (pd), .ref aNw, .ref aNs, .ref aBf, .int (rn), .int (rr)]))] sz) := by
  refine Met.ofW (cc := cM_run) (maxL := 7) (ret := (some .int)) (by decide) rfl ?_
  intro p e s m args below meth c s₁ B hml hv0
  have hx := B.exec
  have hb := B.bytes
  have hr := B.returns
  have hts := atoms_spec (ws := wsM_run) B.pre
  have hown : s.vm.findClass RM = some m.cls := findClass_of_methodNamed B.named
  have hlocks := B.notSynchronized
  obtain ⟨rfl, hsz, hG⟩ := dw_enter hv0
  generalize va_A [(m0, .inr (5, [.int (ft), .int (nI (n)), .ref aMd, .ref aO1, .ref aT2, .int (nI (R)), .ref aSh, .ref aMk, .ref aFa, .ref aDe, .ref aNe, .ref aBy, .ref aPi, .int (pd), .ref aNw, .ref aNs, .ref aBf, .int (rn), .int (rr)]))] sz = A at hG ⊢
  have hl := lv_entry ([.ref m0, .int (kr), .int (in0), .int (in1), .int (in2)]) (n := 7) (Nat.le_of_ble_eq_true rfl)
  rw [lg_entry_eq]
  generalize (lg_sl ([.ref m0, .int (kr), .int (in0), .int (in1), .int (in2)]) ++ List.replicate (7 - (lg_sl ([.ref m0, .int (kr), .int (in0), .int (in1), .int (in2)])).length) Slot.unset).toArray = ls at hl ⊢
  have hl : lv_has ls 7 [(0, .ref m0), (1, .int (kr)), (2, .int (in0)), (3, .int (in1)), (4, .int (in2))] := hl
  have hw494 := hts _ (List.mem_cons_of_mem _ tw_494)
  refine dw_Q (fun Q hQ => ?_)
  suffices hgo : ∀ (H : Heap) (locs : List Loc), dw_G (dC, dI) vwCl [(cI, .int), (cZ, .boolean)] A s.heap s [(m0, .inr (5, [.int (ft), .int (nI (n)), .ref aMd, .ref aO1, .ref aT2, .int (nI (R)), .ref aSh, .ref aMk, .ref aFa, .ref aDe, .ref aNe, .ref aBy, .ref aPi, .int (pd), .ref aNw, .ref aNs, .ref aBf, .int (rn), .int (rr)]))] H locs → W p l e (headSpec wsM_run { frames := 0, cells := 0, slots := 0, locals := 0 }).room s m [.ref m0, .int (kr), .int (in0), .int (in1), .int (in2)].toArray below meth c H locs 0 0 Q (F0 m 0 ls []) from hgo _ _ hG
  clear hG
  intro H locs hG
  refine lv_aload_n hx hb dM_run_0 rfl (lv_at hl 0 rfl) ?_
  refine lv_iload_n hx hb dM_run_1 rfl (lv_at hl 1 rfl) ?_
  refine lv_iconst (v := 1) hx hb dM_run_2 (by decide) ?_
  refine lv_icmp_lt (tgt := 12) hx hb dM_run_3 (by decide) (fun h3 => ?_) (fun h3 => ?_)
  · skip
    refine lv_iconst (v := 1) hx hb dM_run_12 (by decide) ?_
    refine lv_goto (tgt := 17) hx hb dM_run_13 (by decide) ?_
    refine dw_put (ws' := [(m0, .inr (5, [.int (1), .int (nI (n)), .ref aMd, .ref aO1, .ref aT2, .int (nI (R)), .ref aSh, .ref aMk, .ref aFa, .ref aDe, .ref aNe, .ref aBy, .ref aPi, .int (pd), .ref aNw, .ref aNs, .ref aBf, .int (rn), .int (rr)]))]) hx hb hts inMc tyM tyM_ok nmM hown hG 0 0 rfl rfl (by decide) hw494 rfl rfl (ty := .int) (by decide +kernel) rfl rfl (Nat.le_of_ble_eq_true rfl) dM_run_17 rfl (fun H locs hG => ?_)
    refine lv_aload_n hx hb dM_run_20 rfl (lv_at hl 0 rfl) ?_
    refine dw_get hx hb hts inMc hown hG 0 0 rfl rfl (by decide) hw494 rfl rfl dM_run_21 ?_
    refine lv_if_le (tgt := 29) hx hb dM_run_24 (by decide) (fun h24 => ?_) (fun h24 => ?_)
    · skip
      replace h24 := (nI_leI (a := 1) (b := 0) (by omega) (by omega)).mp h24
      (exfalso; omega)
    replace h24 : ¬ 1 ≤ 0 := fun hq0 => h24 ((nI_leI (a := 1) (b := 0) (by omega) (by omega)).mpr hq0)
    refine lv_iconst (v := 0) hx hb dM_run_27 (by decide) ?_
    subst hQ
    exact dw_iret hx hb hr hG (()) rfl rfl dM_run_28 hlocks
  refine lv_iload_n hx hb dM_run_6 rfl (lv_at hl 1 rfl) ?_
  refine lv_bipush (v := 50) hx hb dM_run_7 (by decide) ?_
  refine lv_icmp_le (tgt := 16) hx hb dM_run_9 (by decide) (fun h9 => ?_) (fun h9 => ?_)
  · skip
    exact absurd hbad (fun q => q.elim h3 (fun z => Int32.not_lt.mpr h9 z))
  refine lv_iconst (v := 1) hx hb dM_run_12 (by decide) ?_
  refine lv_goto (tgt := 17) hx hb dM_run_13 (by decide) ?_
  refine dw_put (ws' := [(m0, .inr (5, [.int (1), .int (nI (n)), .ref aMd, .ref aO1, .ref aT2, .int (nI (R)), .ref aSh, .ref aMk, .ref aFa, .ref aDe, .ref aNe, .ref aBy, .ref aPi, .int (pd), .ref aNw, .ref aNs, .ref aBf, .int (rn), .int (rr)]))]) hx hb hts inMc tyM tyM_ok nmM hown hG 0 0 rfl rfl (by decide) hw494 rfl rfl (ty := .int) (by decide +kernel) rfl rfl (Nat.le_of_ble_eq_true rfl) dM_run_17 rfl (fun H locs hG => ?_)
  refine lv_aload_n hx hb dM_run_20 rfl (lv_at hl 0 rfl) ?_
  refine dw_get hx hb hts inMc hown hG 0 0 rfl rfl (by decide) hw494 rfl rfl dM_run_21 ?_
  refine lv_if_le (tgt := 29) hx hb dM_run_24 (by decide) (fun h24 => ?_) (fun h24 => ?_)
  · skip
    replace h24 := (nI_leI (a := 1) (b := 0) (by omega) (by omega)).mp h24
    (exfalso; omega)
  replace h24 : ¬ 1 ≤ 0 := fun hq0 => h24 ((nI_leI (a := 1) (b := 0) (by omega) (by omega)).mpr hq0)
  refine lv_iconst (v := 0) hx hb dM_run_27 (by decide) ?_
  subst hQ
  exact dw_iret hx hb hr hG (()) rfl rfl dM_run_28 hlocks

set_option maxRecDepth 100000 in
set_option maxHeartbeats 4000000 in
theorem rf_observed0_0 (l : Launch) (dC : Nat → ClassId) (dI : Nat → Nat → Nat) (cI cZ : ClassId) (m0 aMd aO1 aT2 aSh aMk aFa aDe aNe aBy aPi aNw aNs aBf n R rn rr : Nat) (ft pd : Int32) (RV : Nat → Nat) (Ms Nw Ns : Nat → Int32) (q : Nat) (sz : Nat) (hR : R ≤ 4) (hq : q < R) (hrr : rr ≤ 4) (hRV : RV q < 24) : Met l yM_observed wsM_observed { frames := 0, cells := 0, slots := 0, locals := 0 } (va_Pc [.ref m0, .int (nI (q)), .int (0)] (dw_pre (dC, dI) vwCl [(m0, .inr (5, [.int (ft), .int (nI (n)), .ref aMd, .ref aO1, .ref aT2, .int (nI (R)), .ref aSh, .ref aMk, .ref aFa, .ref aDe, .ref aNe, .ref aBy, .ref aPi, .int (pd), .ref aNw, .ref aNs, .ref aBf, .int (nI (rn)), .int (nI (rr))])), (aSh, .inl (cI, 4, .inl (fun r => nI (RV r)))), (aMk, .inl (cI, 4, .inl (Ms))), (aNw, .inl (cI, 24, .inl (Nw))), (aNs, .inl (cI, 24, .inl (Ns)))] [(cI, .int), (cZ, .boolean)] sz)) (va_Qi (fun (r : Int32) (u : Unit) => r = if q < rr then Nw (RV q) &&& Ms q else 0) (fun u t => dw_post (dC, dI) vwCl [(m0, .inr (5, [.int (0), .int (nI (n)), .ref aMd, .ref aO1, .ref aT2, .int (nI (R)), .ref aSh, .ref aMk, .ref aFa, .ref aDe, .ref aNe, .ref aBy, .ref aPi, .int (pd), .ref aNw, .ref aNs, .ref aBf, .int (nI (rn)), .int (nI (rr))])), (aSh, .inl (cI, 4, .inl (fun r => nI (RV r)))), (aMk, .inl (cI, 4, .inl (Ms))), (aNw, .inl (cI, 24, .inl (Nw))), (aNs, .inl (cI, 24, .inl (Ns)))] [(cI, .int), (cZ, .boolean)] (va_A [(m0, .inr (5, [.int (ft), .int (nI (n)), .ref aMd, .ref aO1, .ref aT2, .int (nI (R)), .ref aSh, .ref aMk, .ref aFa, .ref aDe, .ref aNe, .ref aBy, .ref aPi, .int (pd), .ref aNw, .ref aNs, .ref aBf, .int (nI (rn)), .int (nI (rr))])), (aSh, .inl (cI, 4, .inl (fun r => nI (RV r)))), (aMk, .inl (cI, 4, .inl (Ms))), (aNw, .inl (cI, 24, .inl (Nw))), (aNs, .inl (cI, 24, .inl (Ns)))] sz) t) (va_A [(m0, .inr (5, [.int (ft), .int (nI (n)), .ref aMd, .ref aO1, .ref aT2, .int (nI (R)), .ref aSh, .ref aMk, .ref aFa, .ref aDe, .ref aNe, .ref aBy, .ref aPi, .int (pd), .ref aNw, .ref aNs, .ref aBf, .int (nI (rn)), .int (nI (rr))])), (aSh, .inl (cI, 4, .inl (fun r => nI (RV r)))), (aMk, .inl (cI, 4, .inl (Ms))), (aNw, .inl (cI, 24, .inl (Nw))), (aNs, .inl (cI, 24, .inl (Ns)))] sz)) 0 0 (va_A [(m0, .inr (5, [.int (ft), .int (nI (n)), .ref aMd, .ref aO1, .ref aT2, .int (nI (R)), .ref aSh, .ref aMk, .ref aFa, .ref aDe, .ref aNe, .ref aBy, .ref aPi, .int (pd), .ref aNw, .ref aNs, .ref aBf, .int (nI (rn)), .int (nI (rr))])), (aSh, .inl (cI, 4, .inl (fun r => nI (RV r)))), (aMk, .inl (cI, 4, .inl (Ms))), (aNw, .inl (cI, 24, .inl (Nw))), (aNs, .inl (cI, 24, .inl (Ns)))] sz) := by
  refine Met.ofW (cc := cM_observed) (maxL := 3) (ret := (some .int)) (by decide) rfl ?_
  intro p e s m args below meth c s₁ B hml hv0
  have hx := B.exec
  have hb := B.bytes
  have hr := B.returns
  have hts := atoms_spec (ws := wsM_observed) B.pre
  have hown : s.vm.findClass RM = some m.cls := findClass_of_methodNamed B.named
  have hlocks := B.notSynchronized
  obtain ⟨rfl, hsz, hG⟩ := dw_enter hv0
  generalize va_A [(m0, .inr (5, [.int (ft), .int (nI (n)), .ref aMd, .ref aO1, .ref aT2, .int (nI (R)), .ref aSh, .ref aMk, .ref aFa, .ref aDe, .ref aNe, .ref aBy, .ref aPi, .int (pd), .ref aNw, .ref aNs, .ref aBf, .int (nI (rn)), .int (nI (rr))])), (aSh, .inl (cI, 4, .inl (fun r => nI (RV r)))), (aMk, .inl (cI, 4, .inl (Ms))), (aNw, .inl (cI, 24, .inl (Nw))), (aNs, .inl (cI, 24, .inl (Ns)))] sz = A at hG ⊢
  have hl := lv_entry ([.ref m0, .int (nI (q)), .int (0)]) (n := 3) (Nat.le_of_ble_eq_true rfl)
  rw [lg_entry_eq]
  generalize (lg_sl ([.ref m0, .int (nI (q)), .int (0)]) ++ List.replicate (3 - (lg_sl ([.ref m0, .int (nI (q)), .int (0)])).length) Slot.unset).toArray = ls at hl ⊢
  have hl : lv_has ls 3 [(0, .ref m0), (1, .int (nI (q))), (2, .int (0))] := hl
  have hw499 := hts _ (List.mem_cons_of_mem _ tw_499)
  have hw494 := hts _ (List.mem_cons_of_mem _ tw_494)
  have hw512 := hts _ (List.mem_cons_of_mem _ tw_512)
  have hw508 := hts _ (List.mem_cons_of_mem _ tw_508)
  have hw500 := hts _ (List.mem_cons_of_mem _ tw_500)
  have hw501 := hts _ (List.mem_cons_of_mem _ tw_501)
  refine dw_Q (fun Q hQ => ?_)
  suffices hgo : ∀ (H : Heap) (locs : List Loc), dw_G (dC, dI) vwCl [(cI, .int), (cZ, .boolean)] A s.heap s [(m0, .inr (5, [.int (ft), .int (nI (n)), .ref aMd, .ref aO1, .ref aT2, .int (nI (R)), .ref aSh, .ref aMk, .ref aFa, .ref aDe, .ref aNe, .ref aBy, .ref aPi, .int (pd), .ref aNw, .ref aNs, .ref aBf, .int (nI (rn)), .int (nI (rr))])), (aSh, .inl (cI, 4, .inl (fun r => nI (RV r)))), (aMk, .inl (cI, 4, .inl (Ms))), (aNw, .inl (cI, 24, .inl (Nw))), (aNs, .inl (cI, 24, .inl (Ns)))] H locs → W p l e (headSpec wsM_observed { frames := 0, cells := 0, slots := 0, locals := 0 }).room s m [.ref m0, .int (nI (q)), .int (0)].toArray below meth c H locs 0 0 Q (F0 m 0 ls []) from hgo _ _ hG
  clear hG
  intro H locs hG
  refine lv_aload_n hx hb dM_observed_0 rfl (lv_at hl 0 rfl) ?_
  refine lv_iload_n hx hb dM_observed_1 rfl (lv_at hl 1 rfl) ?_
  refine lv_if_lt (tgt := 17) hx hb dM_observed_2 (by decide) (fun h2 => ?_) (fun h2 => ?_)
  · skip
    replace h2 := (nI_ltI (a := q) (b := 0) (by omega) (by omega)).mp h2
    (exfalso; omega)
  replace h2 : ¬ q < 0 := fun hq0 => h2 ((nI_ltI (a := q) (b := 0) (by omega) (by omega)).mpr hq0)
  refine lv_iload_n hx hb dM_observed_5 rfl (lv_at hl 1 rfl) ?_
  refine lv_aload_n hx hb dM_observed_6 rfl (lv_at hl 0 rfl) ?_
  refine dw_get hx hb hts inMc hown hG 0 5 rfl rfl (by decide) hw499 rfl rfl dM_observed_7 ?_
  refine lv_icmp_ge (tgt := 17) hx hb dM_observed_10 (by decide) (fun h10 => ?_) (fun h10 => ?_)
  · skip
    replace h10 := (nI_leI (a := R) (b := q) (by omega) (by omega)).mp h10
    (exfalso; omega)
  replace h10 : ¬ R ≤ q := fun hq0 => h10 ((nI_leI (a := R) (b := q) (by omega) (by omega)).mpr hq0)
  refine lv_iconst (v := 0) hx hb dM_observed_13 (by decide) ?_
  refine lv_goto (tgt := 18) hx hb dM_observed_14 (by decide) ?_
  refine dw_put (ws' := [(m0, .inr (5, [.int (0), .int (nI (n)), .ref aMd, .ref aO1, .ref aT2, .int (nI (R)), .ref aSh, .ref aMk, .ref aFa, .ref aDe, .ref aNe, .ref aBy, .ref aPi, .int (pd), .ref aNw, .ref aNs, .ref aBf, .int (nI (rn)), .int (nI (rr))])), (aSh, .inl (cI, 4, .inl (fun r => nI (RV r)))), (aMk, .inl (cI, 4, .inl (Ms))), (aNw, .inl (cI, 24, .inl (Nw))), (aNs, .inl (cI, 24, .inl (Ns)))]) hx hb hts inMc tyM tyM_ok nmM hown hG 0 0 rfl rfl (by decide) hw494 rfl rfl (ty := .int) (by decide +kernel) rfl rfl (Nat.le_of_ble_eq_true rfl) dM_observed_18 rfl (fun H locs hG => ?_)
  refine lv_aload_n hx hb dM_observed_21 rfl (lv_at hl 0 rfl) ?_
  refine dw_get hx hb hts inMc hown hG 0 0 rfl rfl (by decide) hw494 rfl rfl dM_observed_22 ?_
  refine lv_if_gt (tgt := 36) hx hb dM_observed_25 (by decide) (fun h25 => ?_) (fun h25 => ?_)
  · skip
    replace h25 := (nI_ltI (a := 0) (b := 0) (by omega) (by omega)).mp h25
    (exfalso; omega)
  replace h25 : ¬ 0 < 0 := fun hq0 => h25 ((nI_ltI (a := 0) (b := 0) (by omega) (by omega)).mpr hq0)
  refine lv_iload_n hx hb dM_observed_28 rfl (lv_at hl 1 rfl) ?_
  refine lv_aload_n hx hb dM_observed_29 rfl (lv_at hl 0 rfl) ?_
  refine dw_get hx hb hts inMc hown hG 0 18 rfl rfl (by decide) hw512 rfl rfl dM_observed_30 ?_
  refine lv_icmp_lt (tgt := 38) hx hb dM_observed_33 (by decide) (fun h33 => ?_) (fun h33 => ?_)
  · skip
    replace h33 := (nI_ltI (a := q) (b := rr) (by omega) (by omega)).mp h33
    refine lv_iload_n hx hb dM_observed_38 rfl (lv_at hl 2 rfl) ?_
    refine lv_if_eq (tgt := 56) hx hb dM_observed_39 (by decide) (fun h39 => ?_) (fun h39 => ?_)
    · skip
      replace h39 := (nI_eq (a := 0) (b := 0) (by omega) (by omega)).mp h39
      refine lv_aload_n hx hb dM_observed_56 rfl (lv_at hl 0 rfl) ?_
      refine dw_get hx hb hts inMc hown hG 0 14 rfl rfl (by decide) hw508 rfl rfl dM_observed_57 ?_
      refine lv_aload_n hx hb dM_observed_60 rfl (lv_at hl 0 rfl) ?_
      refine dw_get hx hb hts inMc hown hG 0 6 rfl rfl (by decide) hw500 rfl rfl dM_observed_61 ?_
      refine lv_iload_n hx hb dM_observed_64 rfl (lv_at hl 1 rfl) ?_
      refine dw_ia (x := nI (RV q)) hx hb hG 1 0 rfl rfl (q) rfl (by omega) (by decide) rfl dM_observed_65 ?_
      refine dw_ia (x := (Nw) (RV q)) hx hb hG 3 0 rfl rfl (RV q) rfl (by omega) (by decide) rfl dM_observed_66 ?_
      refine lv_aload_n hx hb dM_observed_67 rfl (lv_at hl 0 rfl) ?_
      refine dw_get hx hb hts inMc hown hG 0 7 rfl rfl (by decide) hw501 rfl rfl dM_observed_68 ?_
      refine lv_iload_n hx hb dM_observed_71 rfl (lv_at hl 1 rfl) ?_
      refine dw_ia (x := (Ms) (q)) hx hb hG 2 0 rfl rfl (q) rfl (by omega) (by decide) rfl dM_observed_72 ?_
      refine lv_iand hx hb dM_observed_73 ?_
      subst hQ
      exact dw_iret hx hb hr hG (()) rfl (if_pos h33).symm dM_observed_74 hlocks
    replace h39 : ¬ 0 = 0 := fun hq0 => h39 ((nI_eq (a := 0) (b := 0) (by omega) (by omega)).mpr hq0)
    (exfalso; omega)
  replace h33 : ¬ q < rr := fun hq0 => h33 ((nI_ltI (a := q) (b := rr) (by omega) (by omega)).mpr hq0)
  refine lv_iconst (v := 0) hx hb dM_observed_36 (by decide) ?_
  subst hQ
  exact dw_iret hx hb hr hG (()) rfl (if_neg h33).symm dM_observed_37 hlocks

set_option maxRecDepth 100000 in
set_option maxHeartbeats 4000000 in
theorem rf_observed1_0 (l : Launch) (dC : Nat → ClassId) (dI : Nat → Nat → Nat) (cI cZ : ClassId) (m0 aMd aO1 aT2 aSh aMk aFa aDe aNe aBy aPi aNw aNs aBf n R rn rr : Nat) (ft pd : Int32) (RV : Nat → Nat) (Ms Nw Ns : Nat → Int32) (q : Nat) (sz : Nat) (hR : R ≤ 4) (hq : q < R) (hrr : rr ≤ 4) (hRV : RV q < 24) : Met l yM_observed wsM_observed { frames := 0, cells := 0, slots := 0, locals := 0 } (va_Pc [.ref m0, .int (nI (q)), .int (1)] (dw_pre (dC, dI) vwCl [(m0, .inr (5, [.int (ft), .int (nI (n)), .ref aMd, .ref aO1, .ref aT2, .int (nI (R)), .ref aSh, .ref aMk, .ref aFa, .ref aDe, .ref aNe, .ref aBy, .ref aPi, .int (pd), .ref aNw, .ref aNs, .ref aBf, .int (nI (rn)), .int (nI (rr))])), (aSh, .inl (cI, 4, .inl (fun r => nI (RV r)))), (aMk, .inl (cI, 4, .inl (Ms))), (aNw, .inl (cI, 24, .inl (Nw))), (aNs, .inl (cI, 24, .inl (Ns)))] [(cI, .int), (cZ, .boolean)] sz)) (va_Qi (fun (r : Int32) (u : Unit) => r = if q < rr then Ns (RV q) &&& Ms q else 0) (fun u t => dw_post (dC, dI) vwCl [(m0, .inr (5, [.int (0), .int (nI (n)), .ref aMd, .ref aO1, .ref aT2, .int (nI (R)), .ref aSh, .ref aMk, .ref aFa, .ref aDe, .ref aNe, .ref aBy, .ref aPi, .int (pd), .ref aNw, .ref aNs, .ref aBf, .int (nI (rn)), .int (nI (rr))])), (aSh, .inl (cI, 4, .inl (fun r => nI (RV r)))), (aMk, .inl (cI, 4, .inl (Ms))), (aNw, .inl (cI, 24, .inl (Nw))), (aNs, .inl (cI, 24, .inl (Ns)))] [(cI, .int), (cZ, .boolean)] (va_A [(m0, .inr (5, [.int (ft), .int (nI (n)), .ref aMd, .ref aO1, .ref aT2, .int (nI (R)), .ref aSh, .ref aMk, .ref aFa, .ref aDe, .ref aNe, .ref aBy, .ref aPi, .int (pd), .ref aNw, .ref aNs, .ref aBf, .int (nI (rn)), .int (nI (rr))])), (aSh, .inl (cI, 4, .inl (fun r => nI (RV r)))), (aMk, .inl (cI, 4, .inl (Ms))), (aNw, .inl (cI, 24, .inl (Nw))), (aNs, .inl (cI, 24, .inl (Ns)))] sz) t) (va_A [(m0, .inr (5, [.int (ft), .int (nI (n)), .ref aMd, .ref aO1, .ref aT2, .int (nI (R)), .ref aSh, .ref aMk, .ref aFa, .ref aDe, .ref aNe, .ref aBy, .ref aPi, .int (pd), .ref aNw, .ref aNs, .ref aBf, .int (nI (rn)), .int (nI (rr))])), (aSh, .inl (cI, 4, .inl (fun r => nI (RV r)))), (aMk, .inl (cI, 4, .inl (Ms))), (aNw, .inl (cI, 24, .inl (Nw))), (aNs, .inl (cI, 24, .inl (Ns)))] sz)) 0 0 (va_A [(m0, .inr (5, [.int (ft), .int (nI (n)), .ref aMd, .ref aO1, .ref aT2, .int (nI (R)), .ref aSh, .ref aMk, .ref aFa, .ref aDe, .ref aNe, .ref aBy, .ref aPi, .int (pd), .ref aNw, .ref aNs, .ref aBf, .int (nI (rn)), .int (nI (rr))])), (aSh, .inl (cI, 4, .inl (fun r => nI (RV r)))), (aMk, .inl (cI, 4, .inl (Ms))), (aNw, .inl (cI, 24, .inl (Nw))), (aNs, .inl (cI, 24, .inl (Ns)))] sz) := by
  refine Met.ofW (cc := cM_observed) (maxL := 3) (ret := (some .int)) (by decide) rfl ?_
  intro p e s m args below meth c s₁ B hml hv0
  have hx := B.exec
  have hb := B.bytes
  have hr := B.returns
  have hts := atoms_spec (ws := wsM_observed) B.pre
  have hown : s.vm.findClass RM = some m.cls := findClass_of_methodNamed B.named
  have hlocks := B.notSynchronized
  obtain ⟨rfl, hsz, hG⟩ := dw_enter hv0
  generalize va_A [(m0, .inr (5, [.int (ft), .int (nI (n)), .ref aMd, .ref aO1, .ref aT2, .int (nI (R)), .ref aSh, .ref aMk, .ref aFa, .ref aDe, .ref aNe, .ref aBy, .ref aPi, .int (pd), .ref aNw, .ref aNs, .ref aBf, .int (nI (rn)), .int (nI (rr))])), (aSh, .inl (cI, 4, .inl (fun r => nI (RV r)))), (aMk, .inl (cI, 4, .inl (Ms))), (aNw, .inl (cI, 24, .inl (Nw))), (aNs, .inl (cI, 24, .inl (Ns)))] sz = A at hG ⊢
  have hl := lv_entry ([.ref m0, .int (nI (q)), .int (1)]) (n := 3) (Nat.le_of_ble_eq_true rfl)
  rw [lg_entry_eq]
  generalize (lg_sl ([.ref m0, .int (nI (q)), .int (1)]) ++ List.replicate (3 - (lg_sl ([.ref m0, .int (nI (q)), .int (1)])).length) Slot.unset).toArray = ls at hl ⊢
  have hl : lv_has ls 3 [(0, .ref m0), (1, .int (nI (q))), (2, .int (1))] := hl
  have hw499 := hts _ (List.mem_cons_of_mem _ tw_499)
  have hw494 := hts _ (List.mem_cons_of_mem _ tw_494)
  have hw512 := hts _ (List.mem_cons_of_mem _ tw_512)
  have hw509 := hts _ (List.mem_cons_of_mem _ tw_509)
  have hw500 := hts _ (List.mem_cons_of_mem _ tw_500)
  have hw501 := hts _ (List.mem_cons_of_mem _ tw_501)
  refine dw_Q (fun Q hQ => ?_)
  suffices hgo : ∀ (H : Heap) (locs : List Loc), dw_G (dC, dI) vwCl [(cI, .int), (cZ, .boolean)] A s.heap s [(m0, .inr (5, [.int (ft), .int (nI (n)), .ref aMd, .ref aO1, .ref aT2, .int (nI (R)), .ref aSh, .ref aMk, .ref aFa, .ref aDe, .ref aNe, .ref aBy, .ref aPi, .int (pd), .ref aNw, .ref aNs, .ref aBf, .int (nI (rn)), .int (nI (rr))])), (aSh, .inl (cI, 4, .inl (fun r => nI (RV r)))), (aMk, .inl (cI, 4, .inl (Ms))), (aNw, .inl (cI, 24, .inl (Nw))), (aNs, .inl (cI, 24, .inl (Ns)))] H locs → W p l e (headSpec wsM_observed { frames := 0, cells := 0, slots := 0, locals := 0 }).room s m [.ref m0, .int (nI (q)), .int (1)].toArray below meth c H locs 0 0 Q (F0 m 0 ls []) from hgo _ _ hG
  clear hG
  intro H locs hG
  refine lv_aload_n hx hb dM_observed_0 rfl (lv_at hl 0 rfl) ?_
  refine lv_iload_n hx hb dM_observed_1 rfl (lv_at hl 1 rfl) ?_
  refine lv_if_lt (tgt := 17) hx hb dM_observed_2 (by decide) (fun h2 => ?_) (fun h2 => ?_)
  · skip
    replace h2 := (nI_ltI (a := q) (b := 0) (by omega) (by omega)).mp h2
    (exfalso; omega)
  replace h2 : ¬ q < 0 := fun hq0 => h2 ((nI_ltI (a := q) (b := 0) (by omega) (by omega)).mpr hq0)
  refine lv_iload_n hx hb dM_observed_5 rfl (lv_at hl 1 rfl) ?_
  refine lv_aload_n hx hb dM_observed_6 rfl (lv_at hl 0 rfl) ?_
  refine dw_get hx hb hts inMc hown hG 0 5 rfl rfl (by decide) hw499 rfl rfl dM_observed_7 ?_
  refine lv_icmp_ge (tgt := 17) hx hb dM_observed_10 (by decide) (fun h10 => ?_) (fun h10 => ?_)
  · skip
    replace h10 := (nI_leI (a := R) (b := q) (by omega) (by omega)).mp h10
    (exfalso; omega)
  replace h10 : ¬ R ≤ q := fun hq0 => h10 ((nI_leI (a := R) (b := q) (by omega) (by omega)).mpr hq0)
  refine lv_iconst (v := 0) hx hb dM_observed_13 (by decide) ?_
  refine lv_goto (tgt := 18) hx hb dM_observed_14 (by decide) ?_
  refine dw_put (ws' := [(m0, .inr (5, [.int (0), .int (nI (n)), .ref aMd, .ref aO1, .ref aT2, .int (nI (R)), .ref aSh, .ref aMk, .ref aFa, .ref aDe, .ref aNe, .ref aBy, .ref aPi, .int (pd), .ref aNw, .ref aNs, .ref aBf, .int (nI (rn)), .int (nI (rr))])), (aSh, .inl (cI, 4, .inl (fun r => nI (RV r)))), (aMk, .inl (cI, 4, .inl (Ms))), (aNw, .inl (cI, 24, .inl (Nw))), (aNs, .inl (cI, 24, .inl (Ns)))]) hx hb hts inMc tyM tyM_ok nmM hown hG 0 0 rfl rfl (by decide) hw494 rfl rfl (ty := .int) (by decide +kernel) rfl rfl (Nat.le_of_ble_eq_true rfl) dM_observed_18 rfl (fun H locs hG => ?_)
  refine lv_aload_n hx hb dM_observed_21 rfl (lv_at hl 0 rfl) ?_
  refine dw_get hx hb hts inMc hown hG 0 0 rfl rfl (by decide) hw494 rfl rfl dM_observed_22 ?_
  refine lv_if_gt (tgt := 36) hx hb dM_observed_25 (by decide) (fun h25 => ?_) (fun h25 => ?_)
  · skip
    replace h25 := (nI_ltI (a := 0) (b := 0) (by omega) (by omega)).mp h25
    (exfalso; omega)
  replace h25 : ¬ 0 < 0 := fun hq0 => h25 ((nI_ltI (a := 0) (b := 0) (by omega) (by omega)).mpr hq0)
  refine lv_iload_n hx hb dM_observed_28 rfl (lv_at hl 1 rfl) ?_
  refine lv_aload_n hx hb dM_observed_29 rfl (lv_at hl 0 rfl) ?_
  refine dw_get hx hb hts inMc hown hG 0 18 rfl rfl (by decide) hw512 rfl rfl dM_observed_30 ?_
  refine lv_icmp_lt (tgt := 38) hx hb dM_observed_33 (by decide) (fun h33 => ?_) (fun h33 => ?_)
  · skip
    replace h33 := (nI_ltI (a := q) (b := rr) (by omega) (by omega)).mp h33
    refine lv_iload_n hx hb dM_observed_38 rfl (lv_at hl 2 rfl) ?_
    refine lv_if_eq (tgt := 56) hx hb dM_observed_39 (by decide) (fun h39 => ?_) (fun h39 => ?_)
    · skip
      replace h39 := (nI_eq (a := 1) (b := 0) (by omega) (by omega)).mp h39
      (exfalso; omega)
    replace h39 : ¬ 1 = 0 := fun hq0 => h39 ((nI_eq (a := 1) (b := 0) (by omega) (by omega)).mpr hq0)
    refine lv_aload_n hx hb dM_observed_42 rfl (lv_at hl 0 rfl) ?_
    refine dw_get hx hb hts inMc hown hG 0 15 rfl rfl (by decide) hw509 rfl rfl dM_observed_43 ?_
    refine lv_aload_n hx hb dM_observed_46 rfl (lv_at hl 0 rfl) ?_
    refine dw_get hx hb hts inMc hown hG 0 6 rfl rfl (by decide) hw500 rfl rfl dM_observed_47 ?_
    refine lv_iload_n hx hb dM_observed_50 rfl (lv_at hl 1 rfl) ?_
    refine dw_ia (x := nI (RV q)) hx hb hG 1 0 rfl rfl (q) rfl (by omega) (by decide) rfl dM_observed_51 ?_
    refine dw_ia (x := (Ns) (RV q)) hx hb hG 4 0 rfl rfl (RV q) rfl (by omega) (by decide) rfl dM_observed_52 ?_
    refine lv_goto (tgt := 67) hx hb dM_observed_53 (by decide) ?_
    refine lv_aload_n hx hb dM_observed_67 rfl (lv_at hl 0 rfl) ?_
    refine dw_get hx hb hts inMc hown hG 0 7 rfl rfl (by decide) hw501 rfl rfl dM_observed_68 ?_
    refine lv_iload_n hx hb dM_observed_71 rfl (lv_at hl 1 rfl) ?_
    refine dw_ia (x := (Ms) (q)) hx hb hG 2 0 rfl rfl (q) rfl (by omega) (by decide) rfl dM_observed_72 ?_
    refine lv_iand hx hb dM_observed_73 ?_
    subst hQ
    exact dw_iret hx hb hr hG (()) rfl (if_pos h33).symm dM_observed_74 hlocks
  replace h33 : ¬ q < rr := fun hq0 => h33 ((nI_ltI (a := q) (b := rr) (by omega) (by omega)).mpr hq0)
  refine lv_iconst (v := 0) hx hb dM_observed_36 (by decide) ?_
  subst hQ
  exact dw_iret hx hb hr hG (()) rfl (if_neg h33).symm dM_observed_37 hlocks

set_option maxRecDepth 100000 in
set_option maxHeartbeats 4000000 in
theorem rf_observed_1 (l : Launch) (dC : Nat → ClassId) (dI : Nat → Nat → Nat) (cI cZ : ClassId) (m0 aMd aO1 aT2 aSh aMk aFa aDe aNe aBy aPi aNw aNs aBf n R rn rr : Nat) (ft pd : Int32) (RV : Nat → Nat) (Ms Nw Ns : Nat → Int32) (q sh : Int32) (sz : Nat) (hbad : q < 0 ∨ nI R ≤ q) : Met l yM_observed wsM_observed { frames := 0, cells := 0, slots := 0, locals := 0 } (va_Pc [.ref m0, .int (q), .int (sh)] (dw_pre (dC, dI) vwCl [(m0, .inr (5, [.int (ft), .int (nI (n)), .ref aMd, .ref aO1, .ref aT2, .int (nI (R)), .ref aSh, .ref aMk, .ref aFa, .ref aDe, .ref aNe, .ref aBy, .ref aPi, .int (pd), .ref aNw, .ref aNs, .ref aBf, .int (nI (rn)), .int (nI (rr))])), (aSh, .inl (cI, 4, .inl (fun r => nI (RV r)))), (aMk, .inl (cI, 4, .inl (Ms))), (aNw, .inl (cI, 24, .inl (Nw))), (aNs, .inl (cI, 24, .inl (Ns)))] [(cI, .int), (cZ, .boolean)] sz)) (va_Qi (fun (r : Int32) (u : Unit) => r = 0) (fun u t => dw_post (dC, dI) vwCl [(m0, .inr (5, [.int (1), .int (nI (n)), .ref aMd, .ref aO1, .ref aT2, .int (nI (R)), .ref aSh, .ref aMk, .ref aFa, .ref aDe, .ref aNe, .ref aBy, .ref aPi, .int (pd), .ref aNw, .ref aNs, .ref aBf, .int (nI (rn)), .int (nI (rr))])), (aSh, .inl (cI, 4, .inl (fun r => nI (RV r)))), (aMk, .inl (cI, 4, .inl (Ms))), (aNw, .inl (cI, 24, .inl (Nw))), (aNs, .inl (cI, 24, .inl (Ns)))] [(cI, .int), (cZ, .boolean)] (va_A [(m0, .inr (5, [.int (ft), .int (nI (n)), .ref aMd, .ref aO1, .ref aT2, .int (nI (R)), .ref aSh, .ref aMk, .ref aFa, .ref aDe, .ref aNe, .ref aBy, .ref aPi, .int (pd), .ref aNw, .ref aNs, .ref aBf, .int (nI (rn)), .int (nI (rr))])), (aSh, .inl (cI, 4, .inl (fun r => nI (RV r)))), (aMk, .inl (cI, 4, .inl (Ms))), (aNw, .inl (cI, 24, .inl (Nw))), (aNs, .inl (cI, 24, .inl (Ns)))] sz) t) (va_A [(m0, .inr (5, [.int (ft), .int (nI (n)), .ref aMd, .ref aO1, .ref aT2, .int (nI (R)), .ref aSh, .ref aMk, .ref aFa, .ref aDe, .ref aNe, .ref aBy, .ref aPi, .int (pd), .ref aNw, .ref aNs, .ref aBf, .int (nI (rn)), .int (nI (rr))])), (aSh, .inl (cI, 4, .inl (fun r => nI (RV r)))), (aMk, .inl (cI, 4, .inl (Ms))), (aNw, .inl (cI, 24, .inl (Nw))), (aNs, .inl (cI, 24, .inl (Ns)))] sz)) 0 0 (va_A [(m0, .inr (5, [.int (ft), .int (nI (n)), .ref aMd, .ref aO1, .ref aT2, .int (nI (R)), .ref aSh, .ref aMk, .ref aFa, .ref aDe, .ref aNe, .ref aBy, .ref aPi, .int (pd), .ref aNw, .ref aNs, .ref aBf, .int (nI (rn)), .int (nI (rr))])), (aSh, .inl (cI, 4, .inl (fun r => nI (RV r)))), (aMk, .inl (cI, 4, .inl (Ms))), (aNw, .inl (cI, 24, .inl (Nw))), (aNs, .inl (cI, 24, .inl (Ns)))] sz) := by
  refine Met.ofW (cc := cM_observed) (maxL := 3) (ret := (some .int)) (by decide) rfl ?_
  intro p e s m args below meth c s₁ B hml hv0
  have hx := B.exec
  have hb := B.bytes
  have hr := B.returns
  have hts := atoms_spec (ws := wsM_observed) B.pre
  have hown : s.vm.findClass RM = some m.cls := findClass_of_methodNamed B.named
  have hlocks := B.notSynchronized
  obtain ⟨rfl, hsz, hG⟩ := dw_enter hv0
  generalize va_A [(m0, .inr (5, [.int (ft), .int (nI (n)), .ref aMd, .ref aO1, .ref aT2, .int (nI (R)), .ref aSh, .ref aMk, .ref aFa, .ref aDe, .ref aNe, .ref aBy, .ref aPi, .int (pd), .ref aNw, .ref aNs, .ref aBf, .int (nI (rn)), .int (nI (rr))])), (aSh, .inl (cI, 4, .inl (fun r => nI (RV r)))), (aMk, .inl (cI, 4, .inl (Ms))), (aNw, .inl (cI, 24, .inl (Nw))), (aNs, .inl (cI, 24, .inl (Ns)))] sz = A at hG ⊢
  have hl := lv_entry ([.ref m0, .int (q), .int (sh)]) (n := 3) (Nat.le_of_ble_eq_true rfl)
  rw [lg_entry_eq]
  generalize (lg_sl ([.ref m0, .int (q), .int (sh)]) ++ List.replicate (3 - (lg_sl ([.ref m0, .int (q), .int (sh)])).length) Slot.unset).toArray = ls at hl ⊢
  have hl : lv_has ls 3 [(0, .ref m0), (1, .int (q)), (2, .int (sh))] := hl
  have hw494 := hts _ (List.mem_cons_of_mem _ tw_494)
  have hw499 := hts _ (List.mem_cons_of_mem _ tw_499)
  refine dw_Q (fun Q hQ => ?_)
  suffices hgo : ∀ (H : Heap) (locs : List Loc), dw_G (dC, dI) vwCl [(cI, .int), (cZ, .boolean)] A s.heap s [(m0, .inr (5, [.int (ft), .int (nI (n)), .ref aMd, .ref aO1, .ref aT2, .int (nI (R)), .ref aSh, .ref aMk, .ref aFa, .ref aDe, .ref aNe, .ref aBy, .ref aPi, .int (pd), .ref aNw, .ref aNs, .ref aBf, .int (nI (rn)), .int (nI (rr))])), (aSh, .inl (cI, 4, .inl (fun r => nI (RV r)))), (aMk, .inl (cI, 4, .inl (Ms))), (aNw, .inl (cI, 24, .inl (Nw))), (aNs, .inl (cI, 24, .inl (Ns)))] H locs → W p l e (headSpec wsM_observed { frames := 0, cells := 0, slots := 0, locals := 0 }).room s m [.ref m0, .int (q), .int (sh)].toArray below meth c H locs 0 0 Q (F0 m 0 ls []) from hgo _ _ hG
  clear hG
  intro H locs hG
  refine lv_aload_n hx hb dM_observed_0 rfl (lv_at hl 0 rfl) ?_
  refine lv_iload_n hx hb dM_observed_1 rfl (lv_at hl 1 rfl) ?_
  refine lv_if_lt (tgt := 17) hx hb dM_observed_2 (by decide) (fun h2 => ?_) (fun h2 => ?_)
  · skip
    refine lv_iconst (v := 1) hx hb dM_observed_17 (by decide) ?_
    refine dw_put (ws' := [(m0, .inr (5, [.int (1), .int (nI (n)), .ref aMd, .ref aO1, .ref aT2, .int (nI (R)), .ref aSh, .ref aMk, .ref aFa, .ref aDe, .ref aNe, .ref aBy, .ref aPi, .int (pd), .ref aNw, .ref aNs, .ref aBf, .int (nI (rn)), .int (nI (rr))])), (aSh, .inl (cI, 4, .inl (fun r => nI (RV r)))), (aMk, .inl (cI, 4, .inl (Ms))), (aNw, .inl (cI, 24, .inl (Nw))), (aNs, .inl (cI, 24, .inl (Ns)))]) hx hb hts inMc tyM tyM_ok nmM hown hG 0 0 rfl rfl (by decide) hw494 rfl rfl (ty := .int) (by decide +kernel) rfl rfl (Nat.le_of_ble_eq_true rfl) dM_observed_18 rfl (fun H locs hG => ?_)
    refine lv_aload_n hx hb dM_observed_21 rfl (lv_at hl 0 rfl) ?_
    refine dw_get hx hb hts inMc hown hG 0 0 rfl rfl (by decide) hw494 rfl rfl dM_observed_22 ?_
    refine lv_if_gt (tgt := 36) hx hb dM_observed_25 (by decide) (fun h25 => ?_) (fun h25 => ?_)
    · skip
      replace h25 := (nI_ltI (a := 0) (b := 1) (by omega) (by omega)).mp h25
      refine lv_iconst (v := 0) hx hb dM_observed_36 (by decide) ?_
      subst hQ
      exact dw_iret hx hb hr hG (()) rfl rfl dM_observed_37 hlocks
    replace h25 : ¬ 0 < 1 := fun hq0 => h25 ((nI_ltI (a := 0) (b := 1) (by omega) (by omega)).mpr hq0)
    (exfalso; omega)
  refine lv_iload_n hx hb dM_observed_5 rfl (lv_at hl 1 rfl) ?_
  refine lv_aload_n hx hb dM_observed_6 rfl (lv_at hl 0 rfl) ?_
  refine dw_get hx hb hts inMc hown hG 0 5 rfl rfl (by decide) hw499 rfl rfl dM_observed_7 ?_
  refine lv_icmp_ge (tgt := 17) hx hb dM_observed_10 (by decide) (fun h10 => ?_) (fun h10 => ?_)
  · skip
    refine lv_iconst (v := 1) hx hb dM_observed_17 (by decide) ?_
    refine dw_put (ws' := [(m0, .inr (5, [.int (1), .int (nI (n)), .ref aMd, .ref aO1, .ref aT2, .int (nI (R)), .ref aSh, .ref aMk, .ref aFa, .ref aDe, .ref aNe, .ref aBy, .ref aPi, .int (pd), .ref aNw, .ref aNs, .ref aBf, .int (nI (rn)), .int (nI (rr))])), (aSh, .inl (cI, 4, .inl (fun r => nI (RV r)))), (aMk, .inl (cI, 4, .inl (Ms))), (aNw, .inl (cI, 24, .inl (Nw))), (aNs, .inl (cI, 24, .inl (Ns)))]) hx hb hts inMc tyM tyM_ok nmM hown hG 0 0 rfl rfl (by decide) hw494 rfl rfl (ty := .int) (by decide +kernel) rfl rfl (Nat.le_of_ble_eq_true rfl) dM_observed_18 rfl (fun H locs hG => ?_)
    refine lv_aload_n hx hb dM_observed_21 rfl (lv_at hl 0 rfl) ?_
    refine dw_get hx hb hts inMc hown hG 0 0 rfl rfl (by decide) hw494 rfl rfl dM_observed_22 ?_
    refine lv_if_gt (tgt := 36) hx hb dM_observed_25 (by decide) (fun h25 => ?_) (fun h25 => ?_)
    · skip
      replace h25 := (nI_ltI (a := 0) (b := 1) (by omega) (by omega)).mp h25
      refine lv_iconst (v := 0) hx hb dM_observed_36 (by decide) ?_
      subst hQ
      exact dw_iret hx hb hr hG (()) rfl rfl dM_observed_37 hlocks
    replace h25 : ¬ 0 < 1 := fun hq0 => h25 ((nI_ltI (a := 0) (b := 1) (by omega) (by omega)).mpr hq0)
    (exfalso; omega)
  exact absurd hbad (fun z => z.elim h2 h10)

set_option maxRecDepth 100000 in
set_option maxHeartbeats 4000000 in
theorem rf_value0_0 (l : Launch) (dC : Nat → ClassId) (dI : Nat → Nat → Nat) (cI cZ : ClassId) (m0 aMd aO1 aT2 aSh aMk aFa aDe aNe aBy aPi aNw aNs aBf n rn : Nat) (ft rs rr pd : Int32) (Nw Ns : Nat → Int32) (v : Nat) (sz : Nat) (hn : n ≤ 24) (hv : v < n) (hrn : rn ≤ 24) : Met l yM_value wsM_value { frames := 1, cells := 0, slots := 0, locals := 30 } (va_Pc [.ref m0, .int (nI (v)), .int (0)] (dw_pre (dC, dI) vwCl [(m0, .inr (5, [.int (ft), .int (nI (n)), .ref aMd, .ref aO1, .ref aT2, .int (rs), .ref aSh, .ref aMk, .ref aFa, .ref aDe, .ref aNe, .ref aBy, .ref aPi, .int (pd), .ref aNw, .ref aNs, .ref aBf, .int (nI (rn)), .int (rr)])), (aNw, .inl (cI, 24, .inl (Nw))), (aNs, .inl (cI, 24, .inl (Ns)))] [(cI, .int), (cZ, .boolean)] sz)) (va_Qi (fun (r : Int32) (u : Unit) => r = if v < rn then Nw v else 0) (fun u t => dw_post (dC, dI) vwCl [(m0, .inr (5, [.int (0), .int (nI (n)), .ref aMd, .ref aO1, .ref aT2, .int (rs), .ref aSh, .ref aMk, .ref aFa, .ref aDe, .ref aNe, .ref aBy, .ref aPi, .int (pd), .ref aNw, .ref aNs, .ref aBf, .int (nI (rn)), .int (rr)])), (aNw, .inl (cI, 24, .inl (Nw))), (aNs, .inl (cI, 24, .inl (Ns)))] [(cI, .int), (cZ, .boolean)] (va_A [(m0, .inr (5, [.int (ft), .int (nI (n)), .ref aMd, .ref aO1, .ref aT2, .int (rs), .ref aSh, .ref aMk, .ref aFa, .ref aDe, .ref aNe, .ref aBy, .ref aPi, .int (pd), .ref aNw, .ref aNs, .ref aBf, .int (nI (rn)), .int (rr)])), (aNw, .inl (cI, 24, .inl (Nw))), (aNs, .inl (cI, 24, .inl (Ns)))] sz) t) (va_A [(m0, .inr (5, [.int (ft), .int (nI (n)), .ref aMd, .ref aO1, .ref aT2, .int (rs), .ref aSh, .ref aMk, .ref aFa, .ref aDe, .ref aNe, .ref aBy, .ref aPi, .int (pd), .ref aNw, .ref aNs, .ref aBf, .int (nI (rn)), .int (rr)])), (aNw, .inl (cI, 24, .inl (Nw))), (aNs, .inl (cI, 24, .inl (Ns)))] sz)) 0 0 (va_A [(m0, .inr (5, [.int (ft), .int (nI (n)), .ref aMd, .ref aO1, .ref aT2, .int (rs), .ref aSh, .ref aMk, .ref aFa, .ref aDe, .ref aNe, .ref aBy, .ref aPi, .int (pd), .ref aNw, .ref aNs, .ref aBf, .int (nI (rn)), .int (rr)])), (aNw, .inl (cI, 24, .inl (Nw))), (aNs, .inl (cI, 24, .inl (Ns)))] sz) := by
  refine Met.ofW (cc := cM_value) (maxL := 3) (ret := (some .int)) (by decide) rfl ?_
  intro p e s m args below meth c s₁ B hml hv0
  have hx := B.exec
  have hb := B.bytes
  have hr := B.returns
  have hts := atoms_spec (ws := wsM_value) B.pre
  have hown : s.vm.findClass RM = some m.cls := findClass_of_methodNamed B.named
  have hlocks := B.notSynchronized
  obtain ⟨rfl, hsz, hG⟩ := dw_enter hv0
  generalize va_A [(m0, .inr (5, [.int (ft), .int (nI (n)), .ref aMd, .ref aO1, .ref aT2, .int (rs), .ref aSh, .ref aMk, .ref aFa, .ref aDe, .ref aNe, .ref aBy, .ref aPi, .int (pd), .ref aNw, .ref aNs, .ref aBf, .int (nI (rn)), .int (rr)])), (aNw, .inl (cI, 24, .inl (Nw))), (aNs, .inl (cI, 24, .inl (Ns)))] sz = A at hG ⊢
  have hl := lv_entry ([.ref m0, .int (nI (v)), .int (0)]) (n := 3) (Nat.le_of_ble_eq_true rfl)
  rw [lg_entry_eq]
  generalize (lg_sl ([.ref m0, .int (nI (v)), .int (0)]) ++ List.replicate (3 - (lg_sl ([.ref m0, .int (nI (v)), .int (0)])).length) Slot.unset).toArray = ls at hl ⊢
  have hl : lv_has ls 3 [(0, .ref m0), (1, .int (nI (v))), (2, .int (0))] := hl
  have hw494 := hts _ (List.mem_cons_of_mem _ tw_494)
  have hw511 := hts _ (List.mem_cons_of_mem _ tw_511)
  have hw508 := hts _ (List.mem_cons_of_mem _ tw_508)
  refine dw_Q (fun Q hQ => ?_)
  suffices hgo : ∀ (H : Heap) (locs : List Loc), dw_G (dC, dI) vwCl [(cI, .int), (cZ, .boolean)] A s.heap s [(m0, .inr (5, [.int (ft), .int (nI (n)), .ref aMd, .ref aO1, .ref aT2, .int (rs), .ref aSh, .ref aMk, .ref aFa, .ref aDe, .ref aNe, .ref aBy, .ref aPi, .int (pd), .ref aNw, .ref aNs, .ref aBf, .int (nI (rn)), .int (rr)])), (aNw, .inl (cI, 24, .inl (Nw))), (aNs, .inl (cI, 24, .inl (Ns)))] H locs → W p l e (headSpec wsM_value { frames := 1, cells := 0, slots := 0, locals := 30 }).room s m [.ref m0, .int (nI (v)), .int (0)].toArray below meth c H locs 0 0 Q (F0 m 0 ls []) from hgo _ _ hG
  clear hG
  intro H locs hG
  refine lv_aload_n hx hb dM_value_0 rfl (lv_at hl 0 rfl) ?_
  refine lv_aload_n hx hb dM_value_1 rfl (lv_at hl 0 rfl) ?_
  refine lv_iload_n hx hb dM_value_2 rfl (lv_at hl 1 rfl) ?_
  refine dw_calli (wc := [(m0, .inr (5, [.int (ft), .int (nI (n)), .ref aMd, .ref aO1, .ref aT2, .int (rs), .ref aSh, .ref aMk, .ref aFa, .ref aDe, .ref aNe, .ref aBy, .ref aPi, .int (pd), .ref aNw, .ref aNs, .ref aBf, .int (nI (rn)), .int (rr)]))]) (wr := [(aNw, .inl (cI, 24, .inl (Nw))), (aNs, .inl (cI, 24, .inl (Ns)))]) hG [0] [1, 2] rfl rfl (by decide) (by decide) (va_runV (As := [.int (nI (v))]) (rest := [.ref m0]) ⟨hx, hb, hml, hown, hts⟩ (rf_isValue l dC dI cI cZ m0 aMd aO1 aT2 aSh aMk aFa aDe aNe aBy aPi aNw aNs aBf ft (nI n) rs pd (nI rn) rr (nI (v)) H.size ) (dc_V 1 hts tw_573 tw_575 tp_M_isValue tw_7 tw_576 rfl rfl (by decide +kernel) ⟨Nat.le_of_ble_eq_true rfl, Nat.le_of_ble_eq_true rfl⟩) (dw_preV (ci := 5) hG [0] [0, 1] rfl rfl (by decide) rfl rfl (q0 := 0) rfl) rfl rfl hl.1 rfl (lv_room (Nat.le_of_ble_eq_true rfl)) dM_value_3 ⟨Nat.le_refl _, Nat.le_refl _⟩) (fun r u H locs hp hG => ?_)
  subst hp
  have hG : dw_G (dC, dI) vwCl [(cI, .int), (cZ, .boolean)] A s.heap s [(aNw, .inl (cI, 24, .inl (Nw))), (aNs, .inl (cI, 24, .inl (Ns))), (m0, .inr (5, [.int (ft), .int (nI (n)), .ref aMd, .ref aO1, .ref aT2, .int (rs), .ref aSh, .ref aMk, .ref aFa, .ref aDe, .ref aNe, .ref aBy, .ref aPi, .int (pd), .ref aNw, .ref aNs, .ref aBf, .int (nI (rn)), .int (rr)]))] H locs := hG
  refine lv_topi (nm_r (show (db_isv (nI (v)) (nI n) : Int32) = 1 from (db_isv_y (by omega) (by omega))) ?_)
  refine lv_if_eq (tgt := 13) hx hb dM_value_6 (by decide) (fun h6 => ?_) (fun h6 => ?_)
  · skip
    replace h6 := (nI_eq (a := 1) (b := 0) (by omega) (by omega)).mp h6
    (exfalso; omega)
  replace h6 : ¬ 1 = 0 := fun hq0 => h6 ((nI_eq (a := 1) (b := 0) (by omega) (by omega)).mpr hq0)
  refine lv_iconst (v := 0) hx hb dM_value_9 (by decide) ?_
  refine lv_goto (tgt := 14) hx hb dM_value_10 (by decide) ?_
  refine dw_put (ws' := [(aNw, .inl (cI, 24, .inl (Nw))), (aNs, .inl (cI, 24, .inl (Ns))), (m0, .inr (5, [.int (0), .int (nI (n)), .ref aMd, .ref aO1, .ref aT2, .int (rs), .ref aSh, .ref aMk, .ref aFa, .ref aDe, .ref aNe, .ref aBy, .ref aPi, .int (pd), .ref aNw, .ref aNs, .ref aBf, .int (nI (rn)), .int (rr)]))]) hx hb hts inMc tyM tyM_ok nmM hown hG 2 0 rfl rfl (by decide) hw494 rfl rfl (ty := .int) (by decide +kernel) rfl rfl (Nat.le_of_ble_eq_true rfl) dM_value_14 rfl (fun H locs hG => ?_)
  refine lv_aload_n hx hb dM_value_17 rfl (lv_at hl 0 rfl) ?_
  refine dw_get hx hb hts inMc hown hG 2 0 rfl rfl (by decide) hw494 rfl rfl dM_value_18 ?_
  refine lv_if_gt (tgt := 32) hx hb dM_value_21 (by decide) (fun h21 => ?_) (fun h21 => ?_)
  · skip
    replace h21 := (nI_ltI (a := 0) (b := 0) (by omega) (by omega)).mp h21
    (exfalso; omega)
  replace h21 : ¬ 0 < 0 := fun hq0 => h21 ((nI_ltI (a := 0) (b := 0) (by omega) (by omega)).mpr hq0)
  refine lv_iload_n hx hb dM_value_24 rfl (lv_at hl 1 rfl) ?_
  refine lv_aload_n hx hb dM_value_25 rfl (lv_at hl 0 rfl) ?_
  refine dw_get hx hb hts inMc hown hG 2 17 rfl rfl (by decide) hw511 rfl rfl dM_value_26 ?_
  refine lv_icmp_lt (tgt := 34) hx hb dM_value_29 (by decide) (fun h29 => ?_) (fun h29 => ?_)
  · skip
    replace h29 := (nI_ltI (a := v) (b := rn) (by omega) (by omega)).mp h29
    refine lv_iload_n hx hb dM_value_34 rfl (lv_at hl 2 rfl) ?_
    refine lv_if_eq (tgt := 47) hx hb dM_value_35 (by decide) (fun h35 => ?_) (fun h35 => ?_)
    · skip
      replace h35 := (nI_eq (a := 0) (b := 0) (by omega) (by omega)).mp h35
      refine lv_aload_n hx hb dM_value_47 rfl (lv_at hl 0 rfl) ?_
      refine dw_get hx hb hts inMc hown hG 2 14 rfl rfl (by decide) hw508 rfl rfl dM_value_48 ?_
      refine lv_iload_n hx hb dM_value_51 rfl (lv_at hl 1 rfl) ?_
      refine dw_ia (x := (Nw) (v)) hx hb hG 0 0 rfl rfl (v) rfl (by omega) (by decide) rfl dM_value_52 ?_
      subst hQ
      exact dw_iret hx hb hr (dw_perm hG [2, 0, 1] (by decide) rfl rfl) (()) rfl (if_pos h29).symm dM_value_53 hlocks
    replace h35 : ¬ 0 = 0 := fun hq0 => h35 ((nI_eq (a := 0) (b := 0) (by omega) (by omega)).mpr hq0)
    (exfalso; omega)
  replace h29 : ¬ v < rn := fun hq0 => h29 ((nI_ltI (a := v) (b := rn) (by omega) (by omega)).mpr hq0)
  refine lv_iconst (v := 0) hx hb dM_value_32 (by decide) ?_
  subst hQ
  exact dw_iret hx hb hr (dw_perm hG [2, 0, 1] (by decide) rfl rfl) (()) rfl (if_neg h29).symm dM_value_33 hlocks

set_option maxRecDepth 100000 in
set_option maxHeartbeats 4000000 in
theorem rf_value1_0 (l : Launch) (dC : Nat → ClassId) (dI : Nat → Nat → Nat) (cI cZ : ClassId) (m0 aMd aO1 aT2 aSh aMk aFa aDe aNe aBy aPi aNw aNs aBf n rn : Nat) (ft rs rr pd : Int32) (Nw Ns : Nat → Int32) (v : Nat) (sz : Nat) (hn : n ≤ 24) (hv : v < n) (hrn : rn ≤ 24) : Met l yM_value wsM_value { frames := 1, cells := 0, slots := 0, locals := 30 } (va_Pc [.ref m0, .int (nI (v)), .int (1)] (dw_pre (dC, dI) vwCl [(m0, .inr (5, [.int (ft), .int (nI (n)), .ref aMd, .ref aO1, .ref aT2, .int (rs), .ref aSh, .ref aMk, .ref aFa, .ref aDe, .ref aNe, .ref aBy, .ref aPi, .int (pd), .ref aNw, .ref aNs, .ref aBf, .int (nI (rn)), .int (rr)])), (aNw, .inl (cI, 24, .inl (Nw))), (aNs, .inl (cI, 24, .inl (Ns)))] [(cI, .int), (cZ, .boolean)] sz)) (va_Qi (fun (r : Int32) (u : Unit) => r = if v < rn then Ns v else 0) (fun u t => dw_post (dC, dI) vwCl [(m0, .inr (5, [.int (0), .int (nI (n)), .ref aMd, .ref aO1, .ref aT2, .int (rs), .ref aSh, .ref aMk, .ref aFa, .ref aDe, .ref aNe, .ref aBy, .ref aPi, .int (pd), .ref aNw, .ref aNs, .ref aBf, .int (nI (rn)), .int (rr)])), (aNw, .inl (cI, 24, .inl (Nw))), (aNs, .inl (cI, 24, .inl (Ns)))] [(cI, .int), (cZ, .boolean)] (va_A [(m0, .inr (5, [.int (ft), .int (nI (n)), .ref aMd, .ref aO1, .ref aT2, .int (rs), .ref aSh, .ref aMk, .ref aFa, .ref aDe, .ref aNe, .ref aBy, .ref aPi, .int (pd), .ref aNw, .ref aNs, .ref aBf, .int (nI (rn)), .int (rr)])), (aNw, .inl (cI, 24, .inl (Nw))), (aNs, .inl (cI, 24, .inl (Ns)))] sz) t) (va_A [(m0, .inr (5, [.int (ft), .int (nI (n)), .ref aMd, .ref aO1, .ref aT2, .int (rs), .ref aSh, .ref aMk, .ref aFa, .ref aDe, .ref aNe, .ref aBy, .ref aPi, .int (pd), .ref aNw, .ref aNs, .ref aBf, .int (nI (rn)), .int (rr)])), (aNw, .inl (cI, 24, .inl (Nw))), (aNs, .inl (cI, 24, .inl (Ns)))] sz)) 0 0 (va_A [(m0, .inr (5, [.int (ft), .int (nI (n)), .ref aMd, .ref aO1, .ref aT2, .int (rs), .ref aSh, .ref aMk, .ref aFa, .ref aDe, .ref aNe, .ref aBy, .ref aPi, .int (pd), .ref aNw, .ref aNs, .ref aBf, .int (nI (rn)), .int (rr)])), (aNw, .inl (cI, 24, .inl (Nw))), (aNs, .inl (cI, 24, .inl (Ns)))] sz) := by
  refine Met.ofW (cc := cM_value) (maxL := 3) (ret := (some .int)) (by decide) rfl ?_
  intro p e s m args below meth c s₁ B hml hv0
  have hx := B.exec
  have hb := B.bytes
  have hr := B.returns
  have hts := atoms_spec (ws := wsM_value) B.pre
  have hown : s.vm.findClass RM = some m.cls := findClass_of_methodNamed B.named
  have hlocks := B.notSynchronized
  obtain ⟨rfl, hsz, hG⟩ := dw_enter hv0
  generalize va_A [(m0, .inr (5, [.int (ft), .int (nI (n)), .ref aMd, .ref aO1, .ref aT2, .int (rs), .ref aSh, .ref aMk, .ref aFa, .ref aDe, .ref aNe, .ref aBy, .ref aPi, .int (pd), .ref aNw, .ref aNs, .ref aBf, .int (nI (rn)), .int (rr)])), (aNw, .inl (cI, 24, .inl (Nw))), (aNs, .inl (cI, 24, .inl (Ns)))] sz = A at hG ⊢
  have hl := lv_entry ([.ref m0, .int (nI (v)), .int (1)]) (n := 3) (Nat.le_of_ble_eq_true rfl)
  rw [lg_entry_eq]
  generalize (lg_sl ([.ref m0, .int (nI (v)), .int (1)]) ++ List.replicate (3 - (lg_sl ([.ref m0, .int (nI (v)), .int (1)])).length) Slot.unset).toArray = ls at hl ⊢
  have hl : lv_has ls 3 [(0, .ref m0), (1, .int (nI (v))), (2, .int (1))] := hl
  have hw494 := hts _ (List.mem_cons_of_mem _ tw_494)
  have hw511 := hts _ (List.mem_cons_of_mem _ tw_511)
  have hw509 := hts _ (List.mem_cons_of_mem _ tw_509)
  refine dw_Q (fun Q hQ => ?_)
  suffices hgo : ∀ (H : Heap) (locs : List Loc), dw_G (dC, dI) vwCl [(cI, .int), (cZ, .boolean)] A s.heap s [(m0, .inr (5, [.int (ft), .int (nI (n)), .ref aMd, .ref aO1, .ref aT2, .int (rs), .ref aSh, .ref aMk, .ref aFa, .ref aDe, .ref aNe, .ref aBy, .ref aPi, .int (pd), .ref aNw, .ref aNs, .ref aBf, .int (nI (rn)), .int (rr)])), (aNw, .inl (cI, 24, .inl (Nw))), (aNs, .inl (cI, 24, .inl (Ns)))] H locs → W p l e (headSpec wsM_value { frames := 1, cells := 0, slots := 0, locals := 30 }).room s m [.ref m0, .int (nI (v)), .int (1)].toArray below meth c H locs 0 0 Q (F0 m 0 ls []) from hgo _ _ hG
  clear hG
  intro H locs hG
  refine lv_aload_n hx hb dM_value_0 rfl (lv_at hl 0 rfl) ?_
  refine lv_aload_n hx hb dM_value_1 rfl (lv_at hl 0 rfl) ?_
  refine lv_iload_n hx hb dM_value_2 rfl (lv_at hl 1 rfl) ?_
  refine dw_calli (wc := [(m0, .inr (5, [.int (ft), .int (nI (n)), .ref aMd, .ref aO1, .ref aT2, .int (rs), .ref aSh, .ref aMk, .ref aFa, .ref aDe, .ref aNe, .ref aBy, .ref aPi, .int (pd), .ref aNw, .ref aNs, .ref aBf, .int (nI (rn)), .int (rr)]))]) (wr := [(aNw, .inl (cI, 24, .inl (Nw))), (aNs, .inl (cI, 24, .inl (Ns)))]) hG [0] [1, 2] rfl rfl (by decide) (by decide) (va_runV (As := [.int (nI (v))]) (rest := [.ref m0]) ⟨hx, hb, hml, hown, hts⟩ (rf_isValue l dC dI cI cZ m0 aMd aO1 aT2 aSh aMk aFa aDe aNe aBy aPi aNw aNs aBf ft (nI n) rs pd (nI rn) rr (nI (v)) H.size ) (dc_V 1 hts tw_573 tw_575 tp_M_isValue tw_7 tw_576 rfl rfl (by decide +kernel) ⟨Nat.le_of_ble_eq_true rfl, Nat.le_of_ble_eq_true rfl⟩) (dw_preV (ci := 5) hG [0] [0, 1] rfl rfl (by decide) rfl rfl (q0 := 0) rfl) rfl rfl hl.1 rfl (lv_room (Nat.le_of_ble_eq_true rfl)) dM_value_3 ⟨Nat.le_refl _, Nat.le_refl _⟩) (fun r u H locs hp hG => ?_)
  subst hp
  have hG : dw_G (dC, dI) vwCl [(cI, .int), (cZ, .boolean)] A s.heap s [(aNw, .inl (cI, 24, .inl (Nw))), (aNs, .inl (cI, 24, .inl (Ns))), (m0, .inr (5, [.int (ft), .int (nI (n)), .ref aMd, .ref aO1, .ref aT2, .int (rs), .ref aSh, .ref aMk, .ref aFa, .ref aDe, .ref aNe, .ref aBy, .ref aPi, .int (pd), .ref aNw, .ref aNs, .ref aBf, .int (nI (rn)), .int (rr)]))] H locs := hG
  refine lv_topi (nm_r (show (db_isv (nI (v)) (nI n) : Int32) = 1 from (db_isv_y (by omega) (by omega))) ?_)
  refine lv_if_eq (tgt := 13) hx hb dM_value_6 (by decide) (fun h6 => ?_) (fun h6 => ?_)
  · skip
    replace h6 := (nI_eq (a := 1) (b := 0) (by omega) (by omega)).mp h6
    (exfalso; omega)
  replace h6 : ¬ 1 = 0 := fun hq0 => h6 ((nI_eq (a := 1) (b := 0) (by omega) (by omega)).mpr hq0)
  refine lv_iconst (v := 0) hx hb dM_value_9 (by decide) ?_
  refine lv_goto (tgt := 14) hx hb dM_value_10 (by decide) ?_
  refine dw_put (ws' := [(aNw, .inl (cI, 24, .inl (Nw))), (aNs, .inl (cI, 24, .inl (Ns))), (m0, .inr (5, [.int (0), .int (nI (n)), .ref aMd, .ref aO1, .ref aT2, .int (rs), .ref aSh, .ref aMk, .ref aFa, .ref aDe, .ref aNe, .ref aBy, .ref aPi, .int (pd), .ref aNw, .ref aNs, .ref aBf, .int (nI (rn)), .int (rr)]))]) hx hb hts inMc tyM tyM_ok nmM hown hG 2 0 rfl rfl (by decide) hw494 rfl rfl (ty := .int) (by decide +kernel) rfl rfl (Nat.le_of_ble_eq_true rfl) dM_value_14 rfl (fun H locs hG => ?_)
  refine lv_aload_n hx hb dM_value_17 rfl (lv_at hl 0 rfl) ?_
  refine dw_get hx hb hts inMc hown hG 2 0 rfl rfl (by decide) hw494 rfl rfl dM_value_18 ?_
  refine lv_if_gt (tgt := 32) hx hb dM_value_21 (by decide) (fun h21 => ?_) (fun h21 => ?_)
  · skip
    replace h21 := (nI_ltI (a := 0) (b := 0) (by omega) (by omega)).mp h21
    (exfalso; omega)
  replace h21 : ¬ 0 < 0 := fun hq0 => h21 ((nI_ltI (a := 0) (b := 0) (by omega) (by omega)).mpr hq0)
  refine lv_iload_n hx hb dM_value_24 rfl (lv_at hl 1 rfl) ?_
  refine lv_aload_n hx hb dM_value_25 rfl (lv_at hl 0 rfl) ?_
  refine dw_get hx hb hts inMc hown hG 2 17 rfl rfl (by decide) hw511 rfl rfl dM_value_26 ?_
  refine lv_icmp_lt (tgt := 34) hx hb dM_value_29 (by decide) (fun h29 => ?_) (fun h29 => ?_)
  · skip
    replace h29 := (nI_ltI (a := v) (b := rn) (by omega) (by omega)).mp h29
    refine lv_iload_n hx hb dM_value_34 rfl (lv_at hl 2 rfl) ?_
    refine lv_if_eq (tgt := 47) hx hb dM_value_35 (by decide) (fun h35 => ?_) (fun h35 => ?_)
    · skip
      replace h35 := (nI_eq (a := 1) (b := 0) (by omega) (by omega)).mp h35
      (exfalso; omega)
    replace h35 : ¬ 1 = 0 := fun hq0 => h35 ((nI_eq (a := 1) (b := 0) (by omega) (by omega)).mpr hq0)
    refine lv_aload_n hx hb dM_value_38 rfl (lv_at hl 0 rfl) ?_
    refine dw_get hx hb hts inMc hown hG 2 15 rfl rfl (by decide) hw509 rfl rfl dM_value_39 ?_
    refine lv_iload_n hx hb dM_value_42 rfl (lv_at hl 1 rfl) ?_
    refine dw_ia (x := (Ns) (v)) hx hb hG 1 0 rfl rfl (v) rfl (by omega) (by decide) rfl dM_value_43 ?_
    refine lv_goto (tgt := 53) hx hb dM_value_44 (by decide) ?_
    subst hQ
    exact dw_iret hx hb hr (dw_perm hG [2, 0, 1] (by decide) rfl rfl) (()) rfl (if_pos h29).symm dM_value_53 hlocks
  replace h29 : ¬ v < rn := fun hq0 => h29 ((nI_ltI (a := v) (b := rn) (by omega) (by omega)).mpr hq0)
  refine lv_iconst (v := 0) hx hb dM_value_32 (by decide) ?_
  subst hQ
  exact dw_iret hx hb hr (dw_perm hG [2, 0, 1] (by decide) rfl rfl) (()) rfl (if_neg h29).symm dM_value_33 hlocks

set_option maxRecDepth 100000 in
set_option maxHeartbeats 4000000 in
theorem rf_value_1 (l : Launch) (dC : Nat → ClassId) (dI : Nat → Nat → Nat) (cI cZ : ClassId) (m0 aMd aO1 aT2 aSh aMk aFa aDe aNe aBy aPi aNw aNs aBf n rn : Nat) (ft rs rr pd : Int32) (Nw Ns : Nat → Int32) (v sh : Int32) (sz : Nat) (hinv : db_isv v (nI n) = 0) : Met l yM_value wsM_value { frames := 1, cells := 0, slots := 0, locals := 30 } (va_Pc [.ref m0, .int (v), .int (sh)] (dw_pre (dC, dI) vwCl [(m0, .inr (5, [.int (ft), .int (nI (n)), .ref aMd, .ref aO1, .ref aT2, .int (rs), .ref aSh, .ref aMk, .ref aFa, .ref aDe, .ref aNe, .ref aBy, .ref aPi, .int (pd), .ref aNw, .ref aNs, .ref aBf, .int (nI (rn)), .int (rr)])), (aNw, .inl (cI, 24, .inl (Nw))), (aNs, .inl (cI, 24, .inl (Ns)))] [(cI, .int), (cZ, .boolean)] sz)) (va_Qi (fun (r : Int32) (u : Unit) => r = 0) (fun u t => dw_post (dC, dI) vwCl [(m0, .inr (5, [.int (1), .int (nI (n)), .ref aMd, .ref aO1, .ref aT2, .int (rs), .ref aSh, .ref aMk, .ref aFa, .ref aDe, .ref aNe, .ref aBy, .ref aPi, .int (pd), .ref aNw, .ref aNs, .ref aBf, .int (nI (rn)), .int (rr)])), (aNw, .inl (cI, 24, .inl (Nw))), (aNs, .inl (cI, 24, .inl (Ns)))] [(cI, .int), (cZ, .boolean)] (va_A [(m0, .inr (5, [.int (ft), .int (nI (n)), .ref aMd, .ref aO1, .ref aT2, .int (rs), .ref aSh, .ref aMk, .ref aFa, .ref aDe, .ref aNe, .ref aBy, .ref aPi, .int (pd), .ref aNw, .ref aNs, .ref aBf, .int (nI (rn)), .int (rr)])), (aNw, .inl (cI, 24, .inl (Nw))), (aNs, .inl (cI, 24, .inl (Ns)))] sz) t) (va_A [(m0, .inr (5, [.int (ft), .int (nI (n)), .ref aMd, .ref aO1, .ref aT2, .int (rs), .ref aSh, .ref aMk, .ref aFa, .ref aDe, .ref aNe, .ref aBy, .ref aPi, .int (pd), .ref aNw, .ref aNs, .ref aBf, .int (nI (rn)), .int (rr)])), (aNw, .inl (cI, 24, .inl (Nw))), (aNs, .inl (cI, 24, .inl (Ns)))] sz)) 0 0 (va_A [(m0, .inr (5, [.int (ft), .int (nI (n)), .ref aMd, .ref aO1, .ref aT2, .int (rs), .ref aSh, .ref aMk, .ref aFa, .ref aDe, .ref aNe, .ref aBy, .ref aPi, .int (pd), .ref aNw, .ref aNs, .ref aBf, .int (nI (rn)), .int (rr)])), (aNw, .inl (cI, 24, .inl (Nw))), (aNs, .inl (cI, 24, .inl (Ns)))] sz) := by
  refine Met.ofW (cc := cM_value) (maxL := 3) (ret := (some .int)) (by decide) rfl ?_
  intro p e s m args below meth c s₁ B hml hv0
  have hx := B.exec
  have hb := B.bytes
  have hr := B.returns
  have hts := atoms_spec (ws := wsM_value) B.pre
  have hown : s.vm.findClass RM = some m.cls := findClass_of_methodNamed B.named
  have hlocks := B.notSynchronized
  obtain ⟨rfl, hsz, hG⟩ := dw_enter hv0
  generalize va_A [(m0, .inr (5, [.int (ft), .int (nI (n)), .ref aMd, .ref aO1, .ref aT2, .int (rs), .ref aSh, .ref aMk, .ref aFa, .ref aDe, .ref aNe, .ref aBy, .ref aPi, .int (pd), .ref aNw, .ref aNs, .ref aBf, .int (nI (rn)), .int (rr)])), (aNw, .inl (cI, 24, .inl (Nw))), (aNs, .inl (cI, 24, .inl (Ns)))] sz = A at hG ⊢
  have hl := lv_entry ([.ref m0, .int (v), .int (sh)]) (n := 3) (Nat.le_of_ble_eq_true rfl)
  rw [lg_entry_eq]
  generalize (lg_sl ([.ref m0, .int (v), .int (sh)]) ++ List.replicate (3 - (lg_sl ([.ref m0, .int (v), .int (sh)])).length) Slot.unset).toArray = ls at hl ⊢
  have hl : lv_has ls 3 [(0, .ref m0), (1, .int (v)), (2, .int (sh))] := hl
  have hw494 := hts _ (List.mem_cons_of_mem _ tw_494)
  refine dw_Q (fun Q hQ => ?_)
  suffices hgo : ∀ (H : Heap) (locs : List Loc), dw_G (dC, dI) vwCl [(cI, .int), (cZ, .boolean)] A s.heap s [(m0, .inr (5, [.int (ft), .int (nI (n)), .ref aMd, .ref aO1, .ref aT2, .int (rs), .ref aSh, .ref aMk, .ref aFa, .ref aDe, .ref aNe, .ref aBy, .ref aPi, .int (pd), .ref aNw, .ref aNs, .ref aBf, .int (nI (rn)), .int (rr)])), (aNw, .inl (cI, 24, .inl (Nw))), (aNs, .inl (cI, 24, .inl (Ns)))] H locs → W p l e (headSpec wsM_value { frames := 1, cells := 0, slots := 0, locals := 30 }).room s m [.ref m0, .int (v), .int (sh)].toArray below meth c H locs 0 0 Q (F0 m 0 ls []) from hgo _ _ hG
  clear hG
  intro H locs hG
  refine lv_aload_n hx hb dM_value_0 rfl (lv_at hl 0 rfl) ?_
  refine lv_aload_n hx hb dM_value_1 rfl (lv_at hl 0 rfl) ?_
  refine lv_iload_n hx hb dM_value_2 rfl (lv_at hl 1 rfl) ?_
  refine dw_calli (wc := [(m0, .inr (5, [.int (ft), .int (nI (n)), .ref aMd, .ref aO1, .ref aT2, .int (rs), .ref aSh, .ref aMk, .ref aFa, .ref aDe, .ref aNe, .ref aBy, .ref aPi, .int (pd), .ref aNw, .ref aNs, .ref aBf, .int (nI (rn)), .int (rr)]))]) (wr := [(aNw, .inl (cI, 24, .inl (Nw))), (aNs, .inl (cI, 24, .inl (Ns)))]) hG [0] [1, 2] rfl rfl (by decide) (by decide) (va_runV (As := [.int (v)]) (rest := [.ref m0]) ⟨hx, hb, hml, hown, hts⟩ (rf_isValue l dC dI cI cZ m0 aMd aO1 aT2 aSh aMk aFa aDe aNe aBy aPi aNw aNs aBf ft (nI n) rs pd (nI rn) rr (v) H.size ) (dc_V 1 hts tw_573 tw_575 tp_M_isValue tw_7 tw_576 rfl rfl (by decide +kernel) ⟨Nat.le_of_ble_eq_true rfl, Nat.le_of_ble_eq_true rfl⟩) (dw_preV (ci := 5) hG [0] [0, 1] rfl rfl (by decide) rfl rfl (q0 := 0) rfl) rfl rfl hl.1 rfl (lv_room (Nat.le_of_ble_eq_true rfl)) dM_value_3 ⟨Nat.le_refl _, Nat.le_refl _⟩) (fun r u H locs hp hG => ?_)
  subst hp
  have hG : dw_G (dC, dI) vwCl [(cI, .int), (cZ, .boolean)] A s.heap s [(aNw, .inl (cI, 24, .inl (Nw))), (aNs, .inl (cI, 24, .inl (Ns))), (m0, .inr (5, [.int (ft), .int (nI (n)), .ref aMd, .ref aO1, .ref aT2, .int (rs), .ref aSh, .ref aMk, .ref aFa, .ref aDe, .ref aNe, .ref aBy, .ref aPi, .int (pd), .ref aNw, .ref aNs, .ref aBf, .int (nI (rn)), .int (rr)]))] H locs := hG
  refine lv_topi (nm_r (show (db_isv (v) (nI n) : Int32) = 0 from hinv) ?_)
  refine lv_if_eq (tgt := 13) hx hb dM_value_6 (by decide) (fun h6 => ?_) (fun h6 => ?_)
  · skip
    replace h6 := (nI_eq (a := 0) (b := 0) (by omega) (by omega)).mp h6
    refine lv_iconst (v := 1) hx hb dM_value_13 (by decide) ?_
    refine dw_put (ws' := [(aNw, .inl (cI, 24, .inl (Nw))), (aNs, .inl (cI, 24, .inl (Ns))), (m0, .inr (5, [.int (1), .int (nI (n)), .ref aMd, .ref aO1, .ref aT2, .int (rs), .ref aSh, .ref aMk, .ref aFa, .ref aDe, .ref aNe, .ref aBy, .ref aPi, .int (pd), .ref aNw, .ref aNs, .ref aBf, .int (nI (rn)), .int (rr)]))]) hx hb hts inMc tyM tyM_ok nmM hown hG 2 0 rfl rfl (by decide) hw494 rfl rfl (ty := .int) (by decide +kernel) rfl rfl (Nat.le_of_ble_eq_true rfl) dM_value_14 rfl (fun H locs hG => ?_)
    refine lv_aload_n hx hb dM_value_17 rfl (lv_at hl 0 rfl) ?_
    refine dw_get hx hb hts inMc hown hG 2 0 rfl rfl (by decide) hw494 rfl rfl dM_value_18 ?_
    refine lv_if_gt (tgt := 32) hx hb dM_value_21 (by decide) (fun h21 => ?_) (fun h21 => ?_)
    · skip
      replace h21 := (nI_ltI (a := 0) (b := 1) (by omega) (by omega)).mp h21
      refine lv_iconst (v := 0) hx hb dM_value_32 (by decide) ?_
      subst hQ
      exact dw_iret hx hb hr (dw_perm hG [2, 0, 1] (by decide) rfl rfl) (()) rfl rfl dM_value_33 hlocks
    replace h21 : ¬ 0 < 1 := fun hq0 => h21 ((nI_ltI (a := 0) (b := 1) (by omega) (by omega)).mpr hq0)
    (exfalso; omega)
  replace h6 : ¬ 0 = 0 := fun hq0 => h6 ((nI_eq (a := 0) (b := 0) (by omega) (by omega)).mpr hq0)
  (exfalso; omega)

