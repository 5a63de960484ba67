set_option maxRecDepth 100000 in
set_option maxHeartbeats 4000000 in
theorem rf_demand0 (l : Launch) (dC : Nat → ClassId) (dI : Nat → Nat → Nat) (cI cZ : ClassId) (m0 aMd aO1 aT2 aSh aMk aFa aDe aNe aBy aPi aNw aNs aBf n R aS : Nat) (ft rn rr : Int32) (K X Y : Nat → Nat) (Nm : Nat → Int32) (f : db_Fs) (RV : Nat → Nat) (Ms Se Pi Fa : Nat → Int32) (pd : Int32) (sz : Nat) (hn : n ≤ 24) (hR : R ≤ 4) (hwf : db_wf n K X Y Nm) (hRV : ∀ r, r < R → RV r < n) (hfa : db_reps n Fa f) (haps : db_aps n f) : Met l yM_demand wsM_demand { frames := 3, cells := 0, slots := 0, locals := 100 } (va_Pc [.ref m0, .ref aS, .int (0)] (dw_pre (dC, dI) vwCl [(m0, .inr (5, [.int (ft), .int (nI (n)), .ref aMd, .ref aO1, .ref aT2, .int (nI (R)), .ref aSh, .ref aMk, .ref aFa, .ref aDe, .ref aNe, .ref aBy, .ref aPi, .int (pd), .ref aNw, .ref aNs, .ref aBf, .int (rn), .int (rr)])), (aS, .inl (cZ, 768, .inl (Se))), (aPi, .inl (cI, 1600, .inl (Pi))), (aMd, .inl (cI, 24, .inl (fun w => nI (db_rk (K w))))), (aO1, .inl (cI, 24, .inl (db_one1 K X Nm))), (aT2, .inl (cI, 24, .inl (db_two2 K Y Nm))), (aFa, .inl (cI, 768, .inl (Fa))), (aSh, .inl (cI, 4, .inl (fun r => nI (RV r)))), (aMk, .inl (cI, 4, .inl (Ms)))] [(cI, .int), (cZ, .boolean)] sz)) (va_Qv (fun (u : db_Q) => ∀ v, v < n → db_set u.1 v (db_D n K X Y Nm f (fun _ => -1) R RV Ms v)) (fun u t => dw_post (dC, dI) vwCl [(m0, .inr (5, [.int (ft), .int (nI (n)), .ref aMd, .ref aO1, .ref aT2, .int (nI (R)), .ref aSh, .ref aMk, .ref aFa, .ref aDe, .ref aNe, .ref aBy, .ref aPi, .int (nI u.2.2), .ref aNw, .ref aNs, .ref aBf, .int (rn), .int (rr)])), (aS, .inl (cZ, 768, .inl (u.1))), (aPi, .inl (cI, 1600, .inl (u.2.1))), (aMd, .inl (cI, 24, .inl (fun w => nI (db_rk (K w))))), (aO1, .inl (cI, 24, .inl (db_one1 K X Nm))), (aT2, .inl (cI, 24, .inl (db_two2 K Y Nm))), (aFa, .inl (cI, 768, .inl (Fa))), (aSh, .inl (cI, 4, .inl (fun r => nI (RV r)))), (aMk, .inl (cI, 4, .inl (Ms)))] [(cI, .int), (cZ, .boolean)] (va_A [(m0, .inr (5, [.int (ft), .int (nI (n)), .ref aMd, .ref aO1, .ref aT2, .int (nI (R)), .ref aSh, .ref aMk, .ref aFa, .ref aDe, .ref aNe, .ref aBy, .ref aPi, .int (pd), .ref aNw, .ref aNs, .ref aBf, .int (rn), .int (rr)])), (aS, .inl (cZ, 768, .inl (Se))), (aPi, .inl (cI, 1600, .inl (Pi))), (aMd, .inl (cI, 24, .inl (fun w => nI (db_rk (K w))))), (aO1, .inl (cI, 24, .inl (db_one1 K X Nm))), (aT2, .inl (cI, 24, .inl (db_two2 K Y Nm))), (aFa, .inl (cI, 768, .inl (Fa))), (aSh, .inl (cI, 4, .inl (fun r => nI (RV r)))), (aMk, .inl (cI, 4, .inl (Ms)))] sz) t) (va_A [(m0, .inr (5, [.int (ft), .int (nI (n)), .ref aMd, .ref aO1, .ref aT2, .int (nI (R)), .ref aSh, .ref aMk, .ref aFa, .ref aDe, .ref aNe, .ref aBy, .ref aPi, .int (pd), .ref aNw, .ref aNs, .ref aBf, .int (rn), .int (rr)])), (aS, .inl (cZ, 768, .inl (Se))), (aPi, .inl (cI, 1600, .inl (Pi))), (aMd, .inl (cI, 24, .inl (fun w => nI (db_rk (K w))))), (aO1, .inl (cI, 24, .inl (db_one1 K X Nm))), (aT2, .inl (cI, 24, .inl (db_two2 K Y Nm))), (aFa, .inl (cI, 768, .inl (Fa))), (aSh, .inl (cI, 4, .inl (fun r => nI (RV r)))), (aMk, .inl (cI, 4, .inl (Ms)))] sz)) 0 0 (va_A [(m0, .inr (5, [.int (ft), .int (nI (n)), .ref aMd, .ref aO1, .ref aT2, .int (nI (R)), .ref aSh, .ref aMk, .ref aFa, .ref aDe, .ref aNe, .ref aBy, .ref aPi, .int (pd), .ref aNw, .ref aNs, .ref aBf, .int (rn), .int (rr)])), (aS, .inl (cZ, 768, .inl (Se))), (aPi, .inl (cI, 1600, .inl (Pi))), (aMd, .inl (cI, 24, .inl (fun w => nI (db_rk (K w))))), (aO1, .inl (cI, 24, .inl (db_one1 K X Nm))), (aT2, .inl (cI, 24, .inl (db_two2 K Y Nm))), (aFa, .inl (cI, 768, .inl (Fa))), (aSh, .inl (cI, 4, .inl (fun r => nI (RV r)))), (aMk, .inl (cI, 4, .inl (Ms)))] sz) := by
  refine Met.ofW (cc := cM_demand) (maxL := 5) (ret := none) (by decide) rfl ?_
  intro p e s m args below meth c s₁ B hml hv0
  have hx := B.exec
  have hb := B.bytes
  have hr := B.returns
  have hts := atoms_spec (ws := wsM_demand) B.pre
  have hown : s.vm.findClass RM = some m.cls := findClass_of_methodNamed B.named
  have hlocks := B.notSynchronized
  obtain ⟨rfl, hsz, hG⟩ := dw_enter hv0
  generalize va_A [(m0, .inr (5, [.int (ft), .int (nI (n)), .ref aMd, .ref aO1, .ref aT2, .int (nI (R)), .ref aSh, .ref aMk, .ref aFa, .ref aDe, .ref aNe, .ref aBy, .ref aPi, .int (pd), .ref aNw, .ref aNs, .ref aBf, .int (rn), .int (rr)])), (aS, .inl (cZ, 768, .inl (Se))), (aPi, .inl (cI, 1600, .inl (Pi))), (aMd, .inl (cI, 24, .inl (fun w => nI (db_rk (K w))))), (aO1, .inl (cI, 24, .inl (db_one1 K X Nm))), (aT2, .inl (cI, 24, .inl (db_two2 K Y Nm))), (aFa, .inl (cI, 768, .inl (Fa))), (aSh, .inl (cI, 4, .inl (fun r => nI (RV r)))), (aMk, .inl (cI, 4, .inl (Ms)))] sz = A at hG ⊢
  have hl := lv_entry ([.ref m0, .ref aS, .int (0)]) (n := 5) (Nat.le_of_ble_eq_true rfl)
  rw [lg_entry_eq]
  generalize (lg_sl ([.ref m0, .ref aS, .int (0)]) ++ List.replicate (5 - (lg_sl ([.ref m0, .ref aS, .int (0)])).length) Slot.unset).toArray = ls at hl ⊢
  have hl : lv_has ls 5 [(0, .ref m0), (1, .ref aS), (2, .int (0))] := hl
  have hw507 := hts _ (List.mem_cons_of_mem _ tw_507)
  have hw499 := hts _ (List.mem_cons_of_mem _ tw_499)
  have hw506 := hts _ (List.mem_cons_of_mem _ tw_506)
  have hw501 := hts _ (List.mem_cons_of_mem _ tw_501)
  have hw500 := hts _ (List.mem_cons_of_mem _ tw_500)
  have hreach : ∀ v a w b, v < n → db_asks K X Y Nm f (fun _ => -1) v a w b → w < n := by
    intro v a w b hv hs
    have q := hwf v hv
    rw [db_asks_A rfl] at hs; rcases hs with ⟨e, -⟩ | ⟨e, -⟩ <;> rw [e]; exact q.2.1; exact q.2.2.1
  refine dw_Q (fun Q hQ => ?_)
  suffices hgo : ∀ (H : Heap) (locs : List Loc), dw_G (dC, dI) vwCl [(cI, .int), (cZ, .boolean)] A s.heap s [(m0, .inr (5, [.int (ft), .int (nI (n)), .ref aMd, .ref aO1, .ref aT2, .int (nI (R)), .ref aSh, .ref aMk, .ref aFa, .ref aDe, .ref aNe, .ref aBy, .ref aPi, .int (pd), .ref aNw, .ref aNs, .ref aBf, .int (rn), .int (rr)])), (aS, .inl (cZ, 768, .inl (Se))), (aPi, .inl (cI, 1600, .inl (Pi))), (aMd, .inl (cI, 24, .inl (fun w => nI (db_rk (K w))))), (aO1, .inl (cI, 24, .inl (db_one1 K X Nm))), (aT2, .inl (cI, 24, .inl (db_two2 K Y Nm))), (aFa, .inl (cI, 768, .inl (Fa))), (aSh, .inl (cI, 4, .inl (fun r => nI (RV r)))), (aMk, .inl (cI, 4, .inl (Ms)))] H locs → W p l e (headSpec wsM_demand { frames := 3, cells := 0, slots := 0, locals := 100 }).room s m [.ref m0, .ref aS, .int (0)].toArray below meth c H locs 0 0 Q (F0 m 0 ls []) from hgo _ _ hG
  clear hG
  intro H locs hG
  refine lv_iconst (v := 0) hx hb dM_demand_0 (by decide) ?_
  refine lv_istore_n (lv' := [(3, .int (0)), (0, .ref m0), (1, .ref aS), (2, .int (0))]) hx hb dM_demand_1 rfl hl (by decide) rfl (fun ls hl => ?_)
  have L2 : ∀ (zz : Nat) (k : Nat) (G : Nat → Int32) (ls : Array Slot) (H : Heap) (locs : List Loc), 768 - k < zz → k ≤ 768 → (∀ j, j < k → G j = 0) → lv_has ls 5 [(0, .ref m0), (1, .ref aS), (2, .int (0)), (3, .int (nI (k)))] → dw_G (dC, dI) vwCl [(cI, .int), (cZ, .boolean)] A s.heap s [(m0, .inr (5, [.int (ft), .int (nI (n)), .ref aMd, .ref aO1, .ref aT2, .int (nI (R)), .ref aSh, .ref aMk, .ref aFa, .ref aDe, .ref aNe, .ref aBy, .ref aPi, .int (pd), .ref aNw, .ref aNs, .ref aBf, .int (rn), .int (rr)])), (aS, .inl (cZ, 768, .inl (G))), (aPi, .inl (cI, 1600, .inl (Pi))), (aMd, .inl (cI, 24, .inl (fun w => nI (db_rk (K w))))), (aO1, .inl (cI, 24, .inl (db_one1 K X Nm))), (aT2, .inl (cI, 24, .inl (db_two2 K Y Nm))), (aFa, .inl (cI, 768, .inl (Fa))), (aSh, .inl (cI, 4, .inl (fun r => nI (RV r)))), (aMk, .inl (cI, 4, .inl (Ms)))] H locs → W p l e (headSpec wsM_demand { frames := 3, cells := 0, slots := 0, locals := 100 }).room s m [.ref m0, .ref aS, .int (0)].toArray below meth c H locs 0 0 Q (F0 m 2 ls []) := by
    intro zz
    induction zz with
    | zero => intro k G ls H locs hz; exact absurd hz (Nat.not_lt_zero _)
    | succ zz L2_ih =>
      intro k G ls H locs hz hk h0 hl hG
      refine lv_iload_n hx hb dM_demand_2 rfl (lv_at hl 3 rfl) ?_
      refine lv_sipush (v := 768) hx hb dM_demand_3 (by decide) ?_
      refine lv_icmp_ge (tgt := 19) hx hb dM_demand_6 (by decide) (fun h6 => ?_) (fun h6 => ?_)
      · skip
        replace h6 := (nI_leI (a := 768) (b := k) (by omega) (by omega)).mp h6
        refine lv_aload_n hx hb dM_demand_19 rfl (lv_at hl 0 rfl) ?_
        refine lv_iconst (v := 0) hx hb dM_demand_20 (by decide) ?_
        refine dw_put (ws' := [(m0, .inr (5, [.int (ft), .int (nI (n)), .ref aMd, .ref aO1, .ref aT2, .int (nI (R)), .ref aSh, .ref aMk, .ref aFa, .ref aDe, .ref aNe, .ref aBy, .ref aPi, .int (0), .ref aNw, .ref aNs, .ref aBf, .int (rn), .int (rr)])), (aS, .inl (cZ, 768, .inl (G))), (aPi, .inl (cI, 1600, .inl (Pi))), (aMd, .inl (cI, 24, .inl (fun w => nI (db_rk (K w))))), (aO1, .inl (cI, 24, .inl (db_one1 K X Nm))), (aT2, .inl (cI, 24, .inl (db_two2 K Y Nm))), (aFa, .inl (cI, 768, .inl (Fa))), (aSh, .inl (cI, 4, .inl (fun r => nI (RV r)))), (aMk, .inl (cI, 4, .inl (Ms)))]) hx hb hts inMc tyM tyM_ok nmM hown hG 0 13 rfl rfl (by decide) hw507 rfl rfl (ty := .int) (by decide +kernel) rfl rfl (Nat.le_of_ble_eq_true rfl) dM_demand_21 rfl (fun H locs hG => ?_)
        refine lv_iconst (v := 0) hx hb dM_demand_24 (by decide) ?_
        refine lv_istore_n (lv' := [(3, .int (0)), (0, .ref m0), (1, .ref aS), (2, .int (0))]) hx hb dM_demand_25 rfl hl (by decide) rfl (fun ls hl => ?_)
        have L26 : ∀ (zz : Nat) (r : Nat) (q : db_Q) (ls : Array Slot) (H : Heap) (locs : List Loc), R - r < zz → r ≤ R → db_dinv n K X Y Nm f (fun _ => -1) R RV Ms q → (∀ r2, r2 < r → ∀ b, b < 32 → bt (Ms r2) b = true → q.1 (32 * RV r2 + b) = 1) → lv_has ls 5 [(0, .ref m0), (1, .ref aS), (2, .int (0)), (3, .int (nI (r)))] → dw_G (dC, dI) vwCl [(cI, .int), (cZ, .boolean)] A s.heap s [(m0, .inr (5, [.int (ft), .int (nI (n)), .ref aMd, .ref aO1, .ref aT2, .int (nI (R)), .ref aSh, .ref aMk, .ref aFa, .ref aDe, .ref aNe, .ref aBy, .ref aPi, .int (nI (q.2.2)), .ref aNw, .ref aNs, .ref aBf, .int (rn), .int (rr)])), (aS, .inl (cZ, 768, .inl (q.1))), (aPi, .inl (cI, 1600, .inl (q.2.1))), (aMd, .inl (cI, 24, .inl (fun w => nI (db_rk (K w))))), (aO1, .inl (cI, 24, .inl (db_one1 K X Nm))), (aT2, .inl (cI, 24, .inl (db_two2 K Y Nm))), (aFa, .inl (cI, 768, .inl (Fa))), (aSh, .inl (cI, 4, .inl (fun r => nI (RV r)))), (aMk, .inl (cI, 4, .inl (Ms)))] H locs → W p l e (headSpec wsM_demand { frames := 3, cells := 0, slots := 0, locals := 100 }).room s m [.ref m0, .ref aS, .int (0)].toArray below meth c H locs 0 0 Q (F0 m 26 ls []) := by
          intro zz
          induction zz with
          | zero => intro r q ls H locs hz; exact absurd hz (Nat.not_lt_zero _)
          | succ zz L26_ih =>
            intro r q ls H locs hz hr9 hI hs hl hG
            refine lv_iload_n hx hb dM_demand_26 rfl (lv_at hl 3 rfl) ?_
            refine lv_aload_n hx hb dM_demand_27 rfl (lv_at hl 0 rfl) ?_
            refine dw_get hx hb hts inMc hown hG 0 5 rfl rfl (by decide) hw499 rfl rfl dM_demand_28 ?_
            refine lv_icmp_ge (tgt := 84) hx hb dM_demand_31 (by decide) (fun h31 => ?_) (fun h31 => ?_)
            · skip
              replace h31 := (nI_leI (a := R) (b := r) (by omega) (by omega)).mp h31
              have L84 : ∀ (zz : Nat) (q : db_Q) (ls : Array Slot) (H : Heap) (locs : List Loc), 2 * (768 - db_sc q.1) + q.2.2 < zz → db_dinv n K X Y Nm f (fun _ => -1) R RV Ms q → (∀ r2, r2 < R → ∀ b, b < 32 → bt (Ms r2) b = true → q.1 (32 * RV r2 + b) = 1) → lv_has ls 5 [(0, .ref m0), (1, .ref aS), (2, .int (0))] → dw_G (dC, dI) vwCl [(cI, .int), (cZ, .boolean)] A s.heap s [(m0, .inr (5, [.int (ft), .int (nI (n)), .ref aMd, .ref aO1, .ref aT2, .int (nI (R)), .ref aSh, .ref aMk, .ref aFa, .ref aDe, .ref aNe, .ref aBy, .ref aPi, .int (nI (q.2.2)), .ref aNw, .ref aNs, .ref aBf, .int (rn), .int (rr)])), (aS, .inl (cZ, 768, .inl (q.1))), (aPi, .inl (cI, 1600, .inl (q.2.1))), (aMd, .inl (cI, 24, .inl (fun w => nI (db_rk (K w))))), (aO1, .inl (cI, 24, .inl (db_one1 K X Nm))), (aT2, .inl (cI, 24, .inl (db_two2 K Y Nm))), (aFa, .inl (cI, 768, .inl (Fa))), (aSh, .inl (cI, 4, .inl (fun r => nI (RV r)))), (aMk, .inl (cI, 4, .inl (Ms)))] H locs → W p l e (headSpec wsM_demand { frames := 3, cells := 0, slots := 0, locals := 100 }).room s m [.ref m0, .ref aS, .int (0)].toArray below meth c H locs 0 0 Q (F0 m 84 ls []) := by
                intro zz
                induction zz with
                | zero => intro q ls H locs hz; exact absurd hz (Nat.not_lt_zero _)
                | succ zz L84_ih =>
                  intro q ls H locs hz hI hs hl hG
                  have hsc9 : q.2.2 ≤ db_sc q.1 := hI.1.2
                  have hsc8 := db_sc_le q.1
                  refine lv_aload_n hx hb dM_demand_84 rfl (lv_at hl 0 rfl) ?_
                  refine dw_get hx hb hts inMc hown hG 0 13 rfl rfl (by decide) hw507 rfl rfl dM_demand_85 ?_
                  refine lv_if_le (tgt := 180) hx hb dM_demand_88 (by decide) (fun h88 => ?_) (fun h88 => ?_)
                  · skip
                    replace h88 := (nI_leI (a := q.2.2) (b := 0) (by omega) (by omega)).mp h88
                    subst hQ
                    exact dw_vret hx hb hr hG (q) rfl (db_dinv_end hn hRV (show db_dinv n K X Y Nm f (fun _ => -1) R RV Ms (q.1, q.2.1, 0) by have e : q.2.2 = 0 := (by omega); rw [← e]; exact hI) hs) dM_demand_180 hlocks
                  replace h88 : ¬ q.2.2 ≤ 0 := fun hq0 => h88 ((nI_leI (a := q.2.2) (b := 0) (by omega) (by omega)).mpr hq0)
                  obtain ⟨p9, ep9⟩ : ∃ p9, q.2.2 = p9 + 1 := ⟨q.2.2 - 1, by omega⟩
                  obtain ⟨j9, hj1, ej9, hj3⟩ := hI.2.2.1 p9 (by omega)
                  have hI9 : db_dinv n K X Y Nm f (fun _ => -1) R RV Ms (q.1, q.2.1, p9 + 1) := by rw [← ep9]; exact hI
                  have hv9 : j9 / 32 < n := (hI.2.1 (j9 / 32) (j9 % 32) (Nat.mod_lt _ (by omega)) (by omega) (by rw [show 32 * (j9 / 32) + j9 % 32 = j9 by omega]; exact hj3)).2
                  have hjm : j9 % 32 < 32 := Nat.mod_lt _ (by omega)
                  refine lv_aload_n hx hb dM_demand_91 rfl (lv_at hl 0 rfl) ?_
                  refine lv_dup hx hb dM_demand_92 rfl ?_
                  refine dw_get hx hb hts inMc hown hG 0 13 rfl rfl (by decide) hw507 rfl rfl dM_demand_93 ?_
                  refine lv_iconst (v := 1) hx hb dM_demand_96 (by decide) ?_
                  refine lv_isub hx hb dM_demand_97 ?_
                  refine lv_topi (nm_r (show ((nI (q.2.2)) - (1) : Int32) = nI (p9) from (by have z := nI_pred p9; rw [← ep9] at z; exact z)) ?_)
                  refine dw_put (ws' := [(m0, .inr (5, [.int (ft), .int (nI (n)), .ref aMd, .ref aO1, .ref aT2, .int (nI (R)), .ref aSh, .ref aMk, .ref aFa, .ref aDe, .ref aNe, .ref aBy, .ref aPi, .int (nI (p9)), .ref aNw, .ref aNs, .ref aBf, .int (rn), .int (rr)])), (aS, .inl (cZ, 768, .inl (q.1))), (aPi, .inl (cI, 1600, .inl (q.2.1))), (aMd, .inl (cI, 24, .inl (fun w => nI (db_rk (K w))))), (aO1, .inl (cI, 24, .inl (db_one1 K X Nm))), (aT2, .inl (cI, 24, .inl (db_two2 K Y Nm))), (aFa, .inl (cI, 768, .inl (Fa))), (aSh, .inl (cI, 4, .inl (fun r => nI (RV r)))), (aMk, .inl (cI, 4, .inl (Ms)))]) hx hb hts inMc tyM tyM_ok nmM hown hG 0 13 rfl rfl (by decide) hw507 rfl rfl (ty := .int) (by decide +kernel) rfl rfl (Nat.le_of_ble_eq_true rfl) dM_demand_98 rfl (fun H locs hG => ?_)
                  refine lv_aload_n hx hb dM_demand_101 rfl (lv_at hl 0 rfl) ?_
                  refine dw_get hx hb hts inMc hown hG 0 12 rfl rfl (by decide) hw506 rfl rfl dM_demand_102 ?_
                  refine lv_aload_n hx hb dM_demand_105 rfl (lv_at hl 0 rfl) ?_
                  refine dw_get hx hb hts inMc hown hG 0 13 rfl rfl (by decide) hw507 rfl rfl dM_demand_106 ?_
                  refine dw_ia (x := nI (j9)) hx hb hG 2 0 rfl rfl (p9) rfl (by omega) (by decide) ej9 dM_demand_109 ?_
                  refine lv_bipush (v := 32) hx hb dM_demand_110 (by decide) ?_
                  refine lv_idiv hx hb dM_demand_112 (by decide) ?_
                  refine lv_topi (nm_r (show ((nI (j9)) / (32) : Int32) = nI (j9 / 32) from (pk_div (a := j9) (d := 32) (by omega) (by omega) (by omega))) ?_)
                  refine lv_istore_n (lv' := [(3, .int (nI (j9 / 32))), (0, .ref m0), (1, .ref aS), (2, .int (0))]) hx hb dM_demand_113 rfl hl (by decide) rfl (fun ls hl => ?_)
                  refine lv_aload_n hx hb dM_demand_114 rfl (lv_at hl 1 rfl) ?_
                  refine dw_get hx hb hts inMc hown hG 0 12 rfl rfl (by decide) hw506 rfl rfl dM_demand_115 ?_
                  refine lv_aload_n hx hb dM_demand_118 rfl (lv_at hl 1 rfl) ?_
                  refine dw_get hx hb hts inMc hown hG 0 13 rfl rfl (by decide) hw507 rfl rfl dM_demand_119 ?_
                  refine dw_ia (x := nI (j9)) hx hb hG 2 0 rfl rfl (p9) rfl (by omega) (by decide) ej9 dM_demand_122 ?_
                  refine lv_bipush (v := 32) hx hb dM_demand_123 (by decide) ?_
                  refine lv_irem hx hb dM_demand_125 (by decide) ?_
                  refine lv_topi (nm_r (show ((nI (j9)) - (nI (j9)) / (32) * (32) : Int32) = nI (j9 % 32) from (pk_rem (a := j9) (d := 32) (by omega) (by omega) (by omega))) ?_)
                  refine lv_istore (lv' := [(4, .int (nI (j9 % 32))), (3, .int (nI (j9 / 32))), (0, .ref m0), (1, .ref aS), (2, .int (0))]) hx hb dM_demand_126 hl (by decide) rfl (fun ls hl => ?_)
                  refine lv_iload_n hx hb dM_demand_128 rfl (lv_at hl 4 rfl) ?_
                  refine lv_if_eq (tgt := 142) hx hb dM_demand_129 (by decide) (fun h129 => ?_) (fun h129 => ?_)
                  · skip
                    replace h129 := (nI_eq (a := 0) (b := 0) (by omega) (by omega)).mp h129
                    refine lv_aload_n hx hb dM_demand_142 rfl (lv_at hl 2 rfl) ?_
                    refine lv_aload_n hx hb dM_demand_143 rfl (lv_at hl 3 rfl) ?_
                    refine lv_iload_n hx hb dM_demand_144 rfl (lv_at hl 1 rfl) ?_
                    refine lv_iload hx hb dM_demand_145 (lv_at hl 0 rfl) ?_
                    refine dw_callv (wc := [(m0, .inr (5, [.int (ft), .int (nI (n)), .ref aMd, .ref aO1, .ref aT2, .int (nI (R)), .ref aSh, .ref aMk, .ref aFa, .ref aDe, .ref aNe, .ref aBy, .ref aPi, .int (nI (p9)), .ref aNw, .ref aNs, .ref aBf, .int (rn), .int (rr)])), (aS, .inl (cZ, 768, .inl (q.1))), (aPi, .inl (cI, 1600, .inl (q.2.1))), (aMd, .inl (cI, 24, .inl (fun w => nI (db_rk (K w))))), (aO1, .inl (cI, 24, .inl (db_one1 K X Nm))), (aT2, .inl (cI, 24, .inl (db_two2 K Y Nm))), (aFa, .inl (cI, 768, .inl (Fa)))]) (wr := [(aSh, .inl (cI, 4, .inl (fun r => nI (RV r)))), (aMk, .inl (cI, 4, .inl (Ms)))]) hG [0, 1, 2, 3, 4, 5, 6] [7, 8] rfl rfl (by decide) (by decide) (va_runV (As := [.ref aS, .int (nI (j9 / 32)), .int (nI (j9 % 32))]) (rest := []) ⟨hx, hb, hml, hown, hts⟩ (rf_ask l dC dI cI cZ m0 aMd aO1 aT2 aSh aMk aFa aDe aNe aBy aPi aNw aNs aBf (p9) aS ft (nI n) (nI R) rn rr (j9 / 32) (j9 % 32) (X (j9 / 32)) (Y (j9 / 32)) (db_dist Nm (j9 / 32)) (q.1) (q.2.1) (fun w => nI (db_rk (K w))) (db_one1 K X Nm) (db_two2 K Y Nm) Fa (f.1 (X (j9 / 32))) (f.2 (X (j9 / 32))) (f.1 (Y (j9 / 32))) (f.2 (Y (j9 / 32))) (K (j9 / 32)) H.size (by omega) hjm (show db_ok (q.1, q.2.1, p9) from ⟨hI.1.1, by show p9 ≤ db_sc q.1; omega⟩) (hwf _ hv9).1 rfl (fun z => ⟨by have := (hwf _ hv9).2.1; omega, db_one_x z⟩) (fun z => ⟨by have := (hwf _ hv9).2.2.1; omega, db_two_y (by omega)⟩) (fun z => ⟨(db_dist_ok hwf hv9 z).1, by rw [db_two_d z]; exact (db_dist_ok hwf hv9 z).2⟩) (fun z => ⟨hfa _ (hwf _ hv9).2.1, hfa _ (hwf _ hv9).2.2.1, haps _ (hwf _ hv9).2.1, haps _ (hwf _ hv9).2.2.1⟩)) (dc_V 3 hts tw_648 tw_650 tp_M_ask tw_7 tw_651 rfl rfl (by decide +kernel) ⟨Nat.le_of_ble_eq_true rfl, Nat.le_of_ble_eq_true rfl⟩) (dw_preV (ci := 5) hG [0, 1, 2, 3, 4, 5, 6] [0, 1] rfl rfl (by decide) rfl rfl (q0 := 0) rfl) rfl rfl hl.1 rfl (lv_room (Nat.le_of_ble_eq_true rfl)) dM_demand_147 ⟨Nat.le_refl _, Nat.le_refl _⟩) (fun u32 H locs hu32 hG => ?_)
                    have hG : dw_G (dC, dI) vwCl [(cI, .int), (cZ, .boolean)] A s.heap s [(aSh, .inl (cI, 4, .inl (fun r => nI (RV r)))), (aMk, .inl (cI, 4, .inl (Ms))), (m0, .inr (5, [.int (ft), .int (nI (n)), .ref aMd, .ref aO1, .ref aT2, .int (nI (R)), .ref aSh, .ref aMk, .ref aFa, .ref aDe, .ref aNe, .ref aBy, .ref aPi, .int (nI (u32.2.2)), .ref aNw, .ref aNs, .ref aBf, .int (rn), .int (rr)])), (aS, .inl (cZ, 768, .inl (u32.1))), (aPi, .inl (cI, 1600, .inl (u32.2.1))), (aMd, .inl (cI, 24, .inl (fun w => nI (db_rk (K w))))), (aO1, .inl (cI, 24, .inl (db_one1 K X Nm))), (aT2, .inl (cI, 24, .inl (db_two2 K Y Nm))), (aFa, .inl (cI, 768, .inl (Fa)))] H locs := hG
                    refine lv_goto (tgt := 177) hx hb dM_demand_150 (by decide) ?_
                    refine lv_goto (tgt := 84) hx hb dM_demand_177 (by decide) ?_
                    have hg9 : db_asked (fun w b => db_asks K X Y Nm f (fun _ => -1) (j9 / 32) (j9 % 32) w b) (q.1, q.2.1, p9) u32 := (db_asked_congr hu32 (fun w b _ => (db_asks_A rfl).symm))
                    exact L84_ih (u32) ls H locs (Nat.lt_of_lt_of_le (db_pop_lt hg9) (by rw [ep9] at hz; exact Nat.le_of_lt_succ hz)) (db_dinv_pop hn hreach hI9 (Nat.mod_lt _ (by omega)) hv9 (by rw [ej9]; congr 1; omega) (by rw [show 32 * (j9 / 32) + j9 % 32 = j9 by omega]; exact hj3) hg9) (fun r2 hr2 b hb hm => hg9.1.1 _ (by have := hRV r2 hr2; omega) (hs r2 hr2 b hb hm)) (lv_sub hl [2, 3, 4] rfl) (dw_perm hG [2, 3, 4, 5, 6, 7, 8, 0, 1] (by decide) rfl rfl)
                  replace h129 : ¬ 0 = 0 := fun hq0 => h129 ((nI_eq (a := 0) (b := 0) (by omega) (by omega)).mpr hq0)
                  (exfalso; omega)
              exact L84 _ (q) ls H locs (Nat.lt_succ_self _) hI (fun r2 hr2 => hs r2 (by omega)) (lv_sub hl [0, 1, 2] rfl) hG
            replace h31 : ¬ R ≤ r := fun hq0 => h31 ((nI_leI (a := R) (b := r) (by omega) (by omega)).mpr hq0)
            refine lv_iconst (v := 0) hx hb dM_demand_34 (by decide) ?_
            refine lv_istore (lv' := [(4, .int (0)), (0, .ref m0), (1, .ref aS), (2, .int (0)), (3, .int (nI (r)))]) hx hb dM_demand_35 hl (by decide) rfl (fun ls hl => ?_)
            have L37 : ∀ (zz : Nat) (k : Nat) (q : db_Q) (ls : Array Slot) (H : Heap) (locs : List Loc), 32 - k < zz → k ≤ 32 → db_dinv n K X Y Nm f (fun _ => -1) R RV Ms q → (∀ r2, r2 < r → ∀ b, b < 32 → bt (Ms r2) b = true → q.1 (32 * RV r2 + b) = 1) → (∀ b, b < k → bt (Ms r) b = true → q.1 (32 * RV r + b) = 1) → lv_has ls 5 [(0, .ref m0), (1, .ref aS), (2, .int (0)), (3, .int (nI (r))), (4, .int (nI (k)))] → dw_G (dC, dI) vwCl [(cI, .int), (cZ, .boolean)] A s.heap s [(m0, .inr (5, [.int (ft), .int (nI (n)), .ref aMd, .ref aO1, .ref aT2, .int (nI (R)), .ref aSh, .ref aMk, .ref aFa, .ref aDe, .ref aNe, .ref aBy, .ref aPi, .int (nI (q.2.2)), .ref aNw, .ref aNs, .ref aBf, .int (rn), .int (rr)])), (aS, .inl (cZ, 768, .inl (q.1))), (aPi, .inl (cI, 1600, .inl (q.2.1))), (aMd, .inl (cI, 24, .inl (fun w => nI (db_rk (K w))))), (aO1, .inl (cI, 24, .inl (db_one1 K X Nm))), (aT2, .inl (cI, 24, .inl (db_two2 K Y Nm))), (aFa, .inl (cI, 768, .inl (Fa))), (aSh, .inl (cI, 4, .inl (fun r => nI (RV r)))), (aMk, .inl (cI, 4, .inl (Ms)))] H locs → W p l e (headSpec wsM_demand { frames := 3, cells := 0, slots := 0, locals := 100 }).room s m [.ref m0, .ref aS, .int (0)].toArray below meth c H locs 0 0 Q (F0 m 37 ls []) := by
              intro zz
              induction zz with
              | zero => intro k q ls H locs hz; exact absurd hz (Nat.not_lt_zero _)
              | succ zz L37_ih =>
                intro k q ls H locs hz hk hI hs hsk hl hG
                refine lv_iload hx hb dM_demand_37 (lv_at hl 4 rfl) ?_
                refine lv_bipush (v := 32) hx hb dM_demand_39 (by decide) ?_
                refine lv_icmp_ge (tgt := 78) hx hb dM_demand_41 (by decide) (fun h41 => ?_) (fun h41 => ?_)
                · skip
                  replace h41 := (nI_leI (a := 32) (b := k) (by omega) (by omega)).mp h41
                  refine lv_iinc (v := nI (r + 1)) (lv' := [(3, .int (nI (r + 1))), (0, .ref m0), (1, .ref aS), (2, .int (0)), (4, .int (nI (k)))]) hx hb dM_demand_78 hl (k := 3) rfl (dw_inc (r)) (by decide) rfl (fun ls hl => ?_)
                  refine lv_goto (tgt := 26) hx hb dM_demand_81 (by decide) ?_
                  exact L26_ih (r + 1) (q) ls H locs (by omega) (by omega) hI (fun r2 hr2 b hb hm => (Decidable.em (r2 = r)).elim (fun e => by rw [e] at hm ⊢; exact hsk b (by omega) hm) (fun e => hs r2 (by omega) b hb hm)) (lv_sub hl [1, 2, 3, 0] rfl) hG
                replace h41 : ¬ 32 ≤ k := fun hq0 => h41 ((nI_leI (a := 32) (b := k) (by omega) (by omega)).mpr hq0)
                refine lv_aload_n hx hb dM_demand_44 rfl (lv_at hl 0 rfl) ?_
                refine dw_get hx hb hts inMc hown hG 0 7 rfl rfl (by decide) hw501 rfl rfl dM_demand_45 ?_
                refine lv_iload_n hx hb dM_demand_48 rfl (lv_at hl 3 rfl) ?_
                refine dw_ia (x := (Ms) (r)) hx hb hG 8 0 rfl rfl (r) rfl (by omega) (by decide) rfl dM_demand_49 ?_
                refine lv_iload hx hb dM_demand_50 (lv_at hl 4 rfl) ?_
                refine dw_calli (wc := []) (wr := [(m0, .inr (5, [.int (ft), .int (nI (n)), .ref aMd, .ref aO1, .ref aT2, .int (nI (R)), .ref aSh, .ref aMk, .ref aFa, .ref aDe, .ref aNe, .ref aBy, .ref aPi, .int (nI (q.2.2)), .ref aNw, .ref aNs, .ref aBf, .int (rn), .int (rr)])), (aS, .inl (cZ, 768, .inl (q.1))), (aPi, .inl (cI, 1600, .inl (q.2.1))), (aMd, .inl (cI, 24, .inl (fun w => nI (db_rk (K w))))), (aO1, .inl (cI, 24, .inl (db_one1 K X Nm))), (aT2, .inl (cI, 24, .inl (db_two2 K Y Nm))), (aFa, .inl (cI, 768, .inl (Fa))), (aSh, .inl (cI, 4, .inl (fun r => nI (RV r)))), (aMk, .inl (cI, 4, .inl (Ms)))]) hG [] [0, 1, 2, 3, 4, 5, 6, 7, 8] rfl rfl (by decide) (by decide) (va_runS (As := [.int ((Ms) (r)), .int (nI (k))]) (rest := []) ⟨hx, hb, hml, hown, hts⟩ (rf_bit l dC dI cI cZ ((Ms) (r)) (nI (k)) H.size ) (dc_S 2 hts tw_630 tw_631 tw_7 tw_632 rfl rfl (by decide +kernel) ⟨Nat.le_of_ble_eq_true rfl, Nat.le_of_ble_eq_true rfl⟩) (dw_preS hG [] [0, 1] rfl rfl (by decide) rfl) rfl rfl hl.1 rfl (lv_room (Nat.le_of_ble_eq_true rfl)) dM_demand_52 ⟨Nat.le_refl _, Nat.le_refl _⟩) (fun r u H locs hp hG => ?_)
                subst hp
                have hG : dw_G (dC, dI) vwCl [(cI, .int), (cZ, .boolean)] A s.heap s [(m0, .inr (5, [.int (ft), .int (nI (n)), .ref aMd, .ref aO1, .ref aT2, .int (nI (R)), .ref aSh, .ref aMk, .ref aFa, .ref aDe, .ref aNe, .ref aBy, .ref aPi, .int (nI (q.2.2)), .ref aNw, .ref aNs, .ref aBf, .int (rn), .int (rr)])), (aS, .inl (cZ, 768, .inl (q.1))), (aPi, .inl (cI, 1600, .inl (q.2.1))), (aMd, .inl (cI, 24, .inl (fun w => nI (db_rk (K w))))), (aO1, .inl (cI, 24, .inl (db_one1 K X Nm))), (aT2, .inl (cI, 24, .inl (db_two2 K Y Nm))), (aFa, .inl (cI, 768, .inl (Fa))), (aSh, .inl (cI, 4, .inl (fun r => nI (RV r)))), (aMk, .inl (cI, 4, .inl (Ms)))] H locs := hG
                refine lv_iconst (v := 1) hx hb dM_demand_55 (by decide) ?_
                refine lv_icmp_ne (tgt := 72) hx hb dM_demand_56 (by decide) (fun h56 => ?_) (fun h56 => ?_)
                · skip
                  refine lv_iinc (v := nI (k + 1)) (lv' := [(4, .int (nI (k + 1))), (0, .ref m0), (1, .ref aS), (2, .int (0)), (3, .int (nI (r)))]) hx hb dM_demand_72 hl (k := 4) rfl (dw_inc (k)) (by decide) rfl (fun ls hl => ?_)
                  refine lv_goto (tgt := 37) hx hb dM_demand_75 (by decide) ?_
                  exact L37_ih (k + 1) (q) ls H locs (by omega) (by omega) hI hs (fun b hb hm => (Decidable.em (b = k)).elim (fun e => by rw [db_bit_ones _ (by omega)] at h56; rw [e] at hm; rw [if_pos hm] at h56; exact absurd rfl h56) (fun e => hsk b (by omega) hm)) (lv_sub hl [1, 2, 3, 4, 0] rfl) hG
                have hbit : bt (Ms r) k = true := by
                  rw [db_bit_ones _ (by omega)] at h56
                  cases hb9 : bt (Ms r) k
                  · rw [hb9] at h56; exact absurd h56 (by decide)
                  · rfl
                have hrv := hRV r (by omega)
                refine lv_aload_n hx hb dM_demand_59 rfl (lv_at hl 0 rfl) ?_
                refine lv_aload_n hx hb dM_demand_60 rfl (lv_at hl 1 rfl) ?_
                refine lv_aload_n hx hb dM_demand_61 rfl (lv_at hl 0 rfl) ?_
                refine dw_get hx hb hts inMc hown hG 0 6 rfl rfl (by decide) hw500 rfl rfl dM_demand_62 ?_
                refine lv_iload_n hx hb dM_demand_65 rfl (lv_at hl 3 rfl) ?_
                refine dw_ia (x := nI (RV r)) hx hb hG 7 0 rfl rfl (r) rfl (by omega) (by decide) rfl dM_demand_66 ?_
                refine lv_iload hx hb dM_demand_67 (lv_at hl 4 rfl) ?_
                refine dw_callv (wc := [(m0, .inr (5, [.int (ft), .int (nI (n)), .ref aMd, .ref aO1, .ref aT2, .int (nI (R)), .ref aSh, .ref aMk, .ref aFa, .ref aDe, .ref aNe, .ref aBy, .ref aPi, .int (nI (q.2.2)), .ref aNw, .ref aNs, .ref aBf, .int (rn), .int (rr)])), (aS, .inl (cZ, 768, .inl (q.1))), (aPi, .inl (cI, 1600, .inl (q.2.1)))]) (wr := [(aMd, .inl (cI, 24, .inl (fun w => nI (db_rk (K w))))), (aO1, .inl (cI, 24, .inl (db_one1 K X Nm))), (aT2, .inl (cI, 24, .inl (db_two2 K Y Nm))), (aFa, .inl (cI, 768, .inl (Fa))), (aSh, .inl (cI, 4, .inl (fun r => nI (RV r)))), (aMk, .inl (cI, 4, .inl (Ms)))]) hG [0, 1, 2] [3, 4, 5, 6, 7, 8] rfl rfl (by decide) (by decide) (va_runV (As := [.ref aS, .int (nI (RV r)), .int (nI (k))]) (rest := []) ⟨hx, hb, hml, hown, hts⟩ (rf_want l dC dI cI cZ m0 aMd aO1 aT2 aSh aMk aFa aDe aNe aBy aPi aNw aNs aBf (q.2.2) aS ft (nI n) (nI R) rn rr (RV r) (k) (q.1) (q.2.1) H.size (by omega) (by omega) hI.1) (dc_V 3 hts tw_644 tw_646 tp_M_want tw_7 tw_647 rfl rfl (by decide +kernel) ⟨Nat.le_of_ble_eq_true rfl, Nat.le_of_ble_eq_true rfl⟩) (dw_preV (ci := 5) hG [0, 1, 2] [0, 1] rfl rfl (by decide) rfl rfl (q0 := 0) rfl) rfl rfl hl.1 rfl (lv_room (Nat.le_of_ble_eq_true rfl)) dM_demand_69 ⟨Nat.le_refl _, Nat.le_refl _⟩) (fun u33 H locs hu33 hG => ?_)
                have hG : dw_G (dC, dI) vwCl [(cI, .int), (cZ, .boolean)] A s.heap s [(aMd, .inl (cI, 24, .inl (fun w => nI (db_rk (K w))))), (aO1, .inl (cI, 24, .inl (db_one1 K X Nm))), (aT2, .inl (cI, 24, .inl (db_two2 K Y Nm))), (aFa, .inl (cI, 768, .inl (Fa))), (aSh, .inl (cI, 4, .inl (fun r => nI (RV r)))), (aMk, .inl (cI, 4, .inl (Ms))), (m0, .inr (5, [.int (ft), .int (nI (n)), .ref aMd, .ref aO1, .ref aT2, .int (nI (R)), .ref aSh, .ref aMk, .ref aFa, .ref aDe, .ref aNe, .ref aBy, .ref aPi, .int (nI (u33.2.2)), .ref aNw, .ref aNs, .ref aBf, .int (rn), .int (rr)])), (aS, .inl (cZ, 768, .inl (u33.1))), (aPi, .inl (cI, 1600, .inl (u33.2.1)))] H locs := hG
                refine lv_iinc (v := nI (k + 1)) (lv' := [(4, .int (nI (k + 1))), (0, .ref m0), (1, .ref aS), (2, .int (0)), (3, .int (nI (r)))]) hx hb dM_demand_72 hl (k := 4) rfl (dw_inc (k)) (by decide) rfl (fun ls hl => ?_)
                refine lv_goto (tgt := 37) hx hb dM_demand_75 (by decide) ?_
                exact L37_ih (k + 1) (u33) ls H locs (by omega) (by omega) (db_dinv_grow hn hreach hI hu33 (fun w b hb e => by rw [e.1, e.2]; exact ⟨db_least_seed (by omega) (by omega) hbit, hRV r (by omega)⟩)) (fun r2 hr2 b hb hm => hu33.1.1 _ (by have := hRV r2 (by omega); omega) (hs r2 hr2 b hb hm)) (fun b hb hm => (Decidable.em (b = k)).elim (fun e => hu33.2 _ _ (by omega) ⟨rfl, e⟩) (fun e => hu33.1.1 _ (by have := hRV r (by omega); omega) (hsk b (by omega) hm))) (lv_sub hl [1, 2, 3, 4, 0] rfl) (dw_perm hG [6, 7, 8, 0, 1, 2, 3, 4, 5] (by decide) rfl rfl)
            exact L37 _ (0) (q) ls H locs (Nat.lt_succ_self _) (by omega) hI hs (fun b hb => by omega) (lv_sub hl [1, 2, 3, 4, 0] rfl) hG
        exact L26 _ (0) ((G, Pi, 0)) ls H locs (Nat.lt_succ_self _) (Nat.zero_le _) (db_dinv0 Pi (fun j hj => h0 j (by omega)) hn) (fun r2 hr2 => by omega) (lv_sub hl [1, 2, 3, 0] rfl) hG
      replace h6 : ¬ 768 ≤ k := fun hq0 => h6 ((nI_leI (a := 768) (b := k) (by omega) (by omega)).mpr hq0)
      refine lv_aload_n hx hb dM_demand_9 rfl (lv_at hl 1 rfl) ?_
      refine lv_iload_n hx hb dM_demand_10 rfl (lv_at hl 3 rfl) ?_
      refine lv_iconst (v := 0) hx hb dM_demand_11 (by decide) ?_
      refine dw_zs (ws' := [(m0, .inr (5, [.int (ft), .int (nI (n)), .ref aMd, .ref aO1, .ref aT2, .int (nI (R)), .ref aSh, .ref aMk, .ref aFa, .ref aDe, .ref aNe, .ref aBy, .ref aPi, .int (pd), .ref aNw, .ref aNs, .ref aBf, .int (rn), .int (rr)])), (aS, .inl (cZ, 768, .inl (upd (G) (k) (0)))), (aPi, .inl (cI, 1600, .inl (Pi))), (aMd, .inl (cI, 24, .inl (fun w => nI (db_rk (K w))))), (aO1, .inl (cI, 24, .inl (db_one1 K X Nm))), (aT2, .inl (cI, 24, .inl (db_two2 K Y Nm))), (aFa, .inl (cI, 768, .inl (Fa))), (aSh, .inl (cI, 4, .inl (fun r => nI (RV r)))), (aMk, .inl (cI, 4, .inl (Ms)))]) hx hb hG 1 1 rfl rfl (k) rfl (by omega) (by decide) rfl dM_demand_12 rfl (fun H locs hG => ?_)
      refine lv_iinc (v := nI (k + 1)) (lv' := [(3, .int (nI (k + 1))), (0, .ref m0), (1, .ref aS), (2, .int (0))]) hx hb dM_demand_13 hl (k := 3) rfl (dw_inc (k)) (by decide) rfl (fun ls hl => ?_)
      refine lv_goto (tgt := 2) hx hb dM_demand_16 (by decide) ?_
      exact L2_ih (k + 1) (upd (G) (k) (0)) ls H locs (by omega) (by omega) (fun j hj => (Decidable.em (j = k)).elim (fun e => by rw [e, pk_us]) (fun e => by rw [pk_un e]; exact h0 j (by omega))) (lv_sub hl [1, 2, 3, 0] rfl) hG
  exact L2 _ (0) (Se) ls H locs (Nat.lt_succ_self _) (by omega) (fun j hj => by omega) (lv_sub hl [1, 2, 3, 0] rfl) hG

set_option maxRecDepth 100000 in
set_option maxHeartbeats 4000000 in
theorem rf_demand1 (l : Launch) (dC : Nat → ClassId) (dI : Nat → Nat → Nat) (cI cZ : ClassId) (m0 aMd aO1 aT2 aSh aMk aFa aDe aNe aBy aPi aNw aNs aBf n R aS : Nat) (ft rn rr : Int32) (K X Y : Nat → Nat) (Nm : Nat → Int32) (f : db_Fs) (RV : Nat → Nat) (Ms Se Pi Fa : Nat → Int32) (pd : Int32) (Bw : Nat → Int32) (sz : Nat) (hn : n ≤ 24) (hR : R ≤ 4) (hwf : db_wf n K X Y Nm) (hRV : ∀ r, r < R → RV r < n) (hfa : db_reps n Fa f) (haps : db_aps n f) (hB : ∀ v, v < n → Bw v = -1 ∨ Bw v = -2 ∨ ∃ x, x < n ∧ Bw v = nI x) : Met l yM_demand wsM_demand { frames := 3, cells := 0, slots := 0, locals := 100 } (va_Pc [.ref m0, .ref aS, .int (1)] (dw_pre (dC, dI) vwCl [(m0, .inr (5, [.int (ft), .int (nI (n)), .ref aMd, .ref aO1, .ref aT2, .int (nI (R)), .ref aSh, .ref aMk, .ref aFa, .ref aDe, .ref aNe, .ref aBy, .ref aPi, .int (pd), .ref aNw, .ref aNs, .ref aBf, .int (rn), .int (rr)])), (aS, .inl (cZ, 768, .inl (Se))), (aPi, .inl (cI, 1600, .inl (Pi))), (aMd, .inl (cI, 24, .inl (fun w => nI (db_rk (K w))))), (aO1, .inl (cI, 24, .inl (db_one1 K X Nm))), (aT2, .inl (cI, 24, .inl (db_two2 K Y Nm))), (aFa, .inl (cI, 768, .inl (Fa))), (aSh, .inl (cI, 4, .inl (fun r => nI (RV r)))), (aMk, .inl (cI, 4, .inl (Ms))), (aBy, .inl (cI, 24, .inl (Bw)))] [(cI, .int), (cZ, .boolean)] sz)) (va_Qv (fun (u : db_Q) => ∀ v, v < n → db_set u.1 v (db_D n K X Y Nm f Bw R RV Ms v)) (fun u t => dw_post (dC, dI) vwCl [(m0, .inr (5, [.int (ft), .int (nI (n)), .ref aMd, .ref aO1, .ref aT2, .int (nI (R)), .ref aSh, .ref aMk, .ref aFa, .ref aDe, .ref aNe, .ref aBy, .ref aPi, .int (nI u.2.2), .ref aNw, .ref aNs, .ref aBf, .int (rn), .int (rr)])), (aS, .inl (cZ, 768, .inl (u.1))), (aPi, .inl (cI, 1600, .inl (u.2.1))), (aMd, .inl (cI, 24, .inl (fun w => nI (db_rk (K w))))), (aO1, .inl (cI, 24, .inl (db_one1 K X Nm))), (aT2, .inl (cI, 24, .inl (db_two2 K Y Nm))), (aFa, .inl (cI, 768, .inl (Fa))), (aSh, .inl (cI, 4, .inl (fun r => nI (RV r)))), (aMk, .inl (cI, 4, .inl (Ms))), (aBy, .inl (cI, 24, .inl (Bw)))] [(cI, .int), (cZ, .boolean)] (va_A [(m0, .inr (5, [.int (ft), .int (nI (n)), .ref aMd, .ref aO1, .ref aT2, .int (nI (R)), .ref aSh, .ref aMk, .ref aFa, .ref aDe, .ref aNe, .ref aBy, .ref aPi, .int (pd), .ref aNw, .ref aNs, .ref aBf, .int (rn), .int (rr)])), (aS, .inl (cZ, 768, .inl (Se))), (aPi, .inl (cI, 1600, .inl (Pi))), (aMd, .inl (cI, 24, .inl (fun w => nI (db_rk (K w))))), (aO1, .inl (cI, 24, .inl (db_one1 K X Nm))), (aT2, .inl (cI, 24, .inl (db_two2 K Y Nm))), (aFa, .inl (cI, 768, .inl (Fa))), (aSh, .inl (cI, 4, .inl (fun r => nI (RV r)))), (aMk, .inl (cI, 4, .inl (Ms))), (aBy, .inl (cI, 24, .inl (Bw)))] sz) t) (va_A [(m0, .inr (5, [.int (ft), .int (nI (n)), .ref aMd, .ref aO1, .ref aT2, .int (nI (R)), .ref aSh, .ref aMk, .ref aFa, .ref aDe, .ref aNe, .ref aBy, .ref aPi, .int (pd), .ref aNw, .ref aNs, .ref aBf, .int (rn), .int (rr)])), (aS, .inl (cZ, 768, .inl (Se))), (aPi, .inl (cI, 1600, .inl (Pi))), (aMd, .inl (cI, 24, .inl (fun w => nI (db_rk (K w))))), (aO1, .inl (cI, 24, .inl (db_one1 K X Nm))), (aT2, .inl (cI, 24, .inl (db_two2 K Y Nm))), (aFa, .inl (cI, 768, .inl (Fa))), (aSh, .inl (cI, 4, .inl (fun r => nI (RV r)))), (aMk, .inl (cI, 4, .inl (Ms))), (aBy, .inl (cI, 24, .inl (Bw)))] sz)) 0 0 (va_A [(m0, .inr (5, [.int (ft), .int (nI (n)), .ref aMd, .ref aO1, .ref aT2, .int (nI (R)), .ref aSh, .ref aMk, .ref aFa, .ref aDe, .ref aNe, .ref aBy, .ref aPi, .int (pd), .ref aNw, .ref aNs, .ref aBf, .int (rn), .int (rr)])), (aS, .inl (cZ, 768, .inl (Se))), (aPi, .inl (cI, 1600, .inl (Pi))), (aMd, .inl (cI, 24, .inl (fun w => nI (db_rk (K w))))), (aO1, .inl (cI, 24, .inl (db_one1 K X Nm))), (aT2, .inl (cI, 24, .inl (db_two2 K Y Nm))), (aFa, .inl (cI, 768, .inl (Fa))), (aSh, .inl (cI, 4, .inl (fun r => nI (RV r)))), (aMk, .inl (cI, 4, .inl (Ms))), (aBy, .inl (cI, 24, .inl (Bw)))] sz) := by
  refine Met.ofW (cc := cM_demand) (maxL := 5) (ret := none) (by decide) rfl ?_
  intro p e s m args below meth c s₁ B hml hv0
  have hx := B.exec
  have hb := B.bytes
  have hr := B.returns
  have hts := atoms_spec (ws := wsM_demand) B.pre
  have hown : s.vm.findClass RM = some m.cls := findClass_of_methodNamed B.named
  have hlocks := B.notSynchronized
  obtain ⟨rfl, hsz, hG⟩ := dw_enter hv0
  generalize va_A [(m0, .inr (5, [.int (ft), .int (nI (n)), .ref aMd, .ref aO1, .ref aT2, .int (nI (R)), .ref aSh, .ref aMk, .ref aFa, .ref aDe, .ref aNe, .ref aBy, .ref aPi, .int (pd), .ref aNw, .ref aNs, .ref aBf, .int (rn), .int (rr)])), (aS, .inl (cZ, 768, .inl (Se))), (aPi, .inl (cI, 1600, .inl (Pi))), (aMd, .inl (cI, 24, .inl (fun w => nI (db_rk (K w))))), (aO1, .inl (cI, 24, .inl (db_one1 K X Nm))), (aT2, .inl (cI, 24, .inl (db_two2 K Y Nm))), (aFa, .inl (cI, 768, .inl (Fa))), (aSh, .inl (cI, 4, .inl (fun r => nI (RV r)))), (aMk, .inl (cI, 4, .inl (Ms))), (aBy, .inl (cI, 24, .inl (Bw)))] sz = A at hG ⊢
  have hl := lv_entry ([.ref m0, .ref aS, .int (1)]) (n := 5) (Nat.le_of_ble_eq_true rfl)
  rw [lg_entry_eq]
  generalize (lg_sl ([.ref m0, .ref aS, .int (1)]) ++ List.replicate (5 - (lg_sl ([.ref m0, .ref aS, .int (1)])).length) Slot.unset).toArray = ls at hl ⊢
  have hl : lv_has ls 5 [(0, .ref m0), (1, .ref aS), (2, .int (1))] := hl
  have hw507 := hts _ (List.mem_cons_of_mem _ tw_507)
  have hw499 := hts _ (List.mem_cons_of_mem _ tw_499)
  have hw506 := hts _ (List.mem_cons_of_mem _ tw_506)
  have hw505 := hts _ (List.mem_cons_of_mem _ tw_505)
  have hw501 := hts _ (List.mem_cons_of_mem _ tw_501)
  have hw500 := hts _ (List.mem_cons_of_mem _ tw_500)
  have hreach : ∀ v a w b, v < n → db_asks K X Y Nm f Bw v a w b → w < n := by
    intro v a w b hv hs
    have q := hwf v hv
    rcases hB v hv with e | e | ⟨x, hx9, e⟩
    · rw [db_asks_A e] at hs; rcases hs with ⟨e, -⟩ | ⟨e, -⟩ <;> rw [e]; exact q.2.1; exact q.2.2.1
    · exact absurd hs (db_asks_F e)
    · rw [db_asks_X (by omega) e] at hs; omega
  refine dw_Q (fun Q hQ => ?_)
  suffices hgo : ∀ (H : Heap) (locs : List Loc), dw_G (dC, dI) vwCl [(cI, .int), (cZ, .boolean)] A s.heap s [(m0, .inr (5, [.int (ft), .int (nI (n)), .ref aMd, .ref aO1, .ref aT2, .int (nI (R)), .ref aSh, .ref aMk, .ref aFa, .ref aDe, .ref aNe, .ref aBy, .ref aPi, .int (pd), .ref aNw, .ref aNs, .ref aBf, .int (rn), .int (rr)])), (aS, .inl (cZ, 768, .inl (Se))), (aPi, .inl (cI, 1600, .inl (Pi))), (aMd, .inl (cI, 24, .inl (fun w => nI (db_rk (K w))))), (aO1, .inl (cI, 24, .inl (db_one1 K X Nm))), (aT2, .inl (cI, 24, .inl (db_two2 K Y Nm))), (aFa, .inl (cI, 768, .inl (Fa))), (aSh, .inl (cI, 4, .inl (fun r => nI (RV r)))), (aMk, .inl (cI, 4, .inl (Ms))), (aBy, .inl (cI, 24, .inl (Bw)))] H locs → W p l e (headSpec wsM_demand { frames := 3, cells := 0, slots := 0, locals := 100 }).room s m [.ref m0, .ref aS, .int (1)].toArray below meth c H locs 0 0 Q (F0 m 0 ls []) from hgo _ _ hG
  clear hG
  intro H locs hG
  refine lv_iconst (v := 0) hx hb dM_demand_0 (by decide) ?_
  refine lv_istore_n (lv' := [(3, .int (0)), (0, .ref m0), (1, .ref aS), (2, .int (1))]) hx hb dM_demand_1 rfl hl (by decide) rfl (fun ls hl => ?_)
  have L2 : ∀ (zz : Nat) (k : Nat) (G : Nat → Int32) (ls : Array Slot) (H : Heap) (locs : List Loc), 768 - k < zz → k ≤ 768 → (∀ j, j < k → G j = 0) → lv_has ls 5 [(0, .ref m0), (1, .ref aS), (2, .int (1)), (3, .int (nI (k)))] → dw_G (dC, dI) vwCl [(cI, .int), (cZ, .boolean)] A s.heap s [(m0, .inr (5, [.int (ft), .int (nI (n)), .ref aMd, .ref aO1, .ref aT2, .int (nI (R)), .ref aSh, .ref aMk, .ref aFa, .ref aDe, .ref aNe, .ref aBy, .ref aPi, .int (pd), .ref aNw, .ref aNs, .ref aBf, .int (rn), .int (rr)])), (aS, .inl (cZ, 768, .inl (G))), (aPi, .inl (cI, 1600, .inl (Pi))), (aMd, .inl (cI, 24, .inl (fun w => nI (db_rk (K w))))), (aO1, .inl (cI, 24, .inl (db_one1 K X Nm))), (aT2, .inl (cI, 24, .inl (db_two2 K Y Nm))), (aFa, .inl (cI, 768, .inl (Fa))), (aSh, .inl (cI, 4, .inl (fun r => nI (RV r)))), (aMk, .inl (cI, 4, .inl (Ms))), (aBy, .inl (cI, 24, .inl (Bw)))] H locs → W p l e (headSpec wsM_demand { frames := 3, cells := 0, slots := 0, locals := 100 }).room s m [.ref m0, .ref aS, .int (1)].toArray below meth c H locs 0 0 Q (F0 m 2 ls []) := by
    intro zz
    induction zz with
    | zero => intro k G ls H locs hz; exact absurd hz (Nat.not_lt_zero _)
    | succ zz L2_ih =>
      intro k G ls H locs hz hk h0 hl hG
      refine lv_iload_n hx hb dM_demand_2 rfl (lv_at hl 3 rfl) ?_
      refine lv_sipush (v := 768) hx hb dM_demand_3 (by decide) ?_
      refine lv_icmp_ge (tgt := 19) hx hb dM_demand_6 (by decide) (fun h6 => ?_) (fun h6 => ?_)
      · skip
        replace h6 := (nI_leI (a := 768) (b := k) (by omega) (by omega)).mp h6
        refine lv_aload_n hx hb dM_demand_19 rfl (lv_at hl 0 rfl) ?_
        refine lv_iconst (v := 0) hx hb dM_demand_20 (by decide) ?_
        refine dw_put (ws' := [(m0, .inr (5, [.int (ft), .int (nI (n)), .ref aMd, .ref aO1, .ref aT2, .int (nI (R)), .ref aSh, .ref aMk, .ref aFa, .ref aDe, .ref aNe, .ref aBy, .ref aPi, .int (0), .ref aNw, .ref aNs, .ref aBf, .int (rn), .int (rr)])), (aS, .inl (cZ, 768, .inl (G))), (aPi, .inl (cI, 1600, .inl (Pi))), (aMd, .inl (cI, 24, .inl (fun w => nI (db_rk (K w))))), (aO1, .inl (cI, 24, .inl (db_one1 K X Nm))), (aT2, .inl (cI, 24, .inl (db_two2 K Y Nm))), (aFa, .inl (cI, 768, .inl (Fa))), (aSh, .inl (cI, 4, .inl (fun r => nI (RV r)))), (aMk, .inl (cI, 4, .inl (Ms))), (aBy, .inl (cI, 24, .inl (Bw)))]) hx hb hts inMc tyM tyM_ok nmM hown hG 0 13 rfl rfl (by decide) hw507 rfl rfl (ty := .int) (by decide +kernel) rfl rfl (Nat.le_of_ble_eq_true rfl) dM_demand_21 rfl (fun H locs hG => ?_)
        refine lv_iconst (v := 0) hx hb dM_demand_24 (by decide) ?_
        refine lv_istore_n (lv' := [(3, .int (0)), (0, .ref m0), (1, .ref aS), (2, .int (1))]) hx hb dM_demand_25 rfl hl (by decide) rfl (fun ls hl => ?_)
        have L26 : ∀ (zz : Nat) (r : Nat) (q : db_Q) (ls : Array Slot) (H : Heap) (locs : List Loc), R - r < zz → r ≤ R → db_dinv n K X Y Nm f Bw R RV Ms q → (∀ r2, r2 < r → ∀ b, b < 32 → bt (Ms r2) b = true → q.1 (32 * RV r2 + b) = 1) → lv_has ls 5 [(0, .ref m0), (1, .ref aS), (2, .int (1)), (3, .int (nI (r)))] → dw_G (dC, dI) vwCl [(cI, .int), (cZ, .boolean)] A s.heap s [(m0, .inr (5, [.int (ft), .int (nI (n)), .ref aMd, .ref aO1, .ref aT2, .int (nI (R)), .ref aSh, .ref aMk, .ref aFa, .ref aDe, .ref aNe, .ref aBy, .ref aPi, .int (nI (q.2.2)), .ref aNw, .ref aNs, .ref aBf, .int (rn), .int (rr)])), (aS, .inl (cZ, 768, .inl (q.1))), (aPi, .inl (cI, 1600, .inl (q.2.1))), (aMd, .inl (cI, 24, .inl (fun w => nI (db_rk (K w))))), (aO1, .inl (cI, 24, .inl (db_one1 K X Nm))), (aT2, .inl (cI, 24, .inl (db_two2 K Y Nm))), (aFa, .inl (cI, 768, .inl (Fa))), (aSh, .inl (cI, 4, .inl (fun r => nI (RV r)))), (aMk, .inl (cI, 4, .inl (Ms))), (aBy, .inl (cI, 24, .inl (Bw)))] H locs → W p l e (headSpec wsM_demand { frames := 3, cells := 0, slots := 0, locals := 100 }).room s m [.ref m0, .ref aS, .int (1)].toArray below meth c H locs 0 0 Q (F0 m 26 ls []) := by
          intro zz
          induction zz with
          | zero => intro r q ls H locs hz; exact absurd hz (Nat.not_lt_zero _)
          | succ zz L26_ih =>
            intro r q ls H locs hz hr9 hI hs hl hG
            refine lv_iload_n hx hb dM_demand_26 rfl (lv_at hl 3 rfl) ?_
            refine lv_aload_n hx hb dM_demand_27 rfl (lv_at hl 0 rfl) ?_
            refine dw_get hx hb hts inMc hown hG 0 5 rfl rfl (by decide) hw499 rfl rfl dM_demand_28 ?_
            refine lv_icmp_ge (tgt := 84) hx hb dM_demand_31 (by decide) (fun h31 => ?_) (fun h31 => ?_)
            · skip
              replace h31 := (nI_leI (a := R) (b := r) (by omega) (by omega)).mp h31
              have L84 : ∀ (zz : Nat) (q : db_Q) (ls : Array Slot) (H : Heap) (locs : List Loc), 2 * (768 - db_sc q.1) + q.2.2 < zz → db_dinv n K X Y Nm f Bw R RV Ms q → (∀ r2, r2 < R → ∀ b, b < 32 → bt (Ms r2) b = true → q.1 (32 * RV r2 + b) = 1) → lv_has ls 5 [(0, .ref m0), (1, .ref aS), (2, .int (1))] → dw_G (dC, dI) vwCl [(cI, .int), (cZ, .boolean)] A s.heap s [(m0, .inr (5, [.int (ft), .int (nI (n)), .ref aMd, .ref aO1, .ref aT2, .int (nI (R)), .ref aSh, .ref aMk, .ref aFa, .ref aDe, .ref aNe, .ref aBy, .ref aPi, .int (nI (q.2.2)), .ref aNw, .ref aNs, .ref aBf, .int (rn), .int (rr)])), (aS, .inl (cZ, 768, .inl (q.1))), (aPi, .inl (cI, 1600, .inl (q.2.1))), (aMd, .inl (cI, 24, .inl (fun w => nI (db_rk (K w))))), (aO1, .inl (cI, 24, .inl (db_one1 K X Nm))), (aT2, .inl (cI, 24, .inl (db_two2 K Y Nm))), (aFa, .inl (cI, 768, .inl (Fa))), (aSh, .inl (cI, 4, .inl (fun r => nI (RV r)))), (aMk, .inl (cI, 4, .inl (Ms))), (aBy, .inl (cI, 24, .inl (Bw)))] H locs → W p l e (headSpec wsM_demand { frames := 3, cells := 0, slots := 0, locals := 100 }).room s m [.ref m0, .ref aS, .int (1)].toArray below meth c H locs 0 0 Q (F0 m 84 ls []) := by
                intro zz
                induction zz with
                | zero => intro q ls H locs hz; exact absurd hz (Nat.not_lt_zero _)
                | succ zz L84_ih =>
                  intro q ls H locs hz hI hs hl hG
                  have hsc9 : q.2.2 ≤ db_sc q.1 := hI.1.2
                  have hsc8 := db_sc_le q.1
                  refine lv_aload_n hx hb dM_demand_84 rfl (lv_at hl 0 rfl) ?_
                  refine dw_get hx hb hts inMc hown hG 0 13 rfl rfl (by decide) hw507 rfl rfl dM_demand_85 ?_
                  refine lv_if_le (tgt := 180) hx hb dM_demand_88 (by decide) (fun h88 => ?_) (fun h88 => ?_)
                  · skip
                    replace h88 := (nI_leI (a := q.2.2) (b := 0) (by omega) (by omega)).mp h88
                    subst hQ
                    exact dw_vret hx hb hr hG (q) rfl (db_dinv_end hn hRV (show db_dinv n K X Y Nm f Bw R RV Ms (q.1, q.2.1, 0) by have e : q.2.2 = 0 := (by omega); rw [← e]; exact hI) hs) dM_demand_180 hlocks
                  replace h88 : ¬ q.2.2 ≤ 0 := fun hq0 => h88 ((nI_leI (a := q.2.2) (b := 0) (by omega) (by omega)).mpr hq0)
                  obtain ⟨p9, ep9⟩ : ∃ p9, q.2.2 = p9 + 1 := ⟨q.2.2 - 1, by omega⟩
                  obtain ⟨j9, hj1, ej9, hj3⟩ := hI.2.2.1 p9 (by omega)
                  have hI9 : db_dinv n K X Y Nm f Bw R RV Ms (q.1, q.2.1, p9 + 1) := by rw [← ep9]; exact hI
                  have hv9 : j9 / 32 < n := (hI.2.1 (j9 / 32) (j9 % 32) (Nat.mod_lt _ (by omega)) (by omega) (by rw [show 32 * (j9 / 32) + j9 % 32 = j9 by omega]; exact hj3)).2
                  have hjm : j9 % 32 < 32 := Nat.mod_lt _ (by omega)
                  refine lv_aload_n hx hb dM_demand_91 rfl (lv_at hl 0 rfl) ?_
                  refine lv_dup hx hb dM_demand_92 rfl ?_
                  refine dw_get hx hb hts inMc hown hG 0 13 rfl rfl (by decide) hw507 rfl rfl dM_demand_93 ?_
                  refine lv_iconst (v := 1) hx hb dM_demand_96 (by decide) ?_
                  refine lv_isub hx hb dM_demand_97 ?_
                  refine lv_topi (nm_r (show ((nI (q.2.2)) - (1) : Int32) = nI (p9) from (by have z := nI_pred p9; rw [← ep9] at z; exact z)) ?_)
                  refine dw_put (ws' := [(m0, .inr (5, [.int (ft), .int (nI (n)), .ref aMd, .ref aO1, .ref aT2, .int (nI (R)), .ref aSh, .ref aMk, .ref aFa, .ref aDe, .ref aNe, .ref aBy, .ref aPi, .int (nI (p9)), .ref aNw, .ref aNs, .ref aBf, .int (rn), .int (rr)])), (aS, .inl (cZ, 768, .inl (q.1))), (aPi, .inl (cI, 1600, .inl (q.2.1))), (aMd, .inl (cI, 24, .inl (fun w => nI (db_rk (K w))))), (aO1, .inl (cI, 24, .inl (db_one1 K X Nm))), (aT2, .inl (cI, 24, .inl (db_two2 K Y Nm))), (aFa, .inl (cI, 768, .inl (Fa))), (aSh, .inl (cI, 4, .inl (fun r => nI (RV r)))), (aMk, .inl (cI, 4, .inl (Ms))), (aBy, .inl (cI, 24, .inl (Bw)))]) hx hb hts inMc tyM tyM_ok nmM hown hG 0 13 rfl rfl (by decide) hw507 rfl rfl (ty := .int) (by decide +kernel) rfl rfl (Nat.le_of_ble_eq_true rfl) dM_demand_98 rfl (fun H locs hG => ?_)
                  refine lv_aload_n hx hb dM_demand_101 rfl (lv_at hl 0 rfl) ?_
                  refine dw_get hx hb hts inMc hown hG 0 12 rfl rfl (by decide) hw506 rfl rfl dM_demand_102 ?_
                  refine lv_aload_n hx hb dM_demand_105 rfl (lv_at hl 0 rfl) ?_
                  refine dw_get hx hb hts inMc hown hG 0 13 rfl rfl (by decide) hw507 rfl rfl dM_demand_106 ?_
                  refine dw_ia (x := nI (j9)) hx hb hG 2 0 rfl rfl (p9) rfl (by omega) (by decide) ej9 dM_demand_109 ?_
                  refine lv_bipush (v := 32) hx hb dM_demand_110 (by decide) ?_
                  refine lv_idiv hx hb dM_demand_112 (by decide) ?_
                  refine lv_topi (nm_r (show ((nI (j9)) / (32) : Int32) = nI (j9 / 32) from (pk_div (a := j9) (d := 32) (by omega) (by omega) (by omega))) ?_)
                  refine lv_istore_n (lv' := [(3, .int (nI (j9 / 32))), (0, .ref m0), (1, .ref aS), (2, .int (1))]) hx hb dM_demand_113 rfl hl (by decide) rfl (fun ls hl => ?_)
                  refine lv_aload_n hx hb dM_demand_114 rfl (lv_at hl 1 rfl) ?_
                  refine dw_get hx hb hts inMc hown hG 0 12 rfl rfl (by decide) hw506 rfl rfl dM_demand_115 ?_
                  refine lv_aload_n hx hb dM_demand_118 rfl (lv_at hl 1 rfl) ?_
                  refine dw_get hx hb hts inMc hown hG 0 13 rfl rfl (by decide) hw507 rfl rfl dM_demand_119 ?_
                  refine dw_ia (x := nI (j9)) hx hb hG 2 0 rfl rfl (p9) rfl (by omega) (by decide) ej9 dM_demand_122 ?_
                  refine lv_bipush (v := 32) hx hb dM_demand_123 (by decide) ?_
                  refine lv_irem hx hb dM_demand_125 (by decide) ?_
                  refine lv_topi (nm_r (show ((nI (j9)) - (nI (j9)) / (32) * (32) : Int32) = nI (j9 % 32) from (pk_rem (a := j9) (d := 32) (by omega) (by omega) (by omega))) ?_)
                  refine lv_istore (lv' := [(4, .int (nI (j9 % 32))), (3, .int (nI (j9 / 32))), (0, .ref m0), (1, .ref aS), (2, .int (1))]) hx hb dM_demand_126 hl (by decide) rfl (fun ls hl => ?_)
                  refine lv_iload_n hx hb dM_demand_128 rfl (lv_at hl 4 rfl) ?_
                  refine lv_if_eq (tgt := 142) hx hb dM_demand_129 (by decide) (fun h129 => ?_) (fun h129 => ?_)
                  · skip
                    replace h129 := (nI_eq (a := 1) (b := 0) (by omega) (by omega)).mp h129
                    (exfalso; omega)
                  replace h129 : ¬ 1 = 0 := fun hq0 => h129 ((nI_eq (a := 1) (b := 0) (by omega) (by omega)).mpr hq0)
                  refine lv_aload_n hx hb dM_demand_132 rfl (lv_at hl 2 rfl) ?_
                  refine dw_get hx hb hts inMc hown hG 0 11 rfl rfl (by decide) hw505 rfl rfl dM_demand_133 ?_
                  refine lv_iload_n hx hb dM_demand_136 rfl (lv_at hl 1 rfl) ?_
                  refine dw_ia (x := Bw (j9 / 32)) hx hb hG 9 0 rfl rfl (j9 / 32) rfl (by omega) (by decide) rfl dM_demand_137 ?_
                  refine lv_iconst (v := -1) hx hb dM_demand_138 (by decide) ?_
                  refine lv_icmp_ne (tgt := 153) hx hb dM_demand_139 (by decide) (fun h139 => ?_) (fun h139 => ?_)
                  · skip
                    refine lv_aload_n hx hb dM_demand_153 rfl (lv_at hl 2 rfl) ?_
                    refine dw_get hx hb hts inMc hown hG 0 11 rfl rfl (by decide) hw505 rfl rfl dM_demand_154 ?_
                    refine lv_iload_n hx hb dM_demand_157 rfl (lv_at hl 1 rfl) ?_
                    refine dw_ia (x := Bw (j9 / 32)) hx hb hG 9 0 rfl rfl (j9 / 32) rfl (by omega) (by decide) rfl dM_demand_158 ?_
                    refine lv_bipush (v := -2) hx hb dM_demand_159 (by decide) ?_
                    refine lv_icmp_eq (tgt := 177) hx hb dM_demand_161 (by decide) (fun h161 => ?_) (fun h161 => ?_)
                    · skip
                      refine lv_goto (tgt := 84) hx hb dM_demand_177 (by decide) ?_
                      have hg9 : db_asked (fun w b => db_asks K X Y Nm f Bw (j9 / 32) (j9 % 32) w b) (q.1, q.2.1, p9) (q.1, q.2.1, p9) := (db_asked_0 _ (q.1, q.2.1, p9) (fun w b _ => db_asks_F h161))
                      exact L84_ih ((q.1, q.2.1, p9)) ls H locs (Nat.lt_of_lt_of_le (db_pop_lt hg9) (by rw [ep9] at hz; exact Nat.le_of_lt_succ hz)) (db_dinv_pop hn hreach hI9 (Nat.mod_lt _ (by omega)) hv9 (by rw [ej9]; congr 1; omega) (by rw [show 32 * (j9 / 32) + j9 % 32 = j9 by omega]; exact hj3) hg9) (fun r2 hr2 b hb hm => hg9.1.1 _ (by have := hRV r2 hr2; omega) (hs r2 hr2 b hb hm)) (lv_sub hl [2, 3, 4] rfl) hG
                    obtain ⟨x9, hx9, ex9⟩ : ∃ x, x < n ∧ Bw (j9 / 32) = nI x := by
                      rcases hB (j9 / 32) hv9 with e | e | e
                      · exact absurd e h139
                      · exact absurd e h161
                      · exact e
                    refine lv_aload_n hx hb dM_demand_164 rfl (lv_at hl 2 rfl) ?_
                    refine lv_aload_n hx hb dM_demand_165 rfl (lv_at hl 3 rfl) ?_
                    refine lv_aload_n hx hb dM_demand_166 rfl (lv_at hl 2 rfl) ?_
                    refine dw_get hx hb hts inMc hown hG 0 11 rfl rfl (by decide) hw505 rfl rfl dM_demand_167 ?_
                    refine lv_iload_n hx hb dM_demand_170 rfl (lv_at hl 1 rfl) ?_
                    refine dw_ia (x := nI (x9)) hx hb hG 9 0 rfl rfl (j9 / 32) rfl (by omega) (by decide) ex9 dM_demand_171 ?_
                    refine lv_iload hx hb dM_demand_172 (lv_at hl 0 rfl) ?_
                    refine dw_callv (wc := [(m0, .inr (5, [.int (ft), .int (nI (n)), .ref aMd, .ref aO1, .ref aT2, .int (nI (R)), .ref aSh, .ref aMk, .ref aFa, .ref aDe, .ref aNe, .ref aBy, .ref aPi, .int (nI (p9)), .ref aNw, .ref aNs, .ref aBf, .int (rn), .int (rr)])), (aS, .inl (cZ, 768, .inl (q.1))), (aPi, .inl (cI, 1600, .inl (q.2.1)))]) (wr := [(aMd, .inl (cI, 24, .inl (fun w => nI (db_rk (K w))))), (aO1, .inl (cI, 24, .inl (db_one1 K X Nm))), (aT2, .inl (cI, 24, .inl (db_two2 K Y Nm))), (aFa, .inl (cI, 768, .inl (Fa))), (aSh, .inl (cI, 4, .inl (fun r => nI (RV r)))), (aMk, .inl (cI, 4, .inl (Ms))), (aBy, .inl (cI, 24, .inl (Bw)))]) hG [0, 1, 2] [3, 4, 5, 6, 7, 8, 9] rfl rfl (by decide) (by decide) (va_runV (As := [.ref aS, .int (nI (x9)), .int (nI (j9 % 32))]) (rest := []) ⟨hx, hb, hml, hown, hts⟩ (rf_want l dC dI cI cZ m0 aMd aO1 aT2 aSh aMk aFa aDe aNe aBy aPi aNw aNs aBf (p9) aS ft (nI n) (nI R) rn rr (x9) (j9 % 32) (q.1) (q.2.1) H.size (by omega) (by omega) (show db_ok (q.1, q.2.1, p9) from ⟨hI.1.1, by show p9 ≤ db_sc q.1; omega⟩)) (dc_V 3 hts tw_644 tw_646 tp_M_want tw_7 tw_647 rfl rfl (by decide +kernel) ⟨Nat.le_of_ble_eq_true rfl, Nat.le_of_ble_eq_true rfl⟩) (dw_preV (ci := 5) hG [0, 1, 2] [0, 1] rfl rfl (by decide) rfl rfl (q0 := 0) rfl) rfl rfl hl.1 rfl (lv_room (Nat.le_of_ble_eq_true rfl)) dM_demand_174 ⟨Nat.le_refl _, Nat.le_refl _⟩) (fun u34 H locs hu34 hG => ?_)
                    have hG : dw_G (dC, dI) vwCl [(cI, .int), (cZ, .boolean)] A s.heap s [(aMd, .inl (cI, 24, .inl (fun w => nI (db_rk (K w))))), (aO1, .inl (cI, 24, .inl (db_one1 K X Nm))), (aT2, .inl (cI, 24, .inl (db_two2 K Y Nm))), (aFa, .inl (cI, 768, .inl (Fa))), (aSh, .inl (cI, 4, .inl (fun r => nI (RV r)))), (aMk, .inl (cI, 4, .inl (Ms))), (aBy, .inl (cI, 24, .inl (Bw))), (m0, .inr (5, [.int (ft), .int (nI (n)), .ref aMd, .ref aO1, .ref aT2, .int (nI (R)), .ref aSh, .ref aMk, .ref aFa, .ref aDe, .ref aNe, .ref aBy, .ref aPi, .int (nI (u34.2.2)), .ref aNw, .ref aNs, .ref aBf, .int (rn), .int (rr)])), (aS, .inl (cZ, 768, .inl (u34.1))), (aPi, .inl (cI, 1600, .inl (u34.2.1)))] H locs := hG
                    refine lv_goto (tgt := 84) hx hb dM_demand_177 (by decide) ?_
                    have hg9 : db_asked (fun w b => db_asks K X Y Nm f Bw (j9 / 32) (j9 % 32) w b) (q.1, q.2.1, p9) u34 := (db_asked_congr hu34 (fun w b _ => (db_asks_X (by omega) ex9).symm))
                    exact L84_ih (u34) ls H locs (Nat.lt_of_lt_of_le (db_pop_lt hg9) (by rw [ep9] at hz; exact Nat.le_of_lt_succ hz)) (db_dinv_pop hn hreach hI9 (Nat.mod_lt _ (by omega)) hv9 (by rw [ej9]; congr 1; omega) (by rw [show 32 * (j9 / 32) + j9 % 32 = j9 by omega]; exact hj3) hg9) (fun r2 hr2 b hb hm => hg9.1.1 _ (by have := hRV r2 hr2; omega) (hs r2 hr2 b hb hm)) (lv_sub hl [2, 3, 4] rfl) (dw_perm hG [7, 8, 9, 0, 1, 2, 3, 4, 5, 6] (by decide) rfl rfl)
                  refine lv_aload_n hx hb dM_demand_142 rfl (lv_at hl 2 rfl) ?_
                  refine lv_aload_n hx hb dM_demand_143 rfl (lv_at hl 3 rfl) ?_
                  refine lv_iload_n hx hb dM_demand_144 rfl (lv_at hl 1 rfl) ?_
                  refine lv_iload hx hb dM_demand_145 (lv_at hl 0 rfl) ?_
                  refine dw_callv (wc := [(m0, .inr (5, [.int (ft), .int (nI (n)), .ref aMd, .ref aO1, .ref aT2, .int (nI (R)), .ref aSh, .ref aMk, .ref aFa, .ref aDe, .ref aNe, .ref aBy, .ref aPi, .int (nI (p9)), .ref aNw, .ref aNs, .ref aBf, .int (rn), .int (rr)])), (aS, .inl (cZ, 768, .inl (q.1))), (aPi, .inl (cI, 1600, .inl (q.2.1))), (aMd, .inl (cI, 24, .inl (fun w => nI (db_rk (K w))))), (aO1, .inl (cI, 24, .inl (db_one1 K X Nm))), (aT2, .inl (cI, 24, .inl (db_two2 K Y Nm))), (aFa, .inl (cI, 768, .inl (Fa)))]) (wr := [(aSh, .inl (cI, 4, .inl (fun r => nI (RV r)))), (aMk, .inl (cI, 4, .inl (Ms))), (aBy, .inl (cI, 24, .inl (Bw)))]) hG [0, 1, 2, 3, 4, 5, 6] [7, 8, 9] rfl rfl (by decide) (by decide) (va_runV (As := [.ref aS, .int (nI (j9 / 32)), .int (nI (j9 % 32))]) (rest := []) ⟨hx, hb, hml, hown, hts⟩ (rf_ask l dC dI cI cZ m0 aMd aO1 aT2 aSh aMk aFa aDe aNe aBy aPi aNw aNs aBf (p9) aS ft (nI n) (nI R) rn rr (j9 / 32) (j9 % 32) (X (j9 / 32)) (Y (j9 / 32)) (db_dist Nm (j9 / 32)) (q.1) (q.2.1) (fun w => nI (db_rk (K w))) (db_one1 K X Nm) (db_two2 K Y Nm) Fa (f.1 (X (j9 / 32))) (f.2 (X (j9 / 32))) (f.1 (Y (j9 / 32))) (f.2 (Y (j9 / 32))) (K (j9 / 32)) H.size (by omega) hjm (show db_ok (q.1, q.2.1, p9) from ⟨hI.1.1, by show p9 ≤ db_sc q.1; omega⟩) (hwf _ hv9).1 rfl (fun z => ⟨by have := (hwf _ hv9).2.1; omega, db_one_x z⟩) (fun z => ⟨by have := (hwf _ hv9).2.2.1; omega, db_two_y (by omega)⟩) (fun z => ⟨(db_dist_ok hwf hv9 z).1, by rw [db_two_d z]; exact (db_dist_ok hwf hv9 z).2⟩) (fun z => ⟨hfa _ (hwf _ hv9).2.1, hfa _ (hwf _ hv9).2.2.1, haps _ (hwf _ hv9).2.1, haps _ (hwf _ hv9).2.2.1⟩)) (dc_V 3 hts tw_648 tw_650 tp_M_ask tw_7 tw_651 rfl rfl (by decide +kernel) ⟨Nat.le_of_ble_eq_true rfl, Nat.le_of_ble_eq_true rfl⟩) (dw_preV (ci := 5) hG [0, 1, 2, 3, 4, 5, 6] [0, 1] rfl rfl (by decide) rfl rfl (q0 := 0) rfl) rfl rfl hl.1 rfl (lv_room (Nat.le_of_ble_eq_true rfl)) dM_demand_147 ⟨Nat.le_refl _, Nat.le_refl _⟩) (fun u35 H locs hu35 hG => ?_)
                  have hG : dw_G (dC, dI) vwCl [(cI, .int), (cZ, .boolean)] A s.heap s [(aSh, .inl (cI, 4, .inl (fun r => nI (RV r)))), (aMk, .inl (cI, 4, .inl (Ms))), (aBy, .inl (cI, 24, .inl (Bw))), (m0, .inr (5, [.int (ft), .int (nI (n)), .ref aMd, .ref aO1, .ref aT2, .int (nI (R)), .ref aSh, .ref aMk, .ref aFa, .ref aDe, .ref aNe, .ref aBy, .ref aPi, .int (nI (u35.2.2)), .ref aNw, .ref aNs, .ref aBf, .int (rn), .int (rr)])), (aS, .inl (cZ, 768, .inl (u35.1))), (aPi, .inl (cI, 1600, .inl (u35.2.1))), (aMd, .inl (cI, 24, .inl (fun w => nI (db_rk (K w))))), (aO1, .inl (cI, 24, .inl (db_one1 K X Nm))), (aT2, .inl (cI, 24, .inl (db_two2 K Y Nm))), (aFa, .inl (cI, 768, .inl (Fa)))] H locs := hG
                  refine lv_goto (tgt := 177) hx hb dM_demand_150 (by decide) ?_
                  refine lv_goto (tgt := 84) hx hb dM_demand_177 (by decide) ?_
                  have hg9 : db_asked (fun w b => db_asks K X Y Nm f Bw (j9 / 32) (j9 % 32) w b) (q.1, q.2.1, p9) u35 := (db_asked_congr hu35 (fun w b _ => (db_asks_A h139).symm))
                  exact L84_ih (u35) ls H locs (Nat.lt_of_lt_of_le (db_pop_lt hg9) (by rw [ep9] at hz; exact Nat.le_of_lt_succ hz)) (db_dinv_pop hn hreach hI9 (Nat.mod_lt _ (by omega)) hv9 (by rw [ej9]; congr 1; omega) (by rw [show 32 * (j9 / 32) + j9 % 32 = j9 by omega]; exact hj3) hg9) (fun r2 hr2 b hb hm => hg9.1.1 _ (by have := hRV r2 hr2; omega) (hs r2 hr2 b hb hm)) (lv_sub hl [2, 3, 4] rfl) (dw_perm hG [3, 4, 5, 6, 7, 8, 9, 0, 1, 2] (by decide) rfl rfl)
              exact L84 _ (q) ls H locs (Nat.lt_succ_self _) hI (fun r2 hr2 => hs r2 (by omega)) (lv_sub hl [0, 1, 2] rfl) hG
            replace h31 : ¬ R ≤ r := fun hq0 => h31 ((nI_leI (a := R) (b := r) (by omega) (by omega)).mpr hq0)
            refine lv_iconst (v := 0) hx hb dM_demand_34 (by decide) ?_
            refine lv_istore (lv' := [(4, .int (0)), (0, .ref m0), (1, .ref aS), (2, .int (1)), (3, .int (nI (r)))]) hx hb dM_demand_35 hl (by decide) rfl (fun ls hl => ?_)
            have L37 : ∀ (zz : Nat) (k : Nat) (q : db_Q) (ls : Array Slot) (H : Heap) (locs : List Loc), 32 - k < zz → k ≤ 32 → db_dinv n K X Y Nm f Bw R RV Ms q → (∀ r2, r2 < r → ∀ b, b < 32 → bt (Ms r2) b = true → q.1 (32 * RV r2 + b) = 1) → (∀ b, b < k → bt (Ms r) b = true → q.1 (32 * RV r + b) = 1) → lv_has ls 5 [(0, .ref m0), (1, .ref aS), (2, .int (1)), (3, .int (nI (r))), (4, .int (nI (k)))] → dw_G (dC, dI) vwCl [(cI, .int), (cZ, .boolean)] A s.heap s [(m0, .inr (5, [.int (ft), .int (nI (n)), .ref aMd, .ref aO1, .ref aT2, .int (nI (R)), .ref aSh, .ref aMk, .ref aFa, .ref aDe, .ref aNe, .ref aBy, .ref aPi, .int (nI (q.2.2)), .ref aNw, .ref aNs, .ref aBf, .int (rn), .int (rr)])), (aS, .inl (cZ, 768, .inl (q.1))), (aPi, .inl (cI, 1600, .inl (q.2.1))), (aMd, .inl (cI, 24, .inl (fun w => nI (db_rk (K w))))), (aO1, .inl (cI, 24, .inl (db_one1 K X Nm))), (aT2, .inl (cI, 24, .inl (db_two2 K Y Nm))), (aFa, .inl (cI, 768, .inl (Fa))), (aSh, .inl (cI, 4, .inl (fun r => nI (RV r)))), (aMk, .inl (cI, 4, .inl (Ms))), (aBy, .inl (cI, 24, .inl (Bw)))] H locs → W p l e (headSpec wsM_demand { frames := 3, cells := 0, slots := 0, locals := 100 }).room s m [.ref m0, .ref aS, .int (1)].toArray below meth c H locs 0 0 Q (F0 m 37 ls []) := by
              intro zz
              induction zz with
              | zero => intro k q ls H locs hz; exact absurd hz (Nat.not_lt_zero _)
              | succ zz L37_ih =>
                intro k q ls H locs hz hk hI hs hsk hl hG
                refine lv_iload hx hb dM_demand_37 (lv_at hl 4 rfl) ?_
                refine lv_bipush (v := 32) hx hb dM_demand_39 (by decide) ?_
                refine lv_icmp_ge (tgt := 78) hx hb dM_demand_41 (by decide) (fun h41 => ?_) (fun h41 => ?_)
                · skip
                  replace h41 := (nI_leI (a := 32) (b := k) (by omega) (by omega)).mp h41
                  refine lv_iinc (v := nI (r + 1)) (lv' := [(3, .int (nI (r + 1))), (0, .ref m0), (1, .ref aS), (2, .int (1)), (4, .int (nI (k)))]) hx hb dM_demand_78 hl (k := 3) rfl (dw_inc (r)) (by decide) rfl (fun ls hl => ?_)
                  refine lv_goto (tgt := 26) hx hb dM_demand_81 (by decide) ?_
                  exact L26_ih (r + 1) (q) ls H locs (by omega) (by omega) hI (fun r2 hr2 b hb hm => (Decidable.em (r2 = r)).elim (fun e => by rw [e] at hm ⊢; exact hsk b (by omega) hm) (fun e => hs r2 (by omega) b hb hm)) (lv_sub hl [1, 2, 3, 0] rfl) hG
                replace h41 : ¬ 32 ≤ k := fun hq0 => h41 ((nI_leI (a := 32) (b := k) (by omega) (by omega)).mpr hq0)
                refine lv_aload_n hx hb dM_demand_44 rfl (lv_at hl 0 rfl) ?_
                refine dw_get hx hb hts inMc hown hG 0 7 rfl rfl (by decide) hw501 rfl rfl dM_demand_45 ?_
                refine lv_iload_n hx hb dM_demand_48 rfl (lv_at hl 3 rfl) ?_
                refine dw_ia (x := (Ms) (r)) hx hb hG 8 0 rfl rfl (r) rfl (by omega) (by decide) rfl dM_demand_49 ?_
                refine lv_iload hx hb dM_demand_50 (lv_at hl 4 rfl) ?_
                refine dw_calli (wc := []) (wr := [(m0, .inr (5, [.int (ft), .int (nI (n)), .ref aMd, .ref aO1, .ref aT2, .int (nI (R)), .ref aSh, .ref aMk, .ref aFa, .ref aDe, .ref aNe, .ref aBy, .ref aPi, .int (nI (q.2.2)), .ref aNw, .ref aNs, .ref aBf, .int (rn), .int (rr)])), (aS, .inl (cZ, 768, .inl (q.1))), (aPi, .inl (cI, 1600, .inl (q.2.1))), (aMd, .inl (cI, 24, .inl (fun w => nI (db_rk (K w))))), (aO1, .inl (cI, 24, .inl (db_one1 K X Nm))), (aT2, .inl (cI, 24, .inl (db_two2 K Y Nm))), (aFa, .inl (cI, 768, .inl (Fa))), (aSh, .inl (cI, 4, .inl (fun r => nI (RV r)))), (aMk, .inl (cI, 4, .inl (Ms))), (aBy, .inl (cI, 24, .inl (Bw)))]) hG [] [0, 1, 2, 3, 4, 5, 6, 7, 8, 9] rfl rfl (by decide) (by decide) (va_runS (As := [.int ((Ms) (r)), .int (nI (k))]) (rest := []) ⟨hx, hb, hml, hown, hts⟩ (rf_bit l dC dI cI cZ ((Ms) (r)) (nI (k)) H.size ) (dc_S 2 hts tw_630 tw_631 tw_7 tw_632 rfl rfl (by decide +kernel) ⟨Nat.le_of_ble_eq_true rfl, Nat.le_of_ble_eq_true rfl⟩) (dw_preS hG [] [0, 1] rfl rfl (by decide) rfl) rfl rfl hl.1 rfl (lv_room (Nat.le_of_ble_eq_true rfl)) dM_demand_52 ⟨Nat.le_refl _, Nat.le_refl _⟩) (fun r u H locs hp hG => ?_)
                subst hp
                have hG : dw_G (dC, dI) vwCl [(cI, .int), (cZ, .boolean)] A s.heap s [(m0, .inr (5, [.int (ft), .int (nI (n)), .ref aMd, .ref aO1, .ref aT2, .int (nI (R)), .ref aSh, .ref aMk, .ref aFa, .ref aDe, .ref aNe, .ref aBy, .ref aPi, .int (nI (q.2.2)), .ref aNw, .ref aNs, .ref aBf, .int (rn), .int (rr)])), (aS, .inl (cZ, 768, .inl (q.1))), (aPi, .inl (cI, 1600, .inl (q.2.1))), (aMd, .inl (cI, 24, .inl (fun w => nI (db_rk (K w))))), (aO1, .inl (cI, 24, .inl (db_one1 K X Nm))), (aT2, .inl (cI, 24, .inl (db_two2 K Y Nm))), (aFa, .inl (cI, 768, .inl (Fa))), (aSh, .inl (cI, 4, .inl (fun r => nI (RV r)))), (aMk, .inl (cI, 4, .inl (Ms))), (aBy, .inl (cI, 24, .inl (Bw)))] H locs := hG
                refine lv_iconst (v := 1) hx hb dM_demand_55 (by decide) ?_
                refine lv_icmp_ne (tgt := 72) hx hb dM_demand_56 (by decide) (fun h56 => ?_) (fun h56 => ?_)
                · skip
                  refine lv_iinc (v := nI (k + 1)) (lv' := [(4, .int (nI (k + 1))), (0, .ref m0), (1, .ref aS), (2, .int (1)), (3, .int (nI (r)))]) hx hb dM_demand_72 hl (k := 4) rfl (dw_inc (k)) (by decide) rfl (fun ls hl => ?_)
                  refine lv_goto (tgt := 37) hx hb dM_demand_75 (by decide) ?_
                  exact L37_ih (k + 1) (q) ls H locs (by omega) (by omega) hI hs (fun b hb hm => (Decidable.em (b = k)).elim (fun e => by rw [db_bit_ones _ (by omega)] at h56; rw [e] at hm; rw [if_pos hm] at h56; exact absurd rfl h56) (fun e => hsk b (by omega) hm)) (lv_sub hl [1, 2, 3, 4, 0] rfl) hG
                have hbit : bt (Ms r) k = true := by
                  rw [db_bit_ones _ (by omega)] at h56
                  cases hb9 : bt (Ms r) k
                  · rw [hb9] at h56; exact absurd h56 (by decide)
                  · rfl
                have hrv := hRV r (by omega)
                refine lv_aload_n hx hb dM_demand_59 rfl (lv_at hl 0 rfl) ?_
                refine lv_aload_n hx hb dM_demand_60 rfl (lv_at hl 1 rfl) ?_
                refine lv_aload_n hx hb dM_demand_61 rfl (lv_at hl 0 rfl) ?_
                refine dw_get hx hb hts inMc hown hG 0 6 rfl rfl (by decide) hw500 rfl rfl dM_demand_62 ?_
                refine lv_iload_n hx hb dM_demand_65 rfl (lv_at hl 3 rfl) ?_
                refine dw_ia (x := nI (RV r)) hx hb hG 7 0 rfl rfl (r) rfl (by omega) (by decide) rfl dM_demand_66 ?_
                refine lv_iload hx hb dM_demand_67 (lv_at hl 4 rfl) ?_
                refine dw_callv (wc := [(m0, .inr (5, [.int (ft), .int (nI (n)), .ref aMd, .ref aO1, .ref aT2, .int (nI (R)), .ref aSh, .ref aMk, .ref aFa, .ref aDe, .ref aNe, .ref aBy, .ref aPi, .int (nI (q.2.2)), .ref aNw, .ref aNs, .ref aBf, .int (rn), .int (rr)])), (aS, .inl (cZ, 768, .inl (q.1))), (aPi, .inl (cI, 1600, .inl (q.2.1)))]) (wr := [(aMd, .inl (cI, 24, .inl (fun w => nI (db_rk (K w))))), (aO1, .inl (cI, 24, .inl (db_one1 K X Nm))), (aT2, .inl (cI, 24, .inl (db_two2 K Y Nm))), (aFa, .inl (cI, 768, .inl (Fa))), (aSh, .inl (cI, 4, .inl (fun r => nI (RV r)))), (aMk, .inl (cI, 4, .inl (Ms))), (aBy, .inl (cI, 24, .inl (Bw)))]) hG [0, 1, 2] [3, 4, 5, 6, 7, 8, 9] rfl rfl (by decide) (by decide) (va_runV (As := [.ref aS, .int (nI (RV r)), .int (nI (k))]) (rest := []) ⟨hx, hb, hml, hown, hts⟩ (rf_want l dC dI cI cZ m0 aMd aO1 aT2 aSh aMk aFa aDe aNe aBy aPi aNw aNs aBf (q.2.2) aS ft (nI n) (nI R) rn rr (RV r) (k) (q.1) (q.2.1) H.size (by omega) (by omega) hI.1) (dc_V 3 hts tw_644 tw_646 tp_M_want tw_7 tw_647 rfl rfl (by decide +kernel) ⟨Nat.le_of_ble_eq_true rfl, Nat.le_of_ble_eq_true rfl⟩) (dw_preV (ci := 5) hG [0, 1, 2] [0, 1] rfl rfl (by decide) rfl rfl (q0 := 0) rfl) rfl rfl hl.1 rfl (lv_room (Nat.le_of_ble_eq_true rfl)) dM_demand_69 ⟨Nat.le_refl _, Nat.le_refl _⟩) (fun u36 H locs hu36 hG => ?_)
                have hG : dw_G (dC, dI) vwCl [(cI, .int), (cZ, .boolean)] A s.heap s [(aMd, .inl (cI, 24, .inl (fun w => nI (db_rk (K w))))), (aO1, .inl (cI, 24, .inl (db_one1 K X Nm))), (aT2, .inl (cI, 24, .inl (db_two2 K Y Nm))), (aFa, .inl (cI, 768, .inl (Fa))), (aSh, .inl (cI, 4, .inl (fun r => nI (RV r)))), (aMk, .inl (cI, 4, .inl (Ms))), (aBy, .inl (cI, 24, .inl (Bw))), (m0, .inr (5, [.int (ft), .int (nI (n)), .ref aMd, .ref aO1, .ref aT2, .int (nI (R)), .ref aSh, .ref aMk, .ref aFa, .ref aDe, .ref aNe, .ref aBy, .ref aPi, .int (nI (u36.2.2)), .ref aNw, .ref aNs, .ref aBf, .int (rn), .int (rr)])), (aS, .inl (cZ, 768, .inl (u36.1))), (aPi, .inl (cI, 1600, .inl (u36.2.1)))] H locs := hG
                refine lv_iinc (v := nI (k + 1)) (lv' := [(4, .int (nI (k + 1))), (0, .ref m0), (1, .ref aS), (2, .int (1)), (3, .int (nI (r)))]) hx hb dM_demand_72 hl (k := 4) rfl (dw_inc (k)) (by decide) rfl (fun ls hl => ?_)
                refine lv_goto (tgt := 37) hx hb dM_demand_75 (by decide) ?_
                exact L37_ih (k + 1) (u36) ls H locs (by omega) (by omega) (db_dinv_grow hn hreach hI hu36 (fun w b hb e => by rw [e.1, e.2]; exact ⟨db_least_seed (by omega) (by omega) hbit, hRV r (by omega)⟩)) (fun r2 hr2 b hb hm => hu36.1.1 _ (by have := hRV r2 (by omega); omega) (hs r2 hr2 b hb hm)) (fun b hb hm => (Decidable.em (b = k)).elim (fun e => hu36.2 _ _ (by omega) ⟨rfl, e⟩) (fun e => hu36.1.1 _ (by have := hRV r (by omega); omega) (hsk b (by omega) hm))) (lv_sub hl [1, 2, 3, 4, 0] rfl) (dw_perm hG [7, 8, 9, 0, 1, 2, 3, 4, 5, 6] (by decide) rfl rfl)
            exact L37 _ (0) (q) ls H locs (Nat.lt_succ_self _) (by omega) hI hs (fun b hb => by omega) (lv_sub hl [1, 2, 3, 4, 0] rfl) hG
        exact L26 _ (0) ((G, Pi, 0)) ls H locs (Nat.lt_succ_self _) (Nat.zero_le _) (db_dinv0 Pi (fun j hj => h0 j (by omega)) hn) (fun r2 hr2 => by omega) (lv_sub hl [1, 2, 3, 0] rfl) hG
      replace h6 : ¬ 768 ≤ k := fun hq0 => h6 ((nI_leI (a := 768) (b := k) (by omega) (by omega)).mpr hq0)
      refine lv_aload_n hx hb dM_demand_9 rfl (lv_at hl 1 rfl) ?_
      refine lv_iload_n hx hb dM_demand_10 rfl (lv_at hl 3 rfl) ?_
      refine lv_iconst (v := 0) hx hb dM_demand_11 (by decide) ?_
      refine dw_zs (ws' := [(m0, .inr (5, [.int (ft), .int (nI (n)), .ref aMd, .ref aO1, .ref aT2, .int (nI (R)), .ref aSh, .ref aMk, .ref aFa, .ref aDe, .ref aNe, .ref aBy, .ref aPi, .int (pd), .ref aNw, .ref aNs, .ref aBf, .int (rn), .int (rr)])), (aS, .inl (cZ, 768, .inl (upd (G) (k) (0)))), (aPi, .inl (cI, 1600, .inl (Pi))), (aMd, .inl (cI, 24, .inl (fun w => nI (db_rk (K w))))), (aO1, .inl (cI, 24, .inl (db_one1 K X Nm))), (aT2, .inl (cI, 24, .inl (db_two2 K Y Nm))), (aFa, .inl (cI, 768, .inl (Fa))), (aSh, .inl (cI, 4, .inl (fun r => nI (RV r)))), (aMk, .inl (cI, 4, .inl (Ms))), (aBy, .inl (cI, 24, .inl (Bw)))]) hx hb hG 1 1 rfl rfl (k) rfl (by omega) (by decide) rfl dM_demand_12 rfl (fun H locs hG => ?_)
      refine lv_iinc (v := nI (k + 1)) (lv' := [(3, .int (nI (k + 1))), (0, .ref m0), (1, .ref aS), (2, .int (1))]) hx hb dM_demand_13 hl (k := 3) rfl (dw_inc (k)) (by decide) rfl (fun ls hl => ?_)
      refine lv_goto (tgt := 2) hx hb dM_demand_16 (by decide) ?_
      exact L2_ih (k + 1) (upd (G) (k) (0)) ls H locs (by omega) (by omega) (fun j hj => (Decidable.em (j = k)).elim (fun e => by rw [e, pk_us]) (fun e => by rw [pk_un e]; exact h0 j (by omega))) (lv_sub hl [1, 2, 3, 0] rfl) hG
  exact L2 _ (0) (Se) ls H locs (Nat.lt_succ_self _) (by omega) (fun j hj => by omega) (lv_sub hl [1, 2, 3, 0] rfl) hG

