set_option maxRecDepth 100000 in
set_option maxHeartbeats 4000000 in
theorem cu_appendValue (l : Launch) (dC : Nat → ClassId) (dI : Nat → Nat → Nat) (cI cZ : ClassId) (u0 aK aX aY aN aV aM n R : Nat) (K X Y : Nat → Nat) (Nm : Nat → Int32) (kd x y : Nat) (nm : Int32) (sz : Nat) (hn : n < 24) : Met l yU_appendValue wsU_appendValue { frames := 0, cells := 0, slots := 0, locals := 0 } (va_Pc [.ref u0, .int (nI (kd)), .int (nI (x)), .int (nI (y)), .int (nm)] (dw_pre (dC, dI) vwCl [(u0, .inr (1, [.ref aK, .ref aX, .ref aY, .ref aN, .ref aV, .ref aM, .int (nI (n)), .int (nI (R))])), (aK, .inl (cI, 24, .inl (fun w => nI (K w)))), (aX, .inl (cI, 24, .inl (fun w => nI (X w)))), (aY, .inl (cI, 24, .inl (fun w => nI (Y w)))), (aN, .inl (cI, 24, .inl (Nm)))] [(cI, .int), (cZ, .boolean)] sz)) (va_Qi (fun (r : Int32) (u : Unit) => r = nI n) (fun u t => dw_post (dC, dI) vwCl [(u0, .inr (1, [.ref aK, .ref aX, .ref aY, .ref aN, .ref aV, .ref aM, .int (nI (n + 1)), .int (nI (R))])), (aK, .inl (cI, 24, .inl (fun w => nI (db_upN K n kd w)))), (aX, .inl (cI, 24, .inl (fun w => nI (db_upN X n x w)))), (aY, .inl (cI, 24, .inl (fun w => nI (db_upN Y n y w)))), (aN, .inl (cI, 24, .inl (upd Nm n nm)))] [(cI, .int), (cZ, .boolean)] (va_A [(u0, .inr (1, [.ref aK, .ref aX, .ref aY, .ref aN, .ref aV, .ref aM, .int (nI (n)), .int (nI (R))])), (aK, .inl (cI, 24, .inl (fun w => nI (K w)))), (aX, .inl (cI, 24, .inl (fun w => nI (X w)))), (aY, .inl (cI, 24, .inl (fun w => nI (Y w)))), (aN, .inl (cI, 24, .inl (Nm)))] sz) t) (va_A [(u0, .inr (1, [.ref aK, .ref aX, .ref aY, .ref aN, .ref aV, .ref aM, .int (nI (n)), .int (nI (R))])), (aK, .inl (cI, 24, .inl (fun w => nI (K w)))), (aX, .inl (cI, 24, .inl (fun w => nI (X w)))), (aY, .inl (cI, 24, .inl (fun w => nI (Y w)))), (aN, .inl (cI, 24, .inl (Nm)))] sz)) 0 0 (va_A [(u0, .inr (1, [.ref aK, .ref aX, .ref aY, .ref aN, .ref aV, .ref aM, .int (nI (n)), .int (nI (R))])), (aK, .inl (cI, 24, .inl (fun w => nI (K w)))), (aX, .inl (cI, 24, .inl (fun w => nI (X w)))), (aY, .inl (cI, 24, .inl (fun w => nI (Y w)))), (aN, .inl (cI, 24, .inl (Nm)))] sz) := by
  refine Met.ofW (cc := cU_appendValue) (maxL := 5) (ret := (some .int)) (by decide) rfl ?_
  intro p e s m args below meth c s₁ B hml hv0
  have hx := B.exec
  have hb := B.bytes
  have hr := B.returns
  have hts := atoms_spec (ws := wsU_appendValue) B.pre
  have hown : s.vm.findClass RU = some m.cls := findClass_of_methodNamed B.named
  have hlocks := B.notSynchronized
  obtain ⟨rfl, hsz, hG⟩ := dw_enter hv0
  generalize va_A [(u0, .inr (1, [.ref aK, .ref aX, .ref aY, .ref aN, .ref aV, .ref aM, .int (nI (n)), .int (nI (R))])), (aK, .inl (cI, 24, .inl (fun w => nI (K w)))), (aX, .inl (cI, 24, .inl (fun w => nI (X w)))), (aY, .inl (cI, 24, .inl (fun w => nI (Y w)))), (aN, .inl (cI, 24, .inl (Nm)))] sz = A at hG ⊢
  have hl := lv_entry ([.ref u0, .int (nI (kd)), .int (nI (x)), .int (nI (y)), .int (nm)]) (n := 5) (Nat.le_of_ble_eq_true rfl)
  rw [lg_entry_eq]
  generalize (lg_sl ([.ref u0, .int (nI (kd)), .int (nI (x)), .int (nI (y)), .int (nm)]) ++ List.replicate (5 - (lg_sl ([.ref u0, .int (nI (kd)), .int (nI (x)), .int (nI (y)), .int (nm)])).length) Slot.unset).toArray = ls at hl ⊢
  have hl : lv_has ls 5 [(0, .ref u0), (1, .int (nI (kd))), (2, .int (nI (x))), (3, .int (nI (y))), (4, .int (nm))] := hl
  have hw30 := hts _ (List.mem_cons_of_mem _ tw_30)
  have hw56 := hts _ (List.mem_cons_of_mem _ tw_56)
  have hw35 := hts _ (List.mem_cons_of_mem _ tw_35)
  have hw40 := hts _ (List.mem_cons_of_mem _ tw_40)
  have hw45 := hts _ (List.mem_cons_of_mem _ tw_45)
  refine dw_Q (fun Q hQ => ?_)
  suffices hgo : ∀ (H : Heap) (locs : List Loc), dw_G (dC, dI) vwCl [(cI, .int), (cZ, .boolean)] A s.heap s [(u0, .inr (1, [.ref aK, .ref aX, .ref aY, .ref aN, .ref aV, .ref aM, .int (nI (n)), .int (nI (R))])), (aK, .inl (cI, 24, .inl (fun w => nI (K w)))), (aX, .inl (cI, 24, .inl (fun w => nI (X w)))), (aY, .inl (cI, 24, .inl (fun w => nI (Y w)))), (aN, .inl (cI, 24, .inl (Nm)))] H locs → W p l e (headSpec wsU_appendValue { frames := 0, cells := 0, slots := 0, locals := 0 }).room s m [.ref u0, .int (nI (kd)), .int (nI (x)), .int (nI (y)), .int (nm)].toArray below meth c H locs 0 0 Q (F0 m 0 ls []) from hgo _ _ hG
  clear hG
  intro H locs hG
  refine lv_aload_n hx hb dU_appendValue_0 rfl (lv_at hl 0 rfl) ?_
  refine dw_get hx hb hts inUc hown hG 0 0 rfl rfl (by decide) hw30 rfl rfl dU_appendValue_1 ?_
  refine lv_aload_n hx hb dU_appendValue_4 rfl (lv_at hl 0 rfl) ?_
  refine dw_get hx hb hts inUc hown hG 0 6 rfl rfl (by decide) hw56 rfl rfl dU_appendValue_5 ?_
  refine lv_iload_n hx hb dU_appendValue_8 rfl (lv_at hl 1 rfl) ?_
  refine dw_is (ws' := [(u0, .inr (1, [.ref aK, .ref aX, .ref aY, .ref aN, .ref aV, .ref aM, .int (nI (n)), .int (nI (R))])), (aK, .inl (cI, 24, .inl (upd (fun w => nI (K w)) (n) (nI (kd))))), (aX, .inl (cI, 24, .inl (fun w => nI (X w)))), (aY, .inl (cI, 24, .inl (fun w => nI (Y w)))), (aN, .inl (cI, 24, .inl (Nm)))]) hx hb hG 1 0 rfl rfl (n) rfl (by omega) (by decide) dU_appendValue_9 rfl (fun H locs hG => ?_)
  refine lv_aload_n hx hb dU_appendValue_10 rfl (lv_at hl 0 rfl) ?_
  refine dw_get hx hb hts inUc hown hG 0 1 rfl rfl (by decide) hw35 rfl rfl dU_appendValue_11 ?_
  refine lv_aload_n hx hb dU_appendValue_14 rfl (lv_at hl 0 rfl) ?_
  refine dw_get hx hb hts inUc hown hG 0 6 rfl rfl (by decide) hw56 rfl rfl dU_appendValue_15 ?_
  refine lv_iload_n hx hb dU_appendValue_18 rfl (lv_at hl 2 rfl) ?_
  refine dw_is (ws' := [(u0, .inr (1, [.ref aK, .ref aX, .ref aY, .ref aN, .ref aV, .ref aM, .int (nI (n)), .int (nI (R))])), (aK, .inl (cI, 24, .inl (upd (fun w => nI (K w)) (n) (nI (kd))))), (aX, .inl (cI, 24, .inl (upd (fun w => nI (X w)) (n) (nI (x))))), (aY, .inl (cI, 24, .inl (fun w => nI (Y w)))), (aN, .inl (cI, 24, .inl (Nm)))]) hx hb hG 2 0 rfl rfl (n) rfl (by omega) (by decide) dU_appendValue_19 rfl (fun H locs hG => ?_)
  refine lv_aload_n hx hb dU_appendValue_20 rfl (lv_at hl 0 rfl) ?_
  refine dw_get hx hb hts inUc hown hG 0 2 rfl rfl (by decide) hw40 rfl rfl dU_appendValue_21 ?_
  refine lv_aload_n hx hb dU_appendValue_24 rfl (lv_at hl 0 rfl) ?_
  refine dw_get hx hb hts inUc hown hG 0 6 rfl rfl (by decide) hw56 rfl rfl dU_appendValue_25 ?_
  refine lv_iload_n hx hb dU_appendValue_28 rfl (lv_at hl 3 rfl) ?_
  refine dw_is (ws' := [(u0, .inr (1, [.ref aK, .ref aX, .ref aY, .ref aN, .ref aV, .ref aM, .int (nI (n)), .int (nI (R))])), (aK, .inl (cI, 24, .inl (upd (fun w => nI (K w)) (n) (nI (kd))))), (aX, .inl (cI, 24, .inl (upd (fun w => nI (X w)) (n) (nI (x))))), (aY, .inl (cI, 24, .inl (upd (fun w => nI (Y w)) (n) (nI (y))))), (aN, .inl (cI, 24, .inl (Nm)))]) hx hb hG 3 0 rfl rfl (n) rfl (by omega) (by decide) dU_appendValue_29 rfl (fun H locs hG => ?_)
  refine lv_aload_n hx hb dU_appendValue_30 rfl (lv_at hl 0 rfl) ?_
  refine dw_get hx hb hts inUc hown hG 0 3 rfl rfl (by decide) hw45 rfl rfl dU_appendValue_31 ?_
  refine lv_aload_n hx hb dU_appendValue_34 rfl (lv_at hl 0 rfl) ?_
  refine dw_get hx hb hts inUc hown hG 0 6 rfl rfl (by decide) hw56 rfl rfl dU_appendValue_35 ?_
  refine lv_iload hx hb dU_appendValue_38 (lv_at hl 4 rfl) ?_
  refine dw_is (ws' := [(u0, .inr (1, [.ref aK, .ref aX, .ref aY, .ref aN, .ref aV, .ref aM, .int (nI (n)), .int (nI (R))])), (aK, .inl (cI, 24, .inl (upd (fun w => nI (K w)) (n) (nI (kd))))), (aX, .inl (cI, 24, .inl (upd (fun w => nI (X w)) (n) (nI (x))))), (aY, .inl (cI, 24, .inl (upd (fun w => nI (Y w)) (n) (nI (y))))), (aN, .inl (cI, 24, .inl (upd (Nm) (n) (nm))))]) hx hb hG 4 0 rfl rfl (n) rfl (by omega) (by decide) dU_appendValue_40 rfl (fun H locs hG => ?_)
  refine lv_aload_n hx hb dU_appendValue_41 rfl (lv_at hl 0 rfl) ?_
  refine lv_dup hx hb dU_appendValue_42 rfl ?_
  refine dw_get hx hb hts inUc hown hG 0 6 rfl rfl (by decide) hw56 rfl rfl dU_appendValue_43 ?_
  refine lv_iconst (v := 1) hx hb dU_appendValue_46 (by decide) ?_
  refine lv_iadd hx hb dU_appendValue_47 ?_
  refine lv_topi (nm_r (show ((nI (n)) + (1) : Int32) = nI (n + 1) from nI_add (n) (1)) ?_)
  refine dw_put (ws' := [(u0, .inr (1, [.ref aK, .ref aX, .ref aY, .ref aN, .ref aV, .ref aM, .int (nI (n + 1)), .int (nI (R))])), (aK, .inl (cI, 24, .inl (upd (fun w => nI (K w)) (n) (nI (kd))))), (aX, .inl (cI, 24, .inl (upd (fun w => nI (X w)) (n) (nI (x))))), (aY, .inl (cI, 24, .inl (upd (fun w => nI (Y w)) (n) (nI (y))))), (aN, .inl (cI, 24, .inl (upd (Nm) (n) (nm))))]) hx hb hts inUc tyU tyU_ok nmU hown hG 0 6 rfl rfl (by decide) hw56 rfl rfl (ty := .int) (by decide +kernel) rfl rfl (Nat.le_of_ble_eq_true rfl) dU_appendValue_48 rfl (fun H locs hG => ?_)
  refine lv_aload_n hx hb dU_appendValue_51 rfl (lv_at hl 0 rfl) ?_
  refine dw_get hx hb hts inUc hown hG 0 6 rfl rfl (by decide) hw56 rfl rfl dU_appendValue_52 ?_
  refine lv_iconst (v := 1) hx hb dU_appendValue_55 (by decide) ?_
  refine lv_isub hx hb dU_appendValue_56 ?_
  refine lv_topi (nm_r (show ((nI (n + 1)) - (1) : Int32) = nI (n) from (nI_pred n)) ?_)
  subst hQ
  exact dw_iret hx hb hr hG (()) (by rw [db_nI_up K n kd, db_nI_up X n x, db_nI_up Y n y] <;> rfl) rfl dU_appendValue_57 hlocks

set_option maxRecDepth 100000 in
set_option maxHeartbeats 4000000 in
theorem cu_appendResult (l : Launch) (dC : Nat → ClassId) (dI : Nat → Nat → Nat) (cI cZ : ClassId) (u0 aK aX aY aN aV aM n R : Nat) (RV : Nat → Nat) (Ms : Nat → Int32) (v : Nat) (mk : Int32) (sz : Nat) (hR : R < 4) : Met l yU_appendResult wsU_appendResult { frames := 0, cells := 0, slots := 0, locals := 0 } (va_Pc [.ref u0, .int (nI (v)), .int (mk)] (dw_pre (dC, dI) vwCl [(u0, .inr (1, [.ref aK, .ref aX, .ref aY, .ref aN, .ref aV, .ref aM, .int (nI (n)), .int (nI (R))])), (aV, .inl (cI, 4, .inl (fun r => nI (RV r)))), (aM, .inl (cI, 4, .inl (Ms)))] [(cI, .int), (cZ, .boolean)] sz)) (va_Qi (fun (r : Int32) (u : Unit) => r = nI R) (fun u t => dw_post (dC, dI) vwCl [(u0, .inr (1, [.ref aK, .ref aX, .ref aY, .ref aN, .ref aV, .ref aM, .int (nI (n)), .int (nI (R + 1))])), (aV, .inl (cI, 4, .inl (fun r => nI (db_upN RV R v r)))), (aM, .inl (cI, 4, .inl (upd Ms R mk)))] [(cI, .int), (cZ, .boolean)] (va_A [(u0, .inr (1, [.ref aK, .ref aX, .ref aY, .ref aN, .ref aV, .ref aM, .int (nI (n)), .int (nI (R))])), (aV, .inl (cI, 4, .inl (fun r => nI (RV r)))), (aM, .inl (cI, 4, .inl (Ms)))] sz) t) (va_A [(u0, .inr (1, [.ref aK, .ref aX, .ref aY, .ref aN, .ref aV, .ref aM, .int (nI (n)), .int (nI (R))])), (aV, .inl (cI, 4, .inl (fun r => nI (RV r)))), (aM, .inl (cI, 4, .inl (Ms)))] sz)) 0 0 (va_A [(u0, .inr (1, [.ref aK, .ref aX, .ref aY, .ref aN, .ref aV, .ref aM, .int (nI (n)), .int (nI (R))])), (aV, .inl (cI, 4, .inl (fun r => nI (RV r)))), (aM, .inl (cI, 4, .inl (Ms)))] sz) := by
  refine Met.ofW (cc := cU_appendResult) (maxL := 3) (ret := (some .int)) (by decide) rfl ?_
  intro p e s m args below meth c s₁ B hml hv0
  have hx := B.exec
  have hb := B.bytes
  have hr := B.returns
  have hts := atoms_spec (ws := wsU_appendResult) B.pre
  have hown : s.vm.findClass RU = some m.cls := findClass_of_methodNamed B.named
  have hlocks := B.notSynchronized
  obtain ⟨rfl, hsz, hG⟩ := dw_enter hv0
  generalize va_A [(u0, .inr (1, [.ref aK, .ref aX, .ref aY, .ref aN, .ref aV, .ref aM, .int (nI (n)), .int (nI (R))])), (aV, .inl (cI, 4, .inl (fun r => nI (RV r)))), (aM, .inl (cI, 4, .inl (Ms)))] sz = A at hG ⊢
  have hl := lv_entry ([.ref u0, .int (nI (v)), .int (mk)]) (n := 3) (Nat.le_of_ble_eq_true rfl)
  rw [lg_entry_eq]
  generalize (lg_sl ([.ref u0, .int (nI (v)), .int (mk)]) ++ List.replicate (3 - (lg_sl ([.ref u0, .int (nI (v)), .int (mk)])).length) Slot.unset).toArray = ls at hl ⊢
  have hl : lv_has ls 3 [(0, .ref u0), (1, .int (nI (v))), (2, .int (mk))] := hl
  have hw50 := hts _ (List.mem_cons_of_mem _ tw_50)
  have hw63 := hts _ (List.mem_cons_of_mem _ tw_63)
  have hw53 := hts _ (List.mem_cons_of_mem _ tw_53)
  refine dw_Q (fun Q hQ => ?_)
  suffices hgo : ∀ (H : Heap) (locs : List Loc), dw_G (dC, dI) vwCl [(cI, .int), (cZ, .boolean)] A s.heap s [(u0, .inr (1, [.ref aK, .ref aX, .ref aY, .ref aN, .ref aV, .ref aM, .int (nI (n)), .int (nI (R))])), (aV, .inl (cI, 4, .inl (fun r => nI (RV r)))), (aM, .inl (cI, 4, .inl (Ms)))] H locs → W p l e (headSpec wsU_appendResult { frames := 0, cells := 0, slots := 0, locals := 0 }).room s m [.ref u0, .int (nI (v)), .int (mk)].toArray below meth c H locs 0 0 Q (F0 m 0 ls []) from hgo _ _ hG
  clear hG
  intro H locs hG
  refine lv_aload_n hx hb dU_appendResult_0 rfl (lv_at hl 0 rfl) ?_
  refine dw_get hx hb hts inUc hown hG 0 4 rfl rfl (by decide) hw50 rfl rfl dU_appendResult_1 ?_
  refine lv_aload_n hx hb dU_appendResult_4 rfl (lv_at hl 0 rfl) ?_
  refine dw_get hx hb hts inUc hown hG 0 7 rfl rfl (by decide) hw63 rfl rfl dU_appendResult_5 ?_
  refine lv_iload_n hx hb dU_appendResult_8 rfl (lv_at hl 1 rfl) ?_
  refine dw_is (ws' := [(u0, .inr (1, [.ref aK, .ref aX, .ref aY, .ref aN, .ref aV, .ref aM, .int (nI (n)), .int (nI (R))])), (aV, .inl (cI, 4, .inl (upd (fun r => nI (RV r)) (R) (nI (v))))), (aM, .inl (cI, 4, .inl (Ms)))]) hx hb hG 1 0 rfl rfl (R) rfl (by omega) (by decide) dU_appendResult_9 rfl (fun H locs hG => ?_)
  refine lv_aload_n hx hb dU_appendResult_10 rfl (lv_at hl 0 rfl) ?_
  refine dw_get hx hb hts inUc hown hG 0 5 rfl rfl (by decide) hw53 rfl rfl dU_appendResult_11 ?_
  refine lv_aload_n hx hb dU_appendResult_14 rfl (lv_at hl 0 rfl) ?_
  refine dw_get hx hb hts inUc hown hG 0 7 rfl rfl (by decide) hw63 rfl rfl dU_appendResult_15 ?_
  refine lv_iload_n hx hb dU_appendResult_18 rfl (lv_at hl 2 rfl) ?_
  refine dw_is (ws' := [(u0, .inr (1, [.ref aK, .ref aX, .ref aY, .ref aN, .ref aV, .ref aM, .int (nI (n)), .int (nI (R))])), (aV, .inl (cI, 4, .inl (upd (fun r => nI (RV r)) (R) (nI (v))))), (aM, .inl (cI, 4, .inl (upd (Ms) (R) (mk))))]) hx hb hG 2 0 rfl rfl (R) rfl (by omega) (by decide) dU_appendResult_19 rfl (fun H locs hG => ?_)
  refine lv_aload_n hx hb dU_appendResult_20 rfl (lv_at hl 0 rfl) ?_
  refine lv_dup hx hb dU_appendResult_21 rfl ?_
  refine dw_get hx hb hts inUc hown hG 0 7 rfl rfl (by decide) hw63 rfl rfl dU_appendResult_22 ?_
  refine lv_iconst (v := 1) hx hb dU_appendResult_25 (by decide) ?_
  refine lv_iadd hx hb dU_appendResult_26 ?_
  refine lv_topi (nm_r (show ((nI (R)) + (1) : Int32) = nI (R + 1) from nI_add (R) (1)) ?_)
  refine dw_put (ws' := [(u0, .inr (1, [.ref aK, .ref aX, .ref aY, .ref aN, .ref aV, .ref aM, .int (nI (n)), .int (nI (R + 1))])), (aV, .inl (cI, 4, .inl (upd (fun r => nI (RV r)) (R) (nI (v))))), (aM, .inl (cI, 4, .inl (upd (Ms) (R) (mk))))]) hx hb hts inUc tyU tyU_ok nmU hown hG 0 7 rfl rfl (by decide) hw63 rfl rfl (ty := .int) (by decide +kernel) rfl rfl (Nat.le_of_ble_eq_true rfl) dU_appendResult_27 rfl (fun H locs hG => ?_)
  refine lv_aload_n hx hb dU_appendResult_30 rfl (lv_at hl 0 rfl) ?_
  refine dw_get hx hb hts inUc hown hG 0 7 rfl rfl (by decide) hw63 rfl rfl dU_appendResult_31 ?_
  refine lv_iconst (v := 1) hx hb dU_appendResult_34 (by decide) ?_
  refine lv_isub hx hb dU_appendResult_35 ?_
  refine lv_topi (nm_r (show ((nI (R + 1)) - (1) : Int32) = nI (R) from (nI_pred R)) ?_)
  subst hQ
  exact dw_iret hx hb hr hG (()) (by rw [db_nI_up RV R v] <;> rfl) rfl dU_appendResult_36 hlocks

set_option maxRecDepth 100000 in
set_option maxHeartbeats 4000000 in
theorem cb_has0 (l : Launch) (dC : Nat → ClassId) (dI : Nat → Nat → Nat) (cI cZ : ClassId) (b0 u0 aK aX aY aN aV aM f0 e0 g0 aRp aNr aI c0 h0 n R : Nat) (an : Int32) (Kf Yf Nf : Nat → Int32) (v y ky : Nat) (d : Int32) (sz : Nat) (hv : v < 24) (hy9 : y < 24) (ey : Yf v = nI y) (hky : ky ≤ 13) (eky : Kf y = nI ky) (ek : Kf v = nI 0) : Met l yB_hasBitsOfX wsB_hasBitsOfX { frames := 2, cells := 0, slots := 0, locals := 60 } (va_Pc [.ref b0, .int (nI (v)), .int (d)] (dw_pre (dC, dI) vwCl [(b0, .inr (0, [.ref u0, .ref f0, .ref e0, .ref g0, .ref aRp, .ref aNr, .ref aI, .ref c0, .ref h0, .int (an)])), (u0, .inr (1, [.ref aK, .ref aX, .ref aY, .ref aN, .ref aV, .ref aM, .int (nI (n)), .int (nI (R))])), (aK, .inl (cI, 24, .inl (Kf))), (aY, .inl (cI, 24, .inl (Yf))), (aN, .inl (cI, 24, .inl (Nf)))] [(cI, .int), (cZ, .boolean)] sz)) (va_Qi (fun (r : Int32) (u : Unit) => r = if db_has 0 (decide (ky = 10)) (Nf y) d = true then 1 else 0) (fun u t => dw_post (dC, dI) vwCl [(b0, .inr (0, [.ref u0, .ref f0, .ref e0, .ref g0, .ref aRp, .ref aNr, .ref aI, .ref c0, .ref h0, .int (an)])), (u0, .inr (1, [.ref aK, .ref aX, .ref aY, .ref aN, .ref aV, .ref aM, .int (nI (n)), .int (nI (R))])), (aK, .inl (cI, 24, .inl (Kf))), (aY, .inl (cI, 24, .inl (Yf))), (aN, .inl (cI, 24, .inl (Nf)))] [(cI, .int), (cZ, .boolean)] (va_A [(b0, .inr (0, [.ref u0, .ref f0, .ref e0, .ref g0, .ref aRp, .ref aNr, .ref aI, .ref c0, .ref h0, .int (an)])), (u0, .inr (1, [.ref aK, .ref aX, .ref aY, .ref aN, .ref aV, .ref aM, .int (nI (n)), .int (nI (R))])), (aK, .inl (cI, 24, .inl (Kf))), (aY, .inl (cI, 24, .inl (Yf))), (aN, .inl (cI, 24, .inl (Nf)))] sz) t) (va_A [(b0, .inr (0, [.ref u0, .ref f0, .ref e0, .ref g0, .ref aRp, .ref aNr, .ref aI, .ref c0, .ref h0, .int (an)])), (u0, .inr (1, [.ref aK, .ref aX, .ref aY, .ref aN, .ref aV, .ref aM, .int (nI (n)), .int (nI (R))])), (aK, .inl (cI, 24, .inl (Kf))), (aY, .inl (cI, 24, .inl (Yf))), (aN, .inl (cI, 24, .inl (Nf)))] sz)) 0 0 (va_A [(b0, .inr (0, [.ref u0, .ref f0, .ref e0, .ref g0, .ref aRp, .ref aNr, .ref aI, .ref c0, .ref h0, .int (an)])), (u0, .inr (1, [.ref aK, .ref aX, .ref aY, .ref aN, .ref aV, .ref aM, .int (nI (n)), .int (nI (R))])), (aK, .inl (cI, 24, .inl (Kf))), (aY, .inl (cI, 24, .inl (Yf))), (aN, .inl (cI, 24, .inl (Nf)))] sz) := by
  refine Met.ofW (cc := cB_hasBitsOfX) (maxL := 6) (ret := (some .boolean)) (by decide) rfl ?_
  intro p e s m args below meth c s₁ B hml hv0
  have hx := B.exec
  have hb := B.bytes
  have hr := B.returns
  have hts := atoms_spec (ws := wsB_hasBitsOfX) B.pre
  have hown : s.vm.findClass RB = some m.cls := findClass_of_methodNamed B.named
  have hlocks := B.notSynchronized
  obtain ⟨rfl, hsz, hG⟩ := dw_enter hv0
  generalize va_A [(b0, .inr (0, [.ref u0, .ref f0, .ref e0, .ref g0, .ref aRp, .ref aNr, .ref aI, .ref c0, .ref h0, .int (an)])), (u0, .inr (1, [.ref aK, .ref aX, .ref aY, .ref aN, .ref aV, .ref aM, .int (nI (n)), .int (nI (R))])), (aK, .inl (cI, 24, .inl (Kf))), (aY, .inl (cI, 24, .inl (Yf))), (aN, .inl (cI, 24, .inl (Nf)))] sz = A at hG ⊢
  have hl := lv_entry ([.ref b0, .int (nI (v)), .int (d)]) (n := 6) (Nat.le_of_ble_eq_true rfl)
  rw [lg_entry_eq]
  generalize (lg_sl ([.ref b0, .int (nI (v)), .int (d)]) ++ List.replicate (6 - (lg_sl ([.ref b0, .int (nI (v)), .int (d)])).length) Slot.unset).toArray = ls at hl ⊢
  have hl : lv_has ls 6 [(0, .ref b0), (1, .int (nI (v))), (2, .int (d))] := hl
  have hw138 := hts _ (List.mem_cons_of_mem _ tw_138)
  have hw44 := hts _ (List.mem_cons_of_mem _ tw_44)
  have hw34 := hts _ (List.mem_cons_of_mem _ tw_34)
  have hw49 := hts _ (List.mem_cons_of_mem _ tw_49)
  refine dw_Q (fun Q hQ => ?_)
  suffices hgo : ∀ (H : Heap) (locs : List Loc), dw_G (dC, dI) vwCl [(cI, .int), (cZ, .boolean)] A s.heap s [(b0, .inr (0, [.ref u0, .ref f0, .ref e0, .ref g0, .ref aRp, .ref aNr, .ref aI, .ref c0, .ref h0, .int (an)])), (u0, .inr (1, [.ref aK, .ref aX, .ref aY, .ref aN, .ref aV, .ref aM, .int (nI (n)), .int (nI (R))])), (aK, .inl (cI, 24, .inl (Kf))), (aY, .inl (cI, 24, .inl (Yf))), (aN, .inl (cI, 24, .inl (Nf)))] H locs → W p l e (headSpec wsB_hasBitsOfX { frames := 2, cells := 0, slots := 0, locals := 60 }).room s m [.ref b0, .int (nI (v)), .int (d)].toArray below meth c H locs 0 0 Q (F0 m 0 ls []) from hgo _ _ hG
  clear hG
  intro H locs hG
  refine lv_aload_n hx hb dB_hasBitsOfX_0 rfl (lv_at hl 0 rfl) ?_
  refine dw_get hx hb hts inBc hown hG 0 0 rfl rfl (by decide) hw138 rfl rfl dB_hasBitsOfX_1 ?_
  refine dw_get hx hb hts inUc hown hG 1 2 rfl rfl (by decide) hw44 rfl rfl dB_hasBitsOfX_4 ?_
  refine lv_iload_n hx hb dB_hasBitsOfX_7 rfl (lv_at hl 1 rfl) ?_
  refine dw_ia (x := nI (y)) hx hb hG 3 0 rfl rfl (v) rfl (by omega) (by decide) ey dB_hasBitsOfX_8 ?_
  refine lv_istore_n (lv' := [(3, .int (nI (y))), (0, .ref b0), (1, .int (nI (v))), (2, .int (d))]) hx hb dB_hasBitsOfX_9 rfl hl (by decide) rfl (fun ls hl => ?_)
  refine lv_aload_n hx hb dB_hasBitsOfX_10 rfl (lv_at hl 1 rfl) ?_
  refine dw_get hx hb hts inBc hown hG 0 0 rfl rfl (by decide) hw138 rfl rfl dB_hasBitsOfX_11 ?_
  refine dw_get hx hb hts inUc hown hG 1 0 rfl rfl (by decide) hw34 rfl rfl dB_hasBitsOfX_14 ?_
  refine lv_iload_n hx hb dB_hasBitsOfX_17 rfl (lv_at hl 0 rfl) ?_
  refine dw_ia (x := nI (ky)) hx hb hG 2 0 rfl rfl (y) rfl (by omega) (by decide) eky dB_hasBitsOfX_18 ?_
  refine lv_bipush (v := 10) hx hb dB_hasBitsOfX_19 (by decide) ?_
  refine lv_icmp_ne (tgt := 28) hx hb dB_hasBitsOfX_21 (by decide) (fun h21 => ?_) (fun h21 => ?_)
  · skip
    replace h21 : ¬ ky = 10 := fun hq0 => h21 ((nI_eq (a := ky) (b := 10) (by omega) (by omega)).mpr hq0)
    refine lv_iconst (v := 0) hx hb dB_hasBitsOfX_28 (by decide) ?_
    refine lv_istore (lv' := [(4, .int (0)), (3, .int (nI (y))), (0, .ref b0), (1, .int (nI (v))), (2, .int (d))]) hx hb dB_hasBitsOfX_29 hl (by decide) rfl (fun ls hl => ?_)
    refine lv_aload_n hx hb dB_hasBitsOfX_31 rfl (lv_at hl 2 rfl) ?_
    refine dw_get hx hb hts inBc hown hG 0 0 rfl rfl (by decide) hw138 rfl rfl dB_hasBitsOfX_32 ?_
    refine dw_get hx hb hts inUc hown hG 1 3 rfl rfl (by decide) hw49 rfl rfl dB_hasBitsOfX_35 ?_
    refine lv_iload_n hx hb dB_hasBitsOfX_38 rfl (lv_at hl 1 rfl) ?_
    refine dw_ia (x := (Nf) (y)) hx hb hG 4 0 rfl rfl (y) rfl (by omega) (by decide) rfl dB_hasBitsOfX_39 ?_
    refine lv_istore (lv' := [(5, .int ((Nf) (y))), (4, .int (0)), (3, .int (nI (y))), (0, .ref b0), (1, .int (nI (v))), (2, .int (d))]) hx hb dB_hasBitsOfX_40 hl (by decide) rfl (fun ls hl => ?_)
    refine lv_aload_n hx hb dB_hasBitsOfX_42 rfl (lv_at hl 3 rfl) ?_
    refine dw_get hx hb hts inBc hown hG 0 0 rfl rfl (by decide) hw138 rfl rfl dB_hasBitsOfX_43 ?_
    refine dw_get hx hb hts inUc hown hG 1 0 rfl rfl (by decide) hw34 rfl rfl dB_hasBitsOfX_46 ?_
    refine lv_iload_n hx hb dB_hasBitsOfX_49 rfl (lv_at hl 4 rfl) ?_
    refine dw_ia (x := 0) hx hb hG 2 0 rfl rfl (v) rfl (by omega) (by decide) ek dB_hasBitsOfX_50 ?_
    refine lv_tableIn (tgt := 154) hx hb dB_hasBitsOfX_51 (by decide) (by decide) rfl (by decide) ?_
    refine lv_iload hx hb dB_hasBitsOfX_154 (lv_at hl 1 rfl) ?_
    refine lv_if_eq (tgt := 173) hx hb dB_hasBitsOfX_156 (by decide) (fun h156 => ?_) (fun h156 => ?_)
    · skip
      replace h156 := (nI_eq (a := 0) (b := 0) (by omega) (by omega)).mp h156
      refine lv_iconst (v := 0) hx hb dB_hasBitsOfX_173 (by decide) ?_
      subst hQ
      exact dw_zret hx hb hr rfl hG (()) rfl ((if_neg (by show ¬ (decide (ky = 10) && decide (db_upto d &&& Nf y = 0)) = true; rw [decide_eq_false h21, Bool.false_and]; decide)).symm) dB_hasBitsOfX_174 hlocks
    replace h156 : ¬ 0 = 0 := fun hq0 => h156 ((nI_eq (a := 0) (b := 0) (by omega) (by omega)).mpr hq0)
    (exfalso; omega)
  replace h21 := (nI_eq (a := ky) (b := 10) (by omega) (by omega)).mp h21
  refine lv_iconst (v := 1) hx hb dB_hasBitsOfX_24 (by decide) ?_
  refine lv_goto (tgt := 29) hx hb dB_hasBitsOfX_25 (by decide) ?_
  refine lv_istore (lv' := [(4, .int (1)), (3, .int (nI (y))), (0, .ref b0), (1, .int (nI (v))), (2, .int (d))]) hx hb dB_hasBitsOfX_29 hl (by decide) rfl (fun ls hl => ?_)
  refine lv_aload_n hx hb dB_hasBitsOfX_31 rfl (lv_at hl 2 rfl) ?_
  refine dw_get hx hb hts inBc hown hG 0 0 rfl rfl (by decide) hw138 rfl rfl dB_hasBitsOfX_32 ?_
  refine dw_get hx hb hts inUc hown hG 1 3 rfl rfl (by decide) hw49 rfl rfl dB_hasBitsOfX_35 ?_
  refine lv_iload_n hx hb dB_hasBitsOfX_38 rfl (lv_at hl 1 rfl) ?_
  refine dw_ia (x := (Nf) (y)) hx hb hG 4 0 rfl rfl (y) rfl (by omega) (by decide) rfl dB_hasBitsOfX_39 ?_
  refine lv_istore (lv' := [(5, .int ((Nf) (y))), (4, .int (1)), (3, .int (nI (y))), (0, .ref b0), (1, .int (nI (v))), (2, .int (d))]) hx hb dB_hasBitsOfX_40 hl (by decide) rfl (fun ls hl => ?_)
  refine lv_aload_n hx hb dB_hasBitsOfX_42 rfl (lv_at hl 3 rfl) ?_
  refine dw_get hx hb hts inBc hown hG 0 0 rfl rfl (by decide) hw138 rfl rfl dB_hasBitsOfX_43 ?_
  refine dw_get hx hb hts inUc hown hG 1 0 rfl rfl (by decide) hw34 rfl rfl dB_hasBitsOfX_46 ?_
  refine lv_iload_n hx hb dB_hasBitsOfX_49 rfl (lv_at hl 4 rfl) ?_
  refine dw_ia (x := 0) hx hb hG 2 0 rfl rfl (v) rfl (by omega) (by decide) ek dB_hasBitsOfX_50 ?_
  refine lv_tableIn (tgt := 154) hx hb dB_hasBitsOfX_51 (by decide) (by decide) rfl (by decide) ?_
  refine lv_iload hx hb dB_hasBitsOfX_154 (lv_at hl 1 rfl) ?_
  refine lv_if_eq (tgt := 173) hx hb dB_hasBitsOfX_156 (by decide) (fun h156 => ?_) (fun h156 => ?_)
  · skip
    replace h156 := (nI_eq (a := 1) (b := 0) (by omega) (by omega)).mp h156
    (exfalso; omega)
  replace h156 : ¬ 1 = 0 := fun hq0 => h156 ((nI_eq (a := 1) (b := 0) (by omega) (by omega)).mpr hq0)
  refine lv_iload_n hx hb dB_hasBitsOfX_159 rfl (lv_at hl 5 rfl) ?_
  refine dw_calli (wc := []) (wr := [(b0, .inr (0, [.ref u0, .ref f0, .ref e0, .ref g0, .ref aRp, .ref aNr, .ref aI, .ref c0, .ref h0, .int (an)])), (u0, .inr (1, [.ref aK, .ref aX, .ref aY, .ref aN, .ref aV, .ref aM, .int (nI (n)), .int (nI (R))])), (aK, .inl (cI, 24, .inl (Kf))), (aY, .inl (cI, 24, .inl (Yf))), (aN, .inl (cI, 24, .inl (Nf)))]) hG [] [0, 1, 2, 3, 4] rfl rfl (by decide) (by decide) (va_runS (As := [.int (d)]) (rest := []) ⟨hx, hb, hml, hown, hts⟩ (cb_upTo l dC dI cI cZ (d) H.size ) (dc_S 1 hts tw_251 tw_229 tw_1 tw_230 rfl rfl (by decide +kernel) ⟨Nat.le_of_ble_eq_true rfl, Nat.le_of_ble_eq_true rfl⟩) (dw_preS hG [] [0, 1] rfl rfl (by decide) rfl) rfl rfl hl.1 rfl (lv_room (Nat.le_of_ble_eq_true rfl)) dB_hasBitsOfX_160 ⟨Nat.le_refl _, Nat.le_refl _⟩) (fun r u H locs hp hG => ?_)
  subst hp
  have hG : dw_G (dC, dI) vwCl [(cI, .int), (cZ, .boolean)] A s.heap s [(b0, .inr (0, [.ref u0, .ref f0, .ref e0, .ref g0, .ref aRp, .ref aNr, .ref aI, .ref c0, .ref h0, .int (an)])), (u0, .inr (1, [.ref aK, .ref aX, .ref aY, .ref aN, .ref aV, .ref aM, .int (nI (n)), .int (nI (R))])), (aK, .inl (cI, 24, .inl (Kf))), (aY, .inl (cI, 24, .inl (Yf))), (aN, .inl (cI, 24, .inl (Nf)))] H locs := hG
  refine lv_iload hx hb dB_hasBitsOfX_163 (lv_at hl 0 rfl) ?_
  refine lv_iand hx hb dB_hasBitsOfX_165 ?_
  refine lv_if_ne (tgt := 173) hx hb dB_hasBitsOfX_166 (by decide) (fun h166 => ?_) (fun h166 => ?_)
  · skip
    refine lv_iconst (v := 0) hx hb dB_hasBitsOfX_173 (by decide) ?_
    subst hQ
    exact dw_zret hx hb hr rfl hG (()) rfl ((if_neg (by show ¬ (decide (ky = 10) && decide (db_upto d &&& Nf y = 0)) = true; rw [decide_eq_false h166, Bool.and_false]; decide)).symm) dB_hasBitsOfX_174 hlocks
  refine lv_iconst (v := 1) hx hb dB_hasBitsOfX_169 (by decide) ?_
  refine lv_goto (tgt := 174) hx hb dB_hasBitsOfX_170 (by decide) ?_
  subst hQ
  exact dw_zret hx hb hr rfl hG (()) rfl ((if_pos (by show (decide (ky = 10) && decide (db_upto d &&& Nf y = 0)) = true; rw [decide_eq_true h21, decide_eq_true h166]; rfl)).symm) dB_hasBitsOfX_174 hlocks

set_option maxRecDepth 100000 in
set_option maxHeartbeats 4000000 in
theorem cb_has1 (l : Launch) (dC : Nat → ClassId) (dI : Nat → Nat → Nat) (cI cZ : ClassId) (b0 u0 aK aX aY aN aV aM f0 e0 g0 aRp aNr aI c0 h0 n R : Nat) (an : Int32) (Kf Yf Nf : Nat → Int32) (v y ky : Nat) (d : Int32) (sz : Nat) (hv : v < 24) (hy9 : y < 24) (ey : Yf v = nI y) (hky : ky ≤ 13) (eky : Kf y = nI ky) (ek : Kf v = nI 1) : Met l yB_hasBitsOfX wsB_hasBitsOfX { frames := 2, cells := 0, slots := 0, locals := 60 } (va_Pc [.ref b0, .int (nI (v)), .int (d)] (dw_pre (dC, dI) vwCl [(b0, .inr (0, [.ref u0, .ref f0, .ref e0, .ref g0, .ref aRp, .ref aNr, .ref aI, .ref c0, .ref h0, .int (an)])), (u0, .inr (1, [.ref aK, .ref aX, .ref aY, .ref aN, .ref aV, .ref aM, .int (nI (n)), .int (nI (R))])), (aK, .inl (cI, 24, .inl (Kf))), (aY, .inl (cI, 24, .inl (Yf))), (aN, .inl (cI, 24, .inl (Nf)))] [(cI, .int), (cZ, .boolean)] sz)) (va_Qi (fun (r : Int32) (u : Unit) => r = if db_has 1 (decide (ky = 10)) (Nf y) d = true then 1 else 0) (fun u t => dw_post (dC, dI) vwCl [(b0, .inr (0, [.ref u0, .ref f0, .ref e0, .ref g0, .ref aRp, .ref aNr, .ref aI, .ref c0, .ref h0, .int (an)])), (u0, .inr (1, [.ref aK, .ref aX, .ref aY, .ref aN, .ref aV, .ref aM, .int (nI (n)), .int (nI (R))])), (aK, .inl (cI, 24, .inl (Kf))), (aY, .inl (cI, 24, .inl (Yf))), (aN, .inl (cI, 24, .inl (Nf)))] [(cI, .int), (cZ, .boolean)] (va_A [(b0, .inr (0, [.ref u0, .ref f0, .ref e0, .ref g0, .ref aRp, .ref aNr, .ref aI, .ref c0, .ref h0, .int (an)])), (u0, .inr (1, [.ref aK, .ref aX, .ref aY, .ref aN, .ref aV, .ref aM, .int (nI (n)), .int (nI (R))])), (aK, .inl (cI, 24, .inl (Kf))), (aY, .inl (cI, 24, .inl (Yf))), (aN, .inl (cI, 24, .inl (Nf)))] sz) t) (va_A [(b0, .inr (0, [.ref u0, .ref f0, .ref e0, .ref g0, .ref aRp, .ref aNr, .ref aI, .ref c0, .ref h0, .int (an)])), (u0, .inr (1, [.ref aK, .ref aX, .ref aY, .ref aN, .ref aV, .ref aM, .int (nI (n)), .int (nI (R))])), (aK, .inl (cI, 24, .inl (Kf))), (aY, .inl (cI, 24, .inl (Yf))), (aN, .inl (cI, 24, .inl (Nf)))] sz)) 0 0 (va_A [(b0, .inr (0, [.ref u0, .ref f0, .ref e0, .ref g0, .ref aRp, .ref aNr, .ref aI, .ref c0, .ref h0, .int (an)])), (u0, .inr (1, [.ref aK, .ref aX, .ref aY, .ref aN, .ref aV, .ref aM, .int (nI (n)), .int (nI (R))])), (aK, .inl (cI, 24, .inl (Kf))), (aY, .inl (cI, 24, .inl (Yf))), (aN, .inl (cI, 24, .inl (Nf)))] sz) := by
  refine Met.ofW (cc := cB_hasBitsOfX) (maxL := 6) (ret := (some .boolean)) (by decide) rfl ?_
  intro p e s m args below meth c s₁ B hml hv0
  have hx := B.exec
  have hb := B.bytes
  have hr := B.returns
  have hts := atoms_spec (ws := wsB_hasBitsOfX) B.pre
  have hown : s.vm.findClass RB = some m.cls := findClass_of_methodNamed B.named
  have hlocks := B.notSynchronized
  obtain ⟨rfl, hsz, hG⟩ := dw_enter hv0
  generalize va_A [(b0, .inr (0, [.ref u0, .ref f0, .ref e0, .ref g0, .ref aRp, .ref aNr, .ref aI, .ref c0, .ref h0, .int (an)])), (u0, .inr (1, [.ref aK, .ref aX, .ref aY, .ref aN, .ref aV, .ref aM, .int (nI (n)), .int (nI (R))])), (aK, .inl (cI, 24, .inl (Kf))), (aY, .inl (cI, 24, .inl (Yf))), (aN, .inl (cI, 24, .inl (Nf)))] sz = A at hG ⊢
  have hl := lv_entry ([.ref b0, .int (nI (v)), .int (d)]) (n := 6) (Nat.le_of_ble_eq_true rfl)
  rw [lg_entry_eq]
  generalize (lg_sl ([.ref b0, .int (nI (v)), .int (d)]) ++ List.replicate (6 - (lg_sl ([.ref b0, .int (nI (v)), .int (d)])).length) Slot.unset).toArray = ls at hl ⊢
  have hl : lv_has ls 6 [(0, .ref b0), (1, .int (nI (v))), (2, .int (d))] := hl
  have hw138 := hts _ (List.mem_cons_of_mem _ tw_138)
  have hw44 := hts _ (List.mem_cons_of_mem _ tw_44)
  have hw34 := hts _ (List.mem_cons_of_mem _ tw_34)
  have hw49 := hts _ (List.mem_cons_of_mem _ tw_49)
  refine dw_Q (fun Q hQ => ?_)
  suffices hgo : ∀ (H : Heap) (locs : List Loc), dw_G (dC, dI) vwCl [(cI, .int), (cZ, .boolean)] A s.heap s [(b0, .inr (0, [.ref u0, .ref f0, .ref e0, .ref g0, .ref aRp, .ref aNr, .ref aI, .ref c0, .ref h0, .int (an)])), (u0, .inr (1, [.ref aK, .ref aX, .ref aY, .ref aN, .ref aV, .ref aM, .int (nI (n)), .int (nI (R))])), (aK, .inl (cI, 24, .inl (Kf))), (aY, .inl (cI, 24, .inl (Yf))), (aN, .inl (cI, 24, .inl (Nf)))] H locs → W p l e (headSpec wsB_hasBitsOfX { frames := 2, cells := 0, slots := 0, locals := 60 }).room s m [.ref b0, .int (nI (v)), .int (d)].toArray below meth c H locs 0 0 Q (F0 m 0 ls []) from hgo _ _ hG
  clear hG
  intro H locs hG
  refine lv_aload_n hx hb dB_hasBitsOfX_0 rfl (lv_at hl 0 rfl) ?_
  refine dw_get hx hb hts inBc hown hG 0 0 rfl rfl (by decide) hw138 rfl rfl dB_hasBitsOfX_1 ?_
  refine dw_get hx hb hts inUc hown hG 1 2 rfl rfl (by decide) hw44 rfl rfl dB_hasBitsOfX_4 ?_
  refine lv_iload_n hx hb dB_hasBitsOfX_7 rfl (lv_at hl 1 rfl) ?_
  refine dw_ia (x := nI (y)) hx hb hG 3 0 rfl rfl (v) rfl (by omega) (by decide) ey dB_hasBitsOfX_8 ?_
  refine lv_istore_n (lv' := [(3, .int (nI (y))), (0, .ref b0), (1, .int (nI (v))), (2, .int (d))]) hx hb dB_hasBitsOfX_9 rfl hl (by decide) rfl (fun ls hl => ?_)
  refine lv_aload_n hx hb dB_hasBitsOfX_10 rfl (lv_at hl 1 rfl) ?_
  refine dw_get hx hb hts inBc hown hG 0 0 rfl rfl (by decide) hw138 rfl rfl dB_hasBitsOfX_11 ?_
  refine dw_get hx hb hts inUc hown hG 1 0 rfl rfl (by decide) hw34 rfl rfl dB_hasBitsOfX_14 ?_
  refine lv_iload_n hx hb dB_hasBitsOfX_17 rfl (lv_at hl 0 rfl) ?_
  refine dw_ia (x := nI (ky)) hx hb hG 2 0 rfl rfl (y) rfl (by omega) (by decide) eky dB_hasBitsOfX_18 ?_
  refine lv_bipush (v := 10) hx hb dB_hasBitsOfX_19 (by decide) ?_
  refine lv_icmp_ne (tgt := 28) hx hb dB_hasBitsOfX_21 (by decide) (fun h21 => ?_) (fun h21 => ?_)
  · skip
    replace h21 : ¬ ky = 10 := fun hq0 => h21 ((nI_eq (a := ky) (b := 10) (by omega) (by omega)).mpr hq0)
    refine lv_iconst (v := 0) hx hb dB_hasBitsOfX_28 (by decide) ?_
    refine lv_istore (lv' := [(4, .int (0)), (3, .int (nI (y))), (0, .ref b0), (1, .int (nI (v))), (2, .int (d))]) hx hb dB_hasBitsOfX_29 hl (by decide) rfl (fun ls hl => ?_)
    refine lv_aload_n hx hb dB_hasBitsOfX_31 rfl (lv_at hl 2 rfl) ?_
    refine dw_get hx hb hts inBc hown hG 0 0 rfl rfl (by decide) hw138 rfl rfl dB_hasBitsOfX_32 ?_
    refine dw_get hx hb hts inUc hown hG 1 3 rfl rfl (by decide) hw49 rfl rfl dB_hasBitsOfX_35 ?_
    refine lv_iload_n hx hb dB_hasBitsOfX_38 rfl (lv_at hl 1 rfl) ?_
    refine dw_ia (x := (Nf) (y)) hx hb hG 4 0 rfl rfl (y) rfl (by omega) (by decide) rfl dB_hasBitsOfX_39 ?_
    refine lv_istore (lv' := [(5, .int ((Nf) (y))), (4, .int (0)), (3, .int (nI (y))), (0, .ref b0), (1, .int (nI (v))), (2, .int (d))]) hx hb dB_hasBitsOfX_40 hl (by decide) rfl (fun ls hl => ?_)
    refine lv_aload_n hx hb dB_hasBitsOfX_42 rfl (lv_at hl 3 rfl) ?_
    refine dw_get hx hb hts inBc hown hG 0 0 rfl rfl (by decide) hw138 rfl rfl dB_hasBitsOfX_43 ?_
    refine dw_get hx hb hts inUc hown hG 1 0 rfl rfl (by decide) hw34 rfl rfl dB_hasBitsOfX_46 ?_
    refine lv_iload_n hx hb dB_hasBitsOfX_49 rfl (lv_at hl 4 rfl) ?_
    refine dw_ia (x := 1) hx hb hG 2 0 rfl rfl (v) rfl (by omega) (by decide) ek dB_hasBitsOfX_50 ?_
    refine lv_tableIn (tgt := 154) hx hb dB_hasBitsOfX_51 (by decide) (by decide) rfl (by decide) ?_
    refine lv_iload hx hb dB_hasBitsOfX_154 (lv_at hl 1 rfl) ?_
    refine lv_if_eq (tgt := 173) hx hb dB_hasBitsOfX_156 (by decide) (fun h156 => ?_) (fun h156 => ?_)
    · skip
      replace h156 := (nI_eq (a := 0) (b := 0) (by omega) (by omega)).mp h156
      refine lv_iconst (v := 0) hx hb dB_hasBitsOfX_173 (by decide) ?_
      subst hQ
      exact dw_zret hx hb hr rfl hG (()) rfl ((if_neg (by show ¬ (decide (ky = 10) && decide (db_upto d &&& Nf y = 0)) = true; rw [decide_eq_false h21, Bool.false_and]; decide)).symm) dB_hasBitsOfX_174 hlocks
    replace h156 : ¬ 0 = 0 := fun hq0 => h156 ((nI_eq (a := 0) (b := 0) (by omega) (by omega)).mpr hq0)
    (exfalso; omega)
  replace h21 := (nI_eq (a := ky) (b := 10) (by omega) (by omega)).mp h21
  refine lv_iconst (v := 1) hx hb dB_hasBitsOfX_24 (by decide) ?_
  refine lv_goto (tgt := 29) hx hb dB_hasBitsOfX_25 (by decide) ?_
  refine lv_istore (lv' := [(4, .int (1)), (3, .int (nI (y))), (0, .ref b0), (1, .int (nI (v))), (2, .int (d))]) hx hb dB_hasBitsOfX_29 hl (by decide) rfl (fun ls hl => ?_)
  refine lv_aload_n hx hb dB_hasBitsOfX_31 rfl (lv_at hl 2 rfl) ?_
  refine dw_get hx hb hts inBc hown hG 0 0 rfl rfl (by decide) hw138 rfl rfl dB_hasBitsOfX_32 ?_
  refine dw_get hx hb hts inUc hown hG 1 3 rfl rfl (by decide) hw49 rfl rfl dB_hasBitsOfX_35 ?_
  refine lv_iload_n hx hb dB_hasBitsOfX_38 rfl (lv_at hl 1 rfl) ?_
  refine dw_ia (x := (Nf) (y)) hx hb hG 4 0 rfl rfl (y) rfl (by omega) (by decide) rfl dB_hasBitsOfX_39 ?_
  refine lv_istore (lv' := [(5, .int ((Nf) (y))), (4, .int (1)), (3, .int (nI (y))), (0, .ref b0), (1, .int (nI (v))), (2, .int (d))]) hx hb dB_hasBitsOfX_40 hl (by decide) rfl (fun ls hl => ?_)
  refine lv_aload_n hx hb dB_hasBitsOfX_42 rfl (lv_at hl 3 rfl) ?_
  refine dw_get hx hb hts inBc hown hG 0 0 rfl rfl (by decide) hw138 rfl rfl dB_hasBitsOfX_43 ?_
  refine dw_get hx hb hts inUc hown hG 1 0 rfl rfl (by decide) hw34 rfl rfl dB_hasBitsOfX_46 ?_
  refine lv_iload_n hx hb dB_hasBitsOfX_49 rfl (lv_at hl 4 rfl) ?_
  refine dw_ia (x := 1) hx hb hG 2 0 rfl rfl (v) rfl (by omega) (by decide) ek dB_hasBitsOfX_50 ?_
  refine lv_tableIn (tgt := 154) hx hb dB_hasBitsOfX_51 (by decide) (by decide) rfl (by decide) ?_
  refine lv_iload hx hb dB_hasBitsOfX_154 (lv_at hl 1 rfl) ?_
  refine lv_if_eq (tgt := 173) hx hb dB_hasBitsOfX_156 (by decide) (fun h156 => ?_) (fun h156 => ?_)
  · skip
    replace h156 := (nI_eq (a := 1) (b := 0) (by omega) (by omega)).mp h156
    (exfalso; omega)
  replace h156 : ¬ 1 = 0 := fun hq0 => h156 ((nI_eq (a := 1) (b := 0) (by omega) (by omega)).mpr hq0)
  refine lv_iload_n hx hb dB_hasBitsOfX_159 rfl (lv_at hl 5 rfl) ?_
  refine dw_calli (wc := []) (wr := [(b0, .inr (0, [.ref u0, .ref f0, .ref e0, .ref g0, .ref aRp, .ref aNr, .ref aI, .ref c0, .ref h0, .int (an)])), (u0, .inr (1, [.ref aK, .ref aX, .ref aY, .ref aN, .ref aV, .ref aM, .int (nI (n)), .int (nI (R))])), (aK, .inl (cI, 24, .inl (Kf))), (aY, .inl (cI, 24, .inl (Yf))), (aN, .inl (cI, 24, .inl (Nf)))]) hG [] [0, 1, 2, 3, 4] rfl rfl (by decide) (by decide) (va_runS (As := [.int (d)]) (rest := []) ⟨hx, hb, hml, hown, hts⟩ (cb_upTo l dC dI cI cZ (d) H.size ) (dc_S 1 hts tw_251 tw_229 tw_1 tw_230 rfl rfl (by decide +kernel) ⟨Nat.le_of_ble_eq_true rfl, Nat.le_of_ble_eq_true rfl⟩) (dw_preS hG [] [0, 1] rfl rfl (by decide) rfl) rfl rfl hl.1 rfl (lv_room (Nat.le_of_ble_eq_true rfl)) dB_hasBitsOfX_160 ⟨Nat.le_refl _, Nat.le_refl _⟩) (fun r u H locs hp hG => ?_)
  subst hp
  have hG : dw_G (dC, dI) vwCl [(cI, .int), (cZ, .boolean)] A s.heap s [(b0, .inr (0, [.ref u0, .ref f0, .ref e0, .ref g0, .ref aRp, .ref aNr, .ref aI, .ref c0, .ref h0, .int (an)])), (u0, .inr (1, [.ref aK, .ref aX, .ref aY, .ref aN, .ref aV, .ref aM, .int (nI (n)), .int (nI (R))])), (aK, .inl (cI, 24, .inl (Kf))), (aY, .inl (cI, 24, .inl (Yf))), (aN, .inl (cI, 24, .inl (Nf)))] H locs := hG
  refine lv_iload hx hb dB_hasBitsOfX_163 (lv_at hl 0 rfl) ?_
  refine lv_iand hx hb dB_hasBitsOfX_165 ?_
  refine lv_if_ne (tgt := 173) hx hb dB_hasBitsOfX_166 (by decide) (fun h166 => ?_) (fun h166 => ?_)
  · skip
    refine lv_iconst (v := 0) hx hb dB_hasBitsOfX_173 (by decide) ?_
    subst hQ
    exact dw_zret hx hb hr rfl hG (()) rfl ((if_neg (by show ¬ (decide (ky = 10) && decide (db_upto d &&& Nf y = 0)) = true; rw [decide_eq_false h166, Bool.and_false]; decide)).symm) dB_hasBitsOfX_174 hlocks
  refine lv_iconst (v := 1) hx hb dB_hasBitsOfX_169 (by decide) ?_
  refine lv_goto (tgt := 174) hx hb dB_hasBitsOfX_170 (by decide) ?_
  subst hQ
  exact dw_zret hx hb hr rfl hG (()) rfl ((if_pos (by show (decide (ky = 10) && decide (db_upto d &&& Nf y = 0)) = true; rw [decide_eq_true h21, decide_eq_true h166]; rfl)).symm) dB_hasBitsOfX_174 hlocks

set_option maxRecDepth 100000 in
set_option maxHeartbeats 4000000 in
theorem cb_has2 (l : Launch) (dC : Nat → ClassId) (dI : Nat → Nat → Nat) (cI cZ : ClassId) (b0 u0 aK aX aY aN aV aM f0 e0 g0 aRp aNr aI c0 h0 n R : Nat) (an : Int32) (Kf Yf Nf : Nat → Int32) (v y ky : Nat) (d : Int32) (sz : Nat) (hv : v < 24) (hy9 : y < 24) (ey : Yf v = nI y) (hky : ky ≤ 13) (eky : Kf y = nI ky) (ek : Kf v = nI 2) : Met l yB_hasBitsOfX wsB_hasBitsOfX { frames := 2, cells := 0, slots := 0, locals := 60 } (va_Pc [.ref b0, .int (nI (v)), .int (d)] (dw_pre (dC, dI) vwCl [(b0, .inr (0, [.ref u0, .ref f0, .ref e0, .ref g0, .ref aRp, .ref aNr, .ref aI, .ref c0, .ref h0, .int (an)])), (u0, .inr (1, [.ref aK, .ref aX, .ref aY, .ref aN, .ref aV, .ref aM, .int (nI (n)), .int (nI (R))])), (aK, .inl (cI, 24, .inl (Kf))), (aY, .inl (cI, 24, .inl (Yf))), (aN, .inl (cI, 24, .inl (Nf)))] [(cI, .int), (cZ, .boolean)] sz)) (va_Qi (fun (r : Int32) (u : Unit) => r = if db_has 2 (decide (ky = 10)) (Nf y) d = true then 1 else 0) (fun u t => dw_post (dC, dI) vwCl [(b0, .inr (0, [.ref u0, .ref f0, .ref e0, .ref g0, .ref aRp, .ref aNr, .ref aI, .ref c0, .ref h0, .int (an)])), (u0, .inr (1, [.ref aK, .ref aX, .ref aY, .ref aN, .ref aV, .ref aM, .int (nI (n)), .int (nI (R))])), (aK, .inl (cI, 24, .inl (Kf))), (aY, .inl (cI, 24, .inl (Yf))), (aN, .inl (cI, 24, .inl (Nf)))] [(cI, .int), (cZ, .boolean)] (va_A [(b0, .inr (0, [.ref u0, .ref f0, .ref e0, .ref g0, .ref aRp, .ref aNr, .ref aI, .ref c0, .ref h0, .int (an)])), (u0, .inr (1, [.ref aK, .ref aX, .ref aY, .ref aN, .ref aV, .ref aM, .int (nI (n)), .int (nI (R))])), (aK, .inl (cI, 24, .inl (Kf))), (aY, .inl (cI, 24, .inl (Yf))), (aN, .inl (cI, 24, .inl (Nf)))] sz) t) (va_A [(b0, .inr (0, [.ref u0, .ref f0, .ref e0, .ref g0, .ref aRp, .ref aNr, .ref aI, .ref c0, .ref h0, .int (an)])), (u0, .inr (1, [.ref aK, .ref aX, .ref aY, .ref aN, .ref aV, .ref aM, .int (nI (n)), .int (nI (R))])), (aK, .inl (cI, 24, .inl (Kf))), (aY, .inl (cI, 24, .inl (Yf))), (aN, .inl (cI, 24, .inl (Nf)))] sz)) 0 0 (va_A [(b0, .inr (0, [.ref u0, .ref f0, .ref e0, .ref g0, .ref aRp, .ref aNr, .ref aI, .ref c0, .ref h0, .int (an)])), (u0, .inr (1, [.ref aK, .ref aX, .ref aY, .ref aN, .ref aV, .ref aM, .int (nI (n)), .int (nI (R))])), (aK, .inl (cI, 24, .inl (Kf))), (aY, .inl (cI, 24, .inl (Yf))), (aN, .inl (cI, 24, .inl (Nf)))] sz) := by
  refine Met.ofW (cc := cB_hasBitsOfX) (maxL := 6) (ret := (some .boolean)) (by decide) rfl ?_
  intro p e s m args below meth c s₁ B hml hv0
  have hx := B.exec
  have hb := B.bytes
  have hr := B.returns
  have hts := atoms_spec (ws := wsB_hasBitsOfX) B.pre
  have hown : s.vm.findClass RB = some m.cls := findClass_of_methodNamed B.named
  have hlocks := B.notSynchronized
  obtain ⟨rfl, hsz, hG⟩ := dw_enter hv0
  generalize va_A [(b0, .inr (0, [.ref u0, .ref f0, .ref e0, .ref g0, .ref aRp, .ref aNr, .ref aI, .ref c0, .ref h0, .int (an)])), (u0, .inr (1, [.ref aK, .ref aX, .ref aY, .ref aN, .ref aV, .ref aM, .int (nI (n)), .int (nI (R))])), (aK, .inl (cI, 24, .inl (Kf))), (aY, .inl (cI, 24, .inl (Yf))), (aN, .inl (cI, 24, .inl (Nf)))] sz = A at hG ⊢
  have hl := lv_entry ([.ref b0, .int (nI (v)), .int (d)]) (n := 6) (Nat.le_of_ble_eq_true rfl)
  rw [lg_entry_eq]
  generalize (lg_sl ([.ref b0, .int (nI (v)), .int (d)]) ++ List.replicate (6 - (lg_sl ([.ref b0, .int (nI (v)), .int (d)])).length) Slot.unset).toArray = ls at hl ⊢
  have hl : lv_has ls 6 [(0, .ref b0), (1, .int (nI (v))), (2, .int (d))] := hl
  have hw138 := hts _ (List.mem_cons_of_mem _ tw_138)
  have hw44 := hts _ (List.mem_cons_of_mem _ tw_44)
  have hw34 := hts _ (List.mem_cons_of_mem _ tw_34)
  have hw49 := hts _ (List.mem_cons_of_mem _ tw_49)
  refine dw_Q (fun Q hQ => ?_)
  suffices hgo : ∀ (H : Heap) (locs : List Loc), dw_G (dC, dI) vwCl [(cI, .int), (cZ, .boolean)] A s.heap s [(b0, .inr (0, [.ref u0, .ref f0, .ref e0, .ref g0, .ref aRp, .ref aNr, .ref aI, .ref c0, .ref h0, .int (an)])), (u0, .inr (1, [.ref aK, .ref aX, .ref aY, .ref aN, .ref aV, .ref aM, .int (nI (n)), .int (nI (R))])), (aK, .inl (cI, 24, .inl (Kf))), (aY, .inl (cI, 24, .inl (Yf))), (aN, .inl (cI, 24, .inl (Nf)))] H locs → W p l e (headSpec wsB_hasBitsOfX { frames := 2, cells := 0, slots := 0, locals := 60 }).room s m [.ref b0, .int (nI (v)), .int (d)].toArray below meth c H locs 0 0 Q (F0 m 0 ls []) from hgo _ _ hG
  clear hG
  intro H locs hG
  refine lv_aload_n hx hb dB_hasBitsOfX_0 rfl (lv_at hl 0 rfl) ?_
  refine dw_get hx hb hts inBc hown hG 0 0 rfl rfl (by decide) hw138 rfl rfl dB_hasBitsOfX_1 ?_
  refine dw_get hx hb hts inUc hown hG 1 2 rfl rfl (by decide) hw44 rfl rfl dB_hasBitsOfX_4 ?_
  refine lv_iload_n hx hb dB_hasBitsOfX_7 rfl (lv_at hl 1 rfl) ?_
  refine dw_ia (x := nI (y)) hx hb hG 3 0 rfl rfl (v) rfl (by omega) (by decide) ey dB_hasBitsOfX_8 ?_
  refine lv_istore_n (lv' := [(3, .int (nI (y))), (0, .ref b0), (1, .int (nI (v))), (2, .int (d))]) hx hb dB_hasBitsOfX_9 rfl hl (by decide) rfl (fun ls hl => ?_)
  refine lv_aload_n hx hb dB_hasBitsOfX_10 rfl (lv_at hl 1 rfl) ?_
  refine dw_get hx hb hts inBc hown hG 0 0 rfl rfl (by decide) hw138 rfl rfl dB_hasBitsOfX_11 ?_
  refine dw_get hx hb hts inUc hown hG 1 0 rfl rfl (by decide) hw34 rfl rfl dB_hasBitsOfX_14 ?_
  refine lv_iload_n hx hb dB_hasBitsOfX_17 rfl (lv_at hl 0 rfl) ?_
  refine dw_ia (x := nI (ky)) hx hb hG 2 0 rfl rfl (y) rfl (by omega) (by decide) eky dB_hasBitsOfX_18 ?_
  refine lv_bipush (v := 10) hx hb dB_hasBitsOfX_19 (by decide) ?_
  refine lv_icmp_ne (tgt := 28) hx hb dB_hasBitsOfX_21 (by decide) (fun h21 => ?_) (fun h21 => ?_)
  · skip
    replace h21 : ¬ ky = 10 := fun hq0 => h21 ((nI_eq (a := ky) (b := 10) (by omega) (by omega)).mpr hq0)
    refine lv_iconst (v := 0) hx hb dB_hasBitsOfX_28 (by decide) ?_
    refine lv_istore (lv' := [(4, .int (0)), (3, .int (nI (y))), (0, .ref b0), (1, .int (nI (v))), (2, .int (d))]) hx hb dB_hasBitsOfX_29 hl (by decide) rfl (fun ls hl => ?_)
    refine lv_aload_n hx hb dB_hasBitsOfX_31 rfl (lv_at hl 2 rfl) ?_
    refine dw_get hx hb hts inBc hown hG 0 0 rfl rfl (by decide) hw138 rfl rfl dB_hasBitsOfX_32 ?_
    refine dw_get hx hb hts inUc hown hG 1 3 rfl rfl (by decide) hw49 rfl rfl dB_hasBitsOfX_35 ?_
    refine lv_iload_n hx hb dB_hasBitsOfX_38 rfl (lv_at hl 1 rfl) ?_
    refine dw_ia (x := (Nf) (y)) hx hb hG 4 0 rfl rfl (y) rfl (by omega) (by decide) rfl dB_hasBitsOfX_39 ?_
    refine lv_istore (lv' := [(5, .int ((Nf) (y))), (4, .int (0)), (3, .int (nI (y))), (0, .ref b0), (1, .int (nI (v))), (2, .int (d))]) hx hb dB_hasBitsOfX_40 hl (by decide) rfl (fun ls hl => ?_)
    refine lv_aload_n hx hb dB_hasBitsOfX_42 rfl (lv_at hl 3 rfl) ?_
    refine dw_get hx hb hts inBc hown hG 0 0 rfl rfl (by decide) hw138 rfl rfl dB_hasBitsOfX_43 ?_
    refine dw_get hx hb hts inUc hown hG 1 0 rfl rfl (by decide) hw34 rfl rfl dB_hasBitsOfX_46 ?_
    refine lv_iload_n hx hb dB_hasBitsOfX_49 rfl (lv_at hl 4 rfl) ?_
    refine dw_ia (x := 2) hx hb hG 2 0 rfl rfl (v) rfl (by omega) (by decide) ek dB_hasBitsOfX_50 ?_
    refine lv_tableIn (tgt := 202) hx hb dB_hasBitsOfX_51 (by decide) (by decide) rfl (by decide) ?_
    refine lv_iconst (v := 0) hx hb dB_hasBitsOfX_202 (by decide) ?_
    subst hQ
    exact dw_zret hx hb hr rfl hG (()) rfl ((if_neg (by show ¬ false = true; decide)).symm) dB_hasBitsOfX_203 hlocks
  replace h21 := (nI_eq (a := ky) (b := 10) (by omega) (by omega)).mp h21
  refine lv_iconst (v := 1) hx hb dB_hasBitsOfX_24 (by decide) ?_
  refine lv_goto (tgt := 29) hx hb dB_hasBitsOfX_25 (by decide) ?_
  refine lv_istore (lv' := [(4, .int (1)), (3, .int (nI (y))), (0, .ref b0), (1, .int (nI (v))), (2, .int (d))]) hx hb dB_hasBitsOfX_29 hl (by decide) rfl (fun ls hl => ?_)
  refine lv_aload_n hx hb dB_hasBitsOfX_31 rfl (lv_at hl 2 rfl) ?_
  refine dw_get hx hb hts inBc hown hG 0 0 rfl rfl (by decide) hw138 rfl rfl dB_hasBitsOfX_32 ?_
  refine dw_get hx hb hts inUc hown hG 1 3 rfl rfl (by decide) hw49 rfl rfl dB_hasBitsOfX_35 ?_
  refine lv_iload_n hx hb dB_hasBitsOfX_38 rfl (lv_at hl 1 rfl) ?_
  refine dw_ia (x := (Nf) (y)) hx hb hG 4 0 rfl rfl (y) rfl (by omega) (by decide) rfl dB_hasBitsOfX_39 ?_
  refine lv_istore (lv' := [(5, .int ((Nf) (y))), (4, .int (1)), (3, .int (nI (y))), (0, .ref b0), (1, .int (nI (v))), (2, .int (d))]) hx hb dB_hasBitsOfX_40 hl (by decide) rfl (fun ls hl => ?_)
  refine lv_aload_n hx hb dB_hasBitsOfX_42 rfl (lv_at hl 3 rfl) ?_
  refine dw_get hx hb hts inBc hown hG 0 0 rfl rfl (by decide) hw138 rfl rfl dB_hasBitsOfX_43 ?_
  refine dw_get hx hb hts inUc hown hG 1 0 rfl rfl (by decide) hw34 rfl rfl dB_hasBitsOfX_46 ?_
  refine lv_iload_n hx hb dB_hasBitsOfX_49 rfl (lv_at hl 4 rfl) ?_
  refine dw_ia (x := 2) hx hb hG 2 0 rfl rfl (v) rfl (by omega) (by decide) ek dB_hasBitsOfX_50 ?_
  refine lv_tableIn (tgt := 202) hx hb dB_hasBitsOfX_51 (by decide) (by decide) rfl (by decide) ?_
  refine lv_iconst (v := 0) hx hb dB_hasBitsOfX_202 (by decide) ?_
  subst hQ
  exact dw_zret hx hb hr rfl hG (()) rfl ((if_neg (by show ¬ false = true; decide)).symm) dB_hasBitsOfX_203 hlocks

set_option maxRecDepth 100000 in
set_option maxHeartbeats 4000000 in
theorem cb_has3 (l : Launch) (dC : Nat → ClassId) (dI : Nat → Nat → Nat) (cI cZ : ClassId) (b0 u0 aK aX aY aN aV aM f0 e0 g0 aRp aNr aI c0 h0 n R : Nat) (an : Int32) (Kf Yf Nf : Nat → Int32) (v y ky : Nat) (d : Int32) (sz : Nat) (hv : v < 24) (hy9 : y < 24) (ey : Yf v = nI y) (hky : ky ≤ 13) (eky : Kf y = nI ky) (ek : Kf v = nI 3) : Met l yB_hasBitsOfX wsB_hasBitsOfX { frames := 2, cells := 0, slots := 0, locals := 60 } (va_Pc [.ref b0, .int (nI (v)), .int (d)] (dw_pre (dC, dI) vwCl [(b0, .inr (0, [.ref u0, .ref f0, .ref e0, .ref g0, .ref aRp, .ref aNr, .ref aI, .ref c0, .ref h0, .int (an)])), (u0, .inr (1, [.ref aK, .ref aX, .ref aY, .ref aN, .ref aV, .ref aM, .int (nI (n)), .int (nI (R))])), (aK, .inl (cI, 24, .inl (Kf))), (aY, .inl (cI, 24, .inl (Yf))), (aN, .inl (cI, 24, .inl (Nf)))] [(cI, .int), (cZ, .boolean)] sz)) (va_Qi (fun (r : Int32) (u : Unit) => r = if db_has 3 (decide (ky = 10)) (Nf y) d = true then 1 else 0) (fun u t => dw_post (dC, dI) vwCl [(b0, .inr (0, [.ref u0, .ref f0, .ref e0, .ref g0, .ref aRp, .ref aNr, .ref aI, .ref c0, .ref h0, .int (an)])), (u0, .inr (1, [.ref aK, .ref aX, .ref aY, .ref aN, .ref aV, .ref aM, .int (nI (n)), .int (nI (R))])), (aK, .inl (cI, 24, .inl (Kf))), (aY, .inl (cI, 24, .inl (Yf))), (aN, .inl (cI, 24, .inl (Nf)))] [(cI, .int), (cZ, .boolean)] (va_A [(b0, .inr (0, [.ref u0, .ref f0, .ref e0, .ref g0, .ref aRp, .ref aNr, .ref aI, .ref c0, .ref h0, .int (an)])), (u0, .inr (1, [.ref aK, .ref aX, .ref aY, .ref aN, .ref aV, .ref aM, .int (nI (n)), .int (nI (R))])), (aK, .inl (cI, 24, .inl (Kf))), (aY, .inl (cI, 24, .inl (Yf))), (aN, .inl (cI, 24, .inl (Nf)))] sz) t) (va_A [(b0, .inr (0, [.ref u0, .ref f0, .ref e0, .ref g0, .ref aRp, .ref aNr, .ref aI, .ref c0, .ref h0, .int (an)])), (u0, .inr (1, [.ref aK, .ref aX, .ref aY, .ref aN, .ref aV, .ref aM, .int (nI (n)), .int (nI (R))])), (aK, .inl (cI, 24, .inl (Kf))), (aY, .inl (cI, 24, .inl (Yf))), (aN, .inl (cI, 24, .inl (Nf)))] sz)) 0 0 (va_A [(b0, .inr (0, [.ref u0, .ref f0, .ref e0, .ref g0, .ref aRp, .ref aNr, .ref aI, .ref c0, .ref h0, .int (an)])), (u0, .inr (1, [.ref aK, .ref aX, .ref aY, .ref aN, .ref aV, .ref aM, .int (nI (n)), .int (nI (R))])), (aK, .inl (cI, 24, .inl (Kf))), (aY, .inl (cI, 24, .inl (Yf))), (aN, .inl (cI, 24, .inl (Nf)))] sz) := by
  refine Met.ofW (cc := cB_hasBitsOfX) (maxL := 6) (ret := (some .boolean)) (by decide) rfl ?_
  intro p e s m args below meth c s₁ B hml hv0
  have hx := B.exec
  have hb := B.bytes
  have hr := B.returns
  have hts := atoms_spec (ws := wsB_hasBitsOfX) B.pre
  have hown : s.vm.findClass RB = some m.cls := findClass_of_methodNamed B.named
  have hlocks := B.notSynchronized
  obtain ⟨rfl, hsz, hG⟩ := dw_enter hv0
  generalize va_A [(b0, .inr (0, [.ref u0, .ref f0, .ref e0, .ref g0, .ref aRp, .ref aNr, .ref aI, .ref c0, .ref h0, .int (an)])), (u0, .inr (1, [.ref aK, .ref aX, .ref aY, .ref aN, .ref aV, .ref aM, .int (nI (n)), .int (nI (R))])), (aK, .inl (cI, 24, .inl (Kf))), (aY, .inl (cI, 24, .inl (Yf))), (aN, .inl (cI, 24, .inl (Nf)))] sz = A at hG ⊢
  have hl := lv_entry ([.ref b0, .int (nI (v)), .int (d)]) (n := 6) (Nat.le_of_ble_eq_true rfl)
  rw [lg_entry_eq]
  generalize (lg_sl ([.ref b0, .int (nI (v)), .int (d)]) ++ List.replicate (6 - (lg_sl ([.ref b0, .int (nI (v)), .int (d)])).length) Slot.unset).toArray = ls at hl ⊢
  have hl : lv_has ls 6 [(0, .ref b0), (1, .int (nI (v))), (2, .int (d))] := hl
  have hw138 := hts _ (List.mem_cons_of_mem _ tw_138)
  have hw44 := hts _ (List.mem_cons_of_mem _ tw_44)
  have hw34 := hts _ (List.mem_cons_of_mem _ tw_34)
  have hw49 := hts _ (List.mem_cons_of_mem _ tw_49)
  refine dw_Q (fun Q hQ => ?_)
  suffices hgo : ∀ (H : Heap) (locs : List Loc), dw_G (dC, dI) vwCl [(cI, .int), (cZ, .boolean)] A s.heap s [(b0, .inr (0, [.ref u0, .ref f0, .ref e0, .ref g0, .ref aRp, .ref aNr, .ref aI, .ref c0, .ref h0, .int (an)])), (u0, .inr (1, [.ref aK, .ref aX, .ref aY, .ref aN, .ref aV, .ref aM, .int (nI (n)), .int (nI (R))])), (aK, .inl (cI, 24, .inl (Kf))), (aY, .inl (cI, 24, .inl (Yf))), (aN, .inl (cI, 24, .inl (Nf)))] H locs → W p l e (headSpec wsB_hasBitsOfX { frames := 2, cells := 0, slots := 0, locals := 60 }).room s m [.ref b0, .int (nI (v)), .int (d)].toArray below meth c H locs 0 0 Q (F0 m 0 ls []) from hgo _ _ hG
  clear hG
  intro H locs hG
  refine lv_aload_n hx hb dB_hasBitsOfX_0 rfl (lv_at hl 0 rfl) ?_
  refine dw_get hx hb hts inBc hown hG 0 0 rfl rfl (by decide) hw138 rfl rfl dB_hasBitsOfX_1 ?_
  refine dw_get hx hb hts inUc hown hG 1 2 rfl rfl (by decide) hw44 rfl rfl dB_hasBitsOfX_4 ?_
  refine lv_iload_n hx hb dB_hasBitsOfX_7 rfl (lv_at hl 1 rfl) ?_
  refine dw_ia (x := nI (y)) hx hb hG 3 0 rfl rfl (v) rfl (by omega) (by decide) ey dB_hasBitsOfX_8 ?_
  refine lv_istore_n (lv' := [(3, .int (nI (y))), (0, .ref b0), (1, .int (nI (v))), (2, .int (d))]) hx hb dB_hasBitsOfX_9 rfl hl (by decide) rfl (fun ls hl => ?_)
  refine lv_aload_n hx hb dB_hasBitsOfX_10 rfl (lv_at hl 1 rfl) ?_
  refine dw_get hx hb hts inBc hown hG 0 0 rfl rfl (by decide) hw138 rfl rfl dB_hasBitsOfX_11 ?_
  refine dw_get hx hb hts inUc hown hG 1 0 rfl rfl (by decide) hw34 rfl rfl dB_hasBitsOfX_14 ?_
  refine lv_iload_n hx hb dB_hasBitsOfX_17 rfl (lv_at hl 0 rfl) ?_
  refine dw_ia (x := nI (ky)) hx hb hG 2 0 rfl rfl (y) rfl (by omega) (by decide) eky dB_hasBitsOfX_18 ?_
  refine lv_bipush (v := 10) hx hb dB_hasBitsOfX_19 (by decide) ?_
  refine lv_icmp_ne (tgt := 28) hx hb dB_hasBitsOfX_21 (by decide) (fun h21 => ?_) (fun h21 => ?_)
  · skip
    replace h21 : ¬ ky = 10 := fun hq0 => h21 ((nI_eq (a := ky) (b := 10) (by omega) (by omega)).mpr hq0)
    refine lv_iconst (v := 0) hx hb dB_hasBitsOfX_28 (by decide) ?_
    refine lv_istore (lv' := [(4, .int (0)), (3, .int (nI (y))), (0, .ref b0), (1, .int (nI (v))), (2, .int (d))]) hx hb dB_hasBitsOfX_29 hl (by decide) rfl (fun ls hl => ?_)
    refine lv_aload_n hx hb dB_hasBitsOfX_31 rfl (lv_at hl 2 rfl) ?_
    refine dw_get hx hb hts inBc hown hG 0 0 rfl rfl (by decide) hw138 rfl rfl dB_hasBitsOfX_32 ?_
    refine dw_get hx hb hts inUc hown hG 1 3 rfl rfl (by decide) hw49 rfl rfl dB_hasBitsOfX_35 ?_
    refine lv_iload_n hx hb dB_hasBitsOfX_38 rfl (lv_at hl 1 rfl) ?_
    refine dw_ia (x := (Nf) (y)) hx hb hG 4 0 rfl rfl (y) rfl (by omega) (by decide) rfl dB_hasBitsOfX_39 ?_
    refine lv_istore (lv' := [(5, .int ((Nf) (y))), (4, .int (0)), (3, .int (nI (y))), (0, .ref b0), (1, .int (nI (v))), (2, .int (d))]) hx hb dB_hasBitsOfX_40 hl (by decide) rfl (fun ls hl => ?_)
    refine lv_aload_n hx hb dB_hasBitsOfX_42 rfl (lv_at hl 3 rfl) ?_
    refine dw_get hx hb hts inBc hown hG 0 0 rfl rfl (by decide) hw138 rfl rfl dB_hasBitsOfX_43 ?_
    refine dw_get hx hb hts inUc hown hG 1 0 rfl rfl (by decide) hw34 rfl rfl dB_hasBitsOfX_46 ?_
    refine lv_iload_n hx hb dB_hasBitsOfX_49 rfl (lv_at hl 4 rfl) ?_
    refine dw_ia (x := 3) hx hb hG 2 0 rfl rfl (v) rfl (by omega) (by decide) ek dB_hasBitsOfX_50 ?_
    refine lv_tableIn (tgt := 116) hx hb dB_hasBitsOfX_51 (by decide) (by decide) rfl (by decide) ?_
    refine lv_iload hx hb dB_hasBitsOfX_116 (lv_at hl 1 rfl) ?_
    refine lv_if_eq (tgt := 134) hx hb dB_hasBitsOfX_118 (by decide) (fun h118 => ?_) (fun h118 => ?_)
    · skip
      replace h118 := (nI_eq (a := 0) (b := 0) (by omega) (by omega)).mp h118
      refine lv_iconst (v := 0) hx hb dB_hasBitsOfX_134 (by decide) ?_
      subst hQ
      exact dw_zret hx hb hr rfl hG (()) rfl ((if_neg (by show ¬ (decide (ky = 10) && decide (d &&& (Nf y ^^^ (-1)) = 0)) = true; rw [decide_eq_false h21, Bool.false_and]; decide)).symm) dB_hasBitsOfX_135 hlocks
    replace h118 : ¬ 0 = 0 := fun hq0 => h118 ((nI_eq (a := 0) (b := 0) (by omega) (by omega)).mpr hq0)
    (exfalso; omega)
  replace h21 := (nI_eq (a := ky) (b := 10) (by omega) (by omega)).mp h21
  refine lv_iconst (v := 1) hx hb dB_hasBitsOfX_24 (by decide) ?_
  refine lv_goto (tgt := 29) hx hb dB_hasBitsOfX_25 (by decide) ?_
  refine lv_istore (lv' := [(4, .int (1)), (3, .int (nI (y))), (0, .ref b0), (1, .int (nI (v))), (2, .int (d))]) hx hb dB_hasBitsOfX_29 hl (by decide) rfl (fun ls hl => ?_)
  refine lv_aload_n hx hb dB_hasBitsOfX_31 rfl (lv_at hl 2 rfl) ?_
  refine dw_get hx hb hts inBc hown hG 0 0 rfl rfl (by decide) hw138 rfl rfl dB_hasBitsOfX_32 ?_
  refine dw_get hx hb hts inUc hown hG 1 3 rfl rfl (by decide) hw49 rfl rfl dB_hasBitsOfX_35 ?_
  refine lv_iload_n hx hb dB_hasBitsOfX_38 rfl (lv_at hl 1 rfl) ?_
  refine dw_ia (x := (Nf) (y)) hx hb hG 4 0 rfl rfl (y) rfl (by omega) (by decide) rfl dB_hasBitsOfX_39 ?_
  refine lv_istore (lv' := [(5, .int ((Nf) (y))), (4, .int (1)), (3, .int (nI (y))), (0, .ref b0), (1, .int (nI (v))), (2, .int (d))]) hx hb dB_hasBitsOfX_40 hl (by decide) rfl (fun ls hl => ?_)
  refine lv_aload_n hx hb dB_hasBitsOfX_42 rfl (lv_at hl 3 rfl) ?_
  refine dw_get hx hb hts inBc hown hG 0 0 rfl rfl (by decide) hw138 rfl rfl dB_hasBitsOfX_43 ?_
  refine dw_get hx hb hts inUc hown hG 1 0 rfl rfl (by decide) hw34 rfl rfl dB_hasBitsOfX_46 ?_
  refine lv_iload_n hx hb dB_hasBitsOfX_49 rfl (lv_at hl 4 rfl) ?_
  refine dw_ia (x := 3) hx hb hG 2 0 rfl rfl (v) rfl (by omega) (by decide) ek dB_hasBitsOfX_50 ?_
  refine lv_tableIn (tgt := 116) hx hb dB_hasBitsOfX_51 (by decide) (by decide) rfl (by decide) ?_
  refine lv_iload hx hb dB_hasBitsOfX_116 (lv_at hl 1 rfl) ?_
  refine lv_if_eq (tgt := 134) hx hb dB_hasBitsOfX_118 (by decide) (fun h118 => ?_) (fun h118 => ?_)
  · skip
    replace h118 := (nI_eq (a := 1) (b := 0) (by omega) (by omega)).mp h118
    (exfalso; omega)
  replace h118 : ¬ 1 = 0 := fun hq0 => h118 ((nI_eq (a := 1) (b := 0) (by omega) (by omega)).mpr hq0)
  refine lv_iload_n hx hb dB_hasBitsOfX_121 rfl (lv_at hl 5 rfl) ?_
  refine lv_iload hx hb dB_hasBitsOfX_122 (lv_at hl 0 rfl) ?_
  refine lv_iconst (v := -1) hx hb dB_hasBitsOfX_124 (by decide) ?_
  refine lv_ixor hx hb dB_hasBitsOfX_125 ?_
  refine lv_iand hx hb dB_hasBitsOfX_126 ?_
  refine lv_if_ne (tgt := 134) hx hb dB_hasBitsOfX_127 (by decide) (fun h127 => ?_) (fun h127 => ?_)
  · skip
    refine lv_iconst (v := 0) hx hb dB_hasBitsOfX_134 (by decide) ?_
    subst hQ
    exact dw_zret hx hb hr rfl hG (()) rfl ((if_neg (by show ¬ (decide (ky = 10) && decide (d &&& (Nf y ^^^ (-1)) = 0)) = true; rw [decide_eq_false h127, Bool.and_false]; decide)).symm) dB_hasBitsOfX_135 hlocks
  refine lv_iconst (v := 1) hx hb dB_hasBitsOfX_130 (by decide) ?_
  refine lv_goto (tgt := 135) hx hb dB_hasBitsOfX_131 (by decide) ?_
  subst hQ
  exact dw_zret hx hb hr rfl hG (()) rfl ((if_pos (by show (decide (ky = 10) && decide (d &&& (Nf y ^^^ (-1)) = 0)) = true; rw [decide_eq_true h21, decide_eq_true h127]; rfl)).symm) dB_hasBitsOfX_135 hlocks

set_option maxRecDepth 100000 in
set_option maxHeartbeats 4000000 in
theorem cb_has4 (l : Launch) (dC : Nat → ClassId) (dI : Nat → Nat → Nat) (cI cZ : ClassId) (b0 u0 aK aX aY aN aV aM f0 e0 g0 aRp aNr aI c0 h0 n R : Nat) (an : Int32) (Kf Yf Nf : Nat → Int32) (v y ky : Nat) (d : Int32) (sz : Nat) (hv : v < 24) (hy9 : y < 24) (ey : Yf v = nI y) (hky : ky ≤ 13) (eky : Kf y = nI ky) (ek : Kf v = nI 4) : Met l yB_hasBitsOfX wsB_hasBitsOfX { frames := 2, cells := 0, slots := 0, locals := 60 } (va_Pc [.ref b0, .int (nI (v)), .int (d)] (dw_pre (dC, dI) vwCl [(b0, .inr (0, [.ref u0, .ref f0, .ref e0, .ref g0, .ref aRp, .ref aNr, .ref aI, .ref c0, .ref h0, .int (an)])), (u0, .inr (1, [.ref aK, .ref aX, .ref aY, .ref aN, .ref aV, .ref aM, .int (nI (n)), .int (nI (R))])), (aK, .inl (cI, 24, .inl (Kf))), (aY, .inl (cI, 24, .inl (Yf))), (aN, .inl (cI, 24, .inl (Nf)))] [(cI, .int), (cZ, .boolean)] sz)) (va_Qi (fun (r : Int32) (u : Unit) => r = if db_has 4 (decide (ky = 10)) (Nf y) d = true then 1 else 0) (fun u t => dw_post (dC, dI) vwCl [(b0, .inr (0, [.ref u0, .ref f0, .ref e0, .ref g0, .ref aRp, .ref aNr, .ref aI, .ref c0, .ref h0, .int (an)])), (u0, .inr (1, [.ref aK, .ref aX, .ref aY, .ref aN, .ref aV, .ref aM, .int (nI (n)), .int (nI (R))])), (aK, .inl (cI, 24, .inl (Kf))), (aY, .inl (cI, 24, .inl (Yf))), (aN, .inl (cI, 24, .inl (Nf)))] [(cI, .int), (cZ, .boolean)] (va_A [(b0, .inr (0, [.ref u0, .ref f0, .ref e0, .ref g0, .ref aRp, .ref aNr, .ref aI, .ref c0, .ref h0, .int (an)])), (u0, .inr (1, [.ref aK, .ref aX, .ref aY, .ref aN, .ref aV, .ref aM, .int (nI (n)), .int (nI (R))])), (aK, .inl (cI, 24, .inl (Kf))), (aY, .inl (cI, 24, .inl (Yf))), (aN, .inl (cI, 24, .inl (Nf)))] sz) t) (va_A [(b0, .inr (0, [.ref u0, .ref f0, .ref e0, .ref g0, .ref aRp, .ref aNr, .ref aI, .ref c0, .ref h0, .int (an)])), (u0, .inr (1, [.ref aK, .ref aX, .ref aY, .ref aN, .ref aV, .ref aM, .int (nI (n)), .int (nI (R))])), (aK, .inl (cI, 24, .inl (Kf))), (aY, .inl (cI, 24, .inl (Yf))), (aN, .inl (cI, 24, .inl (Nf)))] sz)) 0 0 (va_A [(b0, .inr (0, [.ref u0, .ref f0, .ref e0, .ref g0, .ref aRp, .ref aNr, .ref aI, .ref c0, .ref h0, .int (an)])), (u0, .inr (1, [.ref aK, .ref aX, .ref aY, .ref aN, .ref aV, .ref aM, .int (nI (n)), .int (nI (R))])), (aK, .inl (cI, 24, .inl (Kf))), (aY, .inl (cI, 24, .inl (Yf))), (aN, .inl (cI, 24, .inl (Nf)))] sz) := by
  refine Met.ofW (cc := cB_hasBitsOfX) (maxL := 6) (ret := (some .boolean)) (by decide) rfl ?_
  intro p e s m args below meth c s₁ B hml hv0
  have hx := B.exec
  have hb := B.bytes
  have hr := B.returns
  have hts := atoms_spec (ws := wsB_hasBitsOfX) B.pre
  have hown : s.vm.findClass RB = some m.cls := findClass_of_methodNamed B.named
  have hlocks := B.notSynchronized
  obtain ⟨rfl, hsz, hG⟩ := dw_enter hv0
  generalize va_A [(b0, .inr (0, [.ref u0, .ref f0, .ref e0, .ref g0, .ref aRp, .ref aNr, .ref aI, .ref c0, .ref h0, .int (an)])), (u0, .inr (1, [.ref aK, .ref aX, .ref aY, .ref aN, .ref aV, .ref aM, .int (nI (n)), .int (nI (R))])), (aK, .inl (cI, 24, .inl (Kf))), (aY, .inl (cI, 24, .inl (Yf))), (aN, .inl (cI, 24, .inl (Nf)))] sz = A at hG ⊢
  have hl := lv_entry ([.ref b0, .int (nI (v)), .int (d)]) (n := 6) (Nat.le_of_ble_eq_true rfl)
  rw [lg_entry_eq]
  generalize (lg_sl ([.ref b0, .int (nI (v)), .int (d)]) ++ List.replicate (6 - (lg_sl ([.ref b0, .int (nI (v)), .int (d)])).length) Slot.unset).toArray = ls at hl ⊢
  have hl : lv_has ls 6 [(0, .ref b0), (1, .int (nI (v))), (2, .int (d))] := hl
  have hw138 := hts _ (List.mem_cons_of_mem _ tw_138)
  have hw44 := hts _ (List.mem_cons_of_mem _ tw_44)
  have hw34 := hts _ (List.mem_cons_of_mem _ tw_34)
  have hw49 := hts _ (List.mem_cons_of_mem _ tw_49)
  refine dw_Q (fun Q hQ => ?_)
  suffices hgo : ∀ (H : Heap) (locs : List Loc), dw_G (dC, dI) vwCl [(cI, .int), (cZ, .boolean)] A s.heap s [(b0, .inr (0, [.ref u0, .ref f0, .ref e0, .ref g0, .ref aRp, .ref aNr, .ref aI, .ref c0, .ref h0, .int (an)])), (u0, .inr (1, [.ref aK, .ref aX, .ref aY, .ref aN, .ref aV, .ref aM, .int (nI (n)), .int (nI (R))])), (aK, .inl (cI, 24, .inl (Kf))), (aY, .inl (cI, 24, .inl (Yf))), (aN, .inl (cI, 24, .inl (Nf)))] H locs → W p l e (headSpec wsB_hasBitsOfX { frames := 2, cells := 0, slots := 0, locals := 60 }).room s m [.ref b0, .int (nI (v)), .int (d)].toArray below meth c H locs 0 0 Q (F0 m 0 ls []) from hgo _ _ hG
  clear hG
  intro H locs hG
  refine lv_aload_n hx hb dB_hasBitsOfX_0 rfl (lv_at hl 0 rfl) ?_
  refine dw_get hx hb hts inBc hown hG 0 0 rfl rfl (by decide) hw138 rfl rfl dB_hasBitsOfX_1 ?_
  refine dw_get hx hb hts inUc hown hG 1 2 rfl rfl (by decide) hw44 rfl rfl dB_hasBitsOfX_4 ?_
  refine lv_iload_n hx hb dB_hasBitsOfX_7 rfl (lv_at hl 1 rfl) ?_
  refine dw_ia (x := nI (y)) hx hb hG 3 0 rfl rfl (v) rfl (by omega) (by decide) ey dB_hasBitsOfX_8 ?_
  refine lv_istore_n (lv' := [(3, .int (nI (y))), (0, .ref b0), (1, .int (nI (v))), (2, .int (d))]) hx hb dB_hasBitsOfX_9 rfl hl (by decide) rfl (fun ls hl => ?_)
  refine lv_aload_n hx hb dB_hasBitsOfX_10 rfl (lv_at hl 1 rfl) ?_
  refine dw_get hx hb hts inBc hown hG 0 0 rfl rfl (by decide) hw138 rfl rfl dB_hasBitsOfX_11 ?_
  refine dw_get hx hb hts inUc hown hG 1 0 rfl rfl (by decide) hw34 rfl rfl dB_hasBitsOfX_14 ?_
  refine lv_iload_n hx hb dB_hasBitsOfX_17 rfl (lv_at hl 0 rfl) ?_
  refine dw_ia (x := nI (ky)) hx hb hG 2 0 rfl rfl (y) rfl (by omega) (by decide) eky dB_hasBitsOfX_18 ?_
  refine lv_bipush (v := 10) hx hb dB_hasBitsOfX_19 (by decide) ?_
  refine lv_icmp_ne (tgt := 28) hx hb dB_hasBitsOfX_21 (by decide) (fun h21 => ?_) (fun h21 => ?_)
  · skip
    replace h21 : ¬ ky = 10 := fun hq0 => h21 ((nI_eq (a := ky) (b := 10) (by omega) (by omega)).mpr hq0)
    refine lv_iconst (v := 0) hx hb dB_hasBitsOfX_28 (by decide) ?_
    refine lv_istore (lv' := [(4, .int (0)), (3, .int (nI (y))), (0, .ref b0), (1, .int (nI (v))), (2, .int (d))]) hx hb dB_hasBitsOfX_29 hl (by decide) rfl (fun ls hl => ?_)
    refine lv_aload_n hx hb dB_hasBitsOfX_31 rfl (lv_at hl 2 rfl) ?_
    refine dw_get hx hb hts inBc hown hG 0 0 rfl rfl (by decide) hw138 rfl rfl dB_hasBitsOfX_32 ?_
    refine dw_get hx hb hts inUc hown hG 1 3 rfl rfl (by decide) hw49 rfl rfl dB_hasBitsOfX_35 ?_
    refine lv_iload_n hx hb dB_hasBitsOfX_38 rfl (lv_at hl 1 rfl) ?_
    refine dw_ia (x := (Nf) (y)) hx hb hG 4 0 rfl rfl (y) rfl (by omega) (by decide) rfl dB_hasBitsOfX_39 ?_
    refine lv_istore (lv' := [(5, .int ((Nf) (y))), (4, .int (0)), (3, .int (nI (y))), (0, .ref b0), (1, .int (nI (v))), (2, .int (d))]) hx hb dB_hasBitsOfX_40 hl (by decide) rfl (fun ls hl => ?_)
    refine lv_aload_n hx hb dB_hasBitsOfX_42 rfl (lv_at hl 3 rfl) ?_
    refine dw_get hx hb hts inBc hown hG 0 0 rfl rfl (by decide) hw138 rfl rfl dB_hasBitsOfX_43 ?_
    refine dw_get hx hb hts inUc hown hG 1 0 rfl rfl (by decide) hw34 rfl rfl dB_hasBitsOfX_46 ?_
    refine lv_iload_n hx hb dB_hasBitsOfX_49 rfl (lv_at hl 4 rfl) ?_
    refine dw_ia (x := 4) hx hb hG 2 0 rfl rfl (v) rfl (by omega) (by decide) ek dB_hasBitsOfX_50 ?_
    refine lv_tableIn (tgt := 136) hx hb dB_hasBitsOfX_51 (by decide) (by decide) rfl (by decide) ?_
    refine lv_iload hx hb dB_hasBitsOfX_136 (lv_at hl 1 rfl) ?_
    refine lv_if_eq (tgt := 152) hx hb dB_hasBitsOfX_138 (by decide) (fun h138 => ?_) (fun h138 => ?_)
    · skip
      replace h138 := (nI_eq (a := 0) (b := 0) (by omega) (by omega)).mp h138
      refine lv_iconst (v := 0) hx hb dB_hasBitsOfX_152 (by decide) ?_
      subst hQ
      exact dw_zret hx hb hr rfl hG (()) rfl ((if_neg (by show ¬ (decide (ky = 10) && decide (d &&& Nf y = 0)) = true; rw [decide_eq_false h21, Bool.false_and]; decide)).symm) dB_hasBitsOfX_153 hlocks
    replace h138 : ¬ 0 = 0 := fun hq0 => h138 ((nI_eq (a := 0) (b := 0) (by omega) (by omega)).mpr hq0)
    (exfalso; omega)
  replace h21 := (nI_eq (a := ky) (b := 10) (by omega) (by omega)).mp h21
  refine lv_iconst (v := 1) hx hb dB_hasBitsOfX_24 (by decide) ?_
  refine lv_goto (tgt := 29) hx hb dB_hasBitsOfX_25 (by decide) ?_
  refine lv_istore (lv' := [(4, .int (1)), (3, .int (nI (y))), (0, .ref b0), (1, .int (nI (v))), (2, .int (d))]) hx hb dB_hasBitsOfX_29 hl (by decide) rfl (fun ls hl => ?_)
  refine lv_aload_n hx hb dB_hasBitsOfX_31 rfl (lv_at hl 2 rfl) ?_
  refine dw_get hx hb hts inBc hown hG 0 0 rfl rfl (by decide) hw138 rfl rfl dB_hasBitsOfX_32 ?_
  refine dw_get hx hb hts inUc hown hG 1 3 rfl rfl (by decide) hw49 rfl rfl dB_hasBitsOfX_35 ?_
  refine lv_iload_n hx hb dB_hasBitsOfX_38 rfl (lv_at hl 1 rfl) ?_
  refine dw_ia (x := (Nf) (y)) hx hb hG 4 0 rfl rfl (y) rfl (by omega) (by decide) rfl dB_hasBitsOfX_39 ?_
  refine lv_istore (lv' := [(5, .int ((Nf) (y))), (4, .int (1)), (3, .int (nI (y))), (0, .ref b0), (1, .int (nI (v))), (2, .int (d))]) hx hb dB_hasBitsOfX_40 hl (by decide) rfl (fun ls hl => ?_)
  refine lv_aload_n hx hb dB_hasBitsOfX_42 rfl (lv_at hl 3 rfl) ?_
  refine dw_get hx hb hts inBc hown hG 0 0 rfl rfl (by decide) hw138 rfl rfl dB_hasBitsOfX_43 ?_
  refine dw_get hx hb hts inUc hown hG 1 0 rfl rfl (by decide) hw34 rfl rfl dB_hasBitsOfX_46 ?_
  refine lv_iload_n hx hb dB_hasBitsOfX_49 rfl (lv_at hl 4 rfl) ?_
  refine dw_ia (x := 4) hx hb hG 2 0 rfl rfl (v) rfl (by omega) (by decide) ek dB_hasBitsOfX_50 ?_
  refine lv_tableIn (tgt := 136) hx hb dB_hasBitsOfX_51 (by decide) (by decide) rfl (by decide) ?_
  refine lv_iload hx hb dB_hasBitsOfX_136 (lv_at hl 1 rfl) ?_
  refine lv_if_eq (tgt := 152) hx hb dB_hasBitsOfX_138 (by decide) (fun h138 => ?_) (fun h138 => ?_)
  · skip
    replace h138 := (nI_eq (a := 1) (b := 0) (by omega) (by omega)).mp h138
    (exfalso; omega)
  replace h138 : ¬ 1 = 0 := fun hq0 => h138 ((nI_eq (a := 1) (b := 0) (by omega) (by omega)).mpr hq0)
  refine lv_iload_n hx hb dB_hasBitsOfX_141 rfl (lv_at hl 5 rfl) ?_
  refine lv_iload hx hb dB_hasBitsOfX_142 (lv_at hl 0 rfl) ?_
  refine lv_iand hx hb dB_hasBitsOfX_144 ?_
  refine lv_if_ne (tgt := 152) hx hb dB_hasBitsOfX_145 (by decide) (fun h145 => ?_) (fun h145 => ?_)
  · skip
    refine lv_iconst (v := 0) hx hb dB_hasBitsOfX_152 (by decide) ?_
    subst hQ
    exact dw_zret hx hb hr rfl hG (()) rfl ((if_neg (by show ¬ (decide (ky = 10) && decide (d &&& Nf y = 0)) = true; rw [decide_eq_false h145, Bool.and_false]; decide)).symm) dB_hasBitsOfX_153 hlocks
  refine lv_iconst (v := 1) hx hb dB_hasBitsOfX_148 (by decide) ?_
  refine lv_goto (tgt := 153) hx hb dB_hasBitsOfX_149 (by decide) ?_
  subst hQ
  exact dw_zret hx hb hr rfl hG (()) rfl ((if_pos (by show (decide (ky = 10) && decide (d &&& Nf y = 0)) = true; rw [decide_eq_true h21, decide_eq_true h145]; rfl)).symm) dB_hasBitsOfX_153 hlocks

set_option maxRecDepth 100000 in
set_option maxHeartbeats 4000000 in
theorem cb_has5 (l : Launch) (dC : Nat → ClassId) (dI : Nat → Nat → Nat) (cI cZ : ClassId) (b0 u0 aK aX aY aN aV aM f0 e0 g0 aRp aNr aI c0 h0 n R : Nat) (an : Int32) (Kf Yf Nf : Nat → Int32) (v y ky : Nat) (d : Int32) (sz : Nat) (hv : v < 24) (hy9 : y < 24) (ey : Yf v = nI y) (hky : ky ≤ 13) (eky : Kf y = nI ky) (ek : Kf v = nI 5) : Met l yB_hasBitsOfX wsB_hasBitsOfX { frames := 2, cells := 0, slots := 0, locals := 60 } (va_Pc [.ref b0, .int (nI (v)), .int (d)] (dw_pre (dC, dI) vwCl [(b0, .inr (0, [.ref u0, .ref f0, .ref e0, .ref g0, .ref aRp, .ref aNr, .ref aI, .ref c0, .ref h0, .int (an)])), (u0, .inr (1, [.ref aK, .ref aX, .ref aY, .ref aN, .ref aV, .ref aM, .int (nI (n)), .int (nI (R))])), (aK, .inl (cI, 24, .inl (Kf))), (aY, .inl (cI, 24, .inl (Yf))), (aN, .inl (cI, 24, .inl (Nf)))] [(cI, .int), (cZ, .boolean)] sz)) (va_Qi (fun (r : Int32) (u : Unit) => r = if db_has 5 (decide (ky = 10)) (Nf y) d = true then 1 else 0) (fun u t => dw_post (dC, dI) vwCl [(b0, .inr (0, [.ref u0, .ref f0, .ref e0, .ref g0, .ref aRp, .ref aNr, .ref aI, .ref c0, .ref h0, .int (an)])), (u0, .inr (1, [.ref aK, .ref aX, .ref aY, .ref aN, .ref aV, .ref aM, .int (nI (n)), .int (nI (R))])), (aK, .inl (cI, 24, .inl (Kf))), (aY, .inl (cI, 24, .inl (Yf))), (aN, .inl (cI, 24, .inl (Nf)))] [(cI, .int), (cZ, .boolean)] (va_A [(b0, .inr (0, [.ref u0, .ref f0, .ref e0, .ref g0, .ref aRp, .ref aNr, .ref aI, .ref c0, .ref h0, .int (an)])), (u0, .inr (1, [.ref aK, .ref aX, .ref aY, .ref aN, .ref aV, .ref aM, .int (nI (n)), .int (nI (R))])), (aK, .inl (cI, 24, .inl (Kf))), (aY, .inl (cI, 24, .inl (Yf))), (aN, .inl (cI, 24, .inl (Nf)))] sz) t) (va_A [(b0, .inr (0, [.ref u0, .ref f0, .ref e0, .ref g0, .ref aRp, .ref aNr, .ref aI, .ref c0, .ref h0, .int (an)])), (u0, .inr (1, [.ref aK, .ref aX, .ref aY, .ref aN, .ref aV, .ref aM, .int (nI (n)), .int (nI (R))])), (aK, .inl (cI, 24, .inl (Kf))), (aY, .inl (cI, 24, .inl (Yf))), (aN, .inl (cI, 24, .inl (Nf)))] sz)) 0 0 (va_A [(b0, .inr (0, [.ref u0, .ref f0, .ref e0, .ref g0, .ref aRp, .ref aNr, .ref aI, .ref c0, .ref h0, .int (an)])), (u0, .inr (1, [.ref aK, .ref aX, .ref aY, .ref aN, .ref aV, .ref aM, .int (nI (n)), .int (nI (R))])), (aK, .inl (cI, 24, .inl (Kf))), (aY, .inl (cI, 24, .inl (Yf))), (aN, .inl (cI, 24, .inl (Nf)))] sz) := by
  refine Met.ofW (cc := cB_hasBitsOfX) (maxL := 6) (ret := (some .boolean)) (by decide) rfl ?_
  intro p e s m args below meth c s₁ B hml hv0
  have hx := B.exec
  have hb := B.bytes
  have hr := B.returns
  have hts := atoms_spec (ws := wsB_hasBitsOfX) B.pre
  have hown : s.vm.findClass RB = some m.cls := findClass_of_methodNamed B.named
  have hlocks := B.notSynchronized
  obtain ⟨rfl, hsz, hG⟩ := dw_enter hv0
  generalize va_A [(b0, .inr (0, [.ref u0, .ref f0, .ref e0, .ref g0, .ref aRp, .ref aNr, .ref aI, .ref c0, .ref h0, .int (an)])), (u0, .inr (1, [.ref aK, .ref aX, .ref aY, .ref aN, .ref aV, .ref aM, .int (nI (n)), .int (nI (R))])), (aK, .inl (cI, 24, .inl (Kf))), (aY, .inl (cI, 24, .inl (Yf))), (aN, .inl (cI, 24, .inl (Nf)))] sz = A at hG ⊢
  have hl := lv_entry ([.ref b0, .int (nI (v)), .int (d)]) (n := 6) (Nat.le_of_ble_eq_true rfl)
  rw [lg_entry_eq]
  generalize (lg_sl ([.ref b0, .int (nI (v)), .int (d)]) ++ List.replicate (6 - (lg_sl ([.ref b0, .int (nI (v)), .int (d)])).length) Slot.unset).toArray = ls at hl ⊢
  have hl : lv_has ls 6 [(0, .ref b0), (1, .int (nI (v))), (2, .int (d))] := hl
  have hw138 := hts _ (List.mem_cons_of_mem _ tw_138)
  have hw44 := hts _ (List.mem_cons_of_mem _ tw_44)
  have hw34 := hts _ (List.mem_cons_of_mem _ tw_34)
  have hw49 := hts _ (List.mem_cons_of_mem _ tw_49)
  refine dw_Q (fun Q hQ => ?_)
  suffices hgo : ∀ (H : Heap) (locs : List Loc), dw_G (dC, dI) vwCl [(cI, .int), (cZ, .boolean)] A s.heap s [(b0, .inr (0, [.ref u0, .ref f0, .ref e0, .ref g0, .ref aRp, .ref aNr, .ref aI, .ref c0, .ref h0, .int (an)])), (u0, .inr (1, [.ref aK, .ref aX, .ref aY, .ref aN, .ref aV, .ref aM, .int (nI (n)), .int (nI (R))])), (aK, .inl (cI, 24, .inl (Kf))), (aY, .inl (cI, 24, .inl (Yf))), (aN, .inl (cI, 24, .inl (Nf)))] H locs → W p l e (headSpec wsB_hasBitsOfX { frames := 2, cells := 0, slots := 0, locals := 60 }).room s m [.ref b0, .int (nI (v)), .int (d)].toArray below meth c H locs 0 0 Q (F0 m 0 ls []) from hgo _ _ hG
  clear hG
  intro H locs hG
  refine lv_aload_n hx hb dB_hasBitsOfX_0 rfl (lv_at hl 0 rfl) ?_
  refine dw_get hx hb hts inBc hown hG 0 0 rfl rfl (by decide) hw138 rfl rfl dB_hasBitsOfX_1 ?_
  refine dw_get hx hb hts inUc hown hG 1 2 rfl rfl (by decide) hw44 rfl rfl dB_hasBitsOfX_4 ?_
  refine lv_iload_n hx hb dB_hasBitsOfX_7 rfl (lv_at hl 1 rfl) ?_
  refine dw_ia (x := nI (y)) hx hb hG 3 0 rfl rfl (v) rfl (by omega) (by decide) ey dB_hasBitsOfX_8 ?_
  refine lv_istore_n (lv' := [(3, .int (nI (y))), (0, .ref b0), (1, .int (nI (v))), (2, .int (d))]) hx hb dB_hasBitsOfX_9 rfl hl (by decide) rfl (fun ls hl => ?_)
  refine lv_aload_n hx hb dB_hasBitsOfX_10 rfl (lv_at hl 1 rfl) ?_
  refine dw_get hx hb hts inBc hown hG 0 0 rfl rfl (by decide) hw138 rfl rfl dB_hasBitsOfX_11 ?_
  refine dw_get hx hb hts inUc hown hG 1 0 rfl rfl (by decide) hw34 rfl rfl dB_hasBitsOfX_14 ?_
  refine lv_iload_n hx hb dB_hasBitsOfX_17 rfl (lv_at hl 0 rfl) ?_
  refine dw_ia (x := nI (ky)) hx hb hG 2 0 rfl rfl (y) rfl (by omega) (by decide) eky dB_hasBitsOfX_18 ?_
  refine lv_bipush (v := 10) hx hb dB_hasBitsOfX_19 (by decide) ?_
  refine lv_icmp_ne (tgt := 28) hx hb dB_hasBitsOfX_21 (by decide) (fun h21 => ?_) (fun h21 => ?_)
  · skip
    replace h21 : ¬ ky = 10 := fun hq0 => h21 ((nI_eq (a := ky) (b := 10) (by omega) (by omega)).mpr hq0)
    refine lv_iconst (v := 0) hx hb dB_hasBitsOfX_28 (by decide) ?_
    refine lv_istore (lv' := [(4, .int (0)), (3, .int (nI (y))), (0, .ref b0), (1, .int (nI (v))), (2, .int (d))]) hx hb dB_hasBitsOfX_29 hl (by decide) rfl (fun ls hl => ?_)
    refine lv_aload_n hx hb dB_hasBitsOfX_31 rfl (lv_at hl 2 rfl) ?_
    refine dw_get hx hb hts inBc hown hG 0 0 rfl rfl (by decide) hw138 rfl rfl dB_hasBitsOfX_32 ?_
    refine dw_get hx hb hts inUc hown hG 1 3 rfl rfl (by decide) hw49 rfl rfl dB_hasBitsOfX_35 ?_
    refine lv_iload_n hx hb dB_hasBitsOfX_38 rfl (lv_at hl 1 rfl) ?_
    refine dw_ia (x := (Nf) (y)) hx hb hG 4 0 rfl rfl (y) rfl (by omega) (by decide) rfl dB_hasBitsOfX_39 ?_
    refine lv_istore (lv' := [(5, .int ((Nf) (y))), (4, .int (0)), (3, .int (nI (y))), (0, .ref b0), (1, .int (nI (v))), (2, .int (d))]) hx hb dB_hasBitsOfX_40 hl (by decide) rfl (fun ls hl => ?_)
    refine lv_aload_n hx hb dB_hasBitsOfX_42 rfl (lv_at hl 3 rfl) ?_
    refine dw_get hx hb hts inBc hown hG 0 0 rfl rfl (by decide) hw138 rfl rfl dB_hasBitsOfX_43 ?_
    refine dw_get hx hb hts inUc hown hG 1 0 rfl rfl (by decide) hw34 rfl rfl dB_hasBitsOfX_46 ?_
    refine lv_iload_n hx hb dB_hasBitsOfX_49 rfl (lv_at hl 4 rfl) ?_
    refine dw_ia (x := 5) hx hb hG 2 0 rfl rfl (v) rfl (by omega) (by decide) ek dB_hasBitsOfX_50 ?_
    refine lv_tableIn (tgt := 154) hx hb dB_hasBitsOfX_51 (by decide) (by decide) rfl (by decide) ?_
    refine lv_iload hx hb dB_hasBitsOfX_154 (lv_at hl 1 rfl) ?_
    refine lv_if_eq (tgt := 173) hx hb dB_hasBitsOfX_156 (by decide) (fun h156 => ?_) (fun h156 => ?_)
    · skip
      replace h156 := (nI_eq (a := 0) (b := 0) (by omega) (by omega)).mp h156
      refine lv_iconst (v := 0) hx hb dB_hasBitsOfX_173 (by decide) ?_
      subst hQ
      exact dw_zret hx hb hr rfl hG (()) rfl ((if_neg (by show ¬ (decide (ky = 10) && decide (db_upto d &&& Nf y = 0)) = true; rw [decide_eq_false h21, Bool.false_and]; decide)).symm) dB_hasBitsOfX_174 hlocks
    replace h156 : ¬ 0 = 0 := fun hq0 => h156 ((nI_eq (a := 0) (b := 0) (by omega) (by omega)).mpr hq0)
    (exfalso; omega)
  replace h21 := (nI_eq (a := ky) (b := 10) (by omega) (by omega)).mp h21
  refine lv_iconst (v := 1) hx hb dB_hasBitsOfX_24 (by decide) ?_
  refine lv_goto (tgt := 29) hx hb dB_hasBitsOfX_25 (by decide) ?_
  refine lv_istore (lv' := [(4, .int (1)), (3, .int (nI (y))), (0, .ref b0), (1, .int (nI (v))), (2, .int (d))]) hx hb dB_hasBitsOfX_29 hl (by decide) rfl (fun ls hl => ?_)
  refine lv_aload_n hx hb dB_hasBitsOfX_31 rfl (lv_at hl 2 rfl) ?_
  refine dw_get hx hb hts inBc hown hG 0 0 rfl rfl (by decide) hw138 rfl rfl dB_hasBitsOfX_32 ?_
  refine dw_get hx hb hts inUc hown hG 1 3 rfl rfl (by decide) hw49 rfl rfl dB_hasBitsOfX_35 ?_
  refine lv_iload_n hx hb dB_hasBitsOfX_38 rfl (lv_at hl 1 rfl) ?_
  refine dw_ia (x := (Nf) (y)) hx hb hG 4 0 rfl rfl (y) rfl (by omega) (by decide) rfl dB_hasBitsOfX_39 ?_
  refine lv_istore (lv' := [(5, .int ((Nf) (y))), (4, .int (1)), (3, .int (nI (y))), (0, .ref b0), (1, .int (nI (v))), (2, .int (d))]) hx hb dB_hasBitsOfX_40 hl (by decide) rfl (fun ls hl => ?_)
  refine lv_aload_n hx hb dB_hasBitsOfX_42 rfl (lv_at hl 3 rfl) ?_
  refine dw_get hx hb hts inBc hown hG 0 0 rfl rfl (by decide) hw138 rfl rfl dB_hasBitsOfX_43 ?_
  refine dw_get hx hb hts inUc hown hG 1 0 rfl rfl (by decide) hw34 rfl rfl dB_hasBitsOfX_46 ?_
  refine lv_iload_n hx hb dB_hasBitsOfX_49 rfl (lv_at hl 4 rfl) ?_
  refine dw_ia (x := 5) hx hb hG 2 0 rfl rfl (v) rfl (by omega) (by decide) ek dB_hasBitsOfX_50 ?_
  refine lv_tableIn (tgt := 154) hx hb dB_hasBitsOfX_51 (by decide) (by decide) rfl (by decide) ?_
  refine lv_iload hx hb dB_hasBitsOfX_154 (lv_at hl 1 rfl) ?_
  refine lv_if_eq (tgt := 173) hx hb dB_hasBitsOfX_156 (by decide) (fun h156 => ?_) (fun h156 => ?_)
  · skip
    replace h156 := (nI_eq (a := 1) (b := 0) (by omega) (by omega)).mp h156
    (exfalso; omega)
  replace h156 : ¬ 1 = 0 := fun hq0 => h156 ((nI_eq (a := 1) (b := 0) (by omega) (by omega)).mpr hq0)
  refine lv_iload_n hx hb dB_hasBitsOfX_159 rfl (lv_at hl 5 rfl) ?_
  refine dw_calli (wc := []) (wr := [(b0, .inr (0, [.ref u0, .ref f0, .ref e0, .ref g0, .ref aRp, .ref aNr, .ref aI, .ref c0, .ref h0, .int (an)])), (u0, .inr (1, [.ref aK, .ref aX, .ref aY, .ref aN, .ref aV, .ref aM, .int (nI (n)), .int (nI (R))])), (aK, .inl (cI, 24, .inl (Kf))), (aY, .inl (cI, 24, .inl (Yf))), (aN, .inl (cI, 24, .inl (Nf)))]) hG [] [0, 1, 2, 3, 4] rfl rfl (by decide) (by decide) (va_runS (As := [.int (d)]) (rest := []) ⟨hx, hb, hml, hown, hts⟩ (cb_upTo l dC dI cI cZ (d) H.size ) (dc_S 1 hts tw_251 tw_229 tw_1 tw_230 rfl rfl (by decide +kernel) ⟨Nat.le_of_ble_eq_true rfl, Nat.le_of_ble_eq_true rfl⟩) (dw_preS hG [] [0, 1] rfl rfl (by decide) rfl) rfl rfl hl.1 rfl (lv_room (Nat.le_of_ble_eq_true rfl)) dB_hasBitsOfX_160 ⟨Nat.le_refl _, Nat.le_refl _⟩) (fun r u H locs hp hG => ?_)
  subst hp
  have hG : dw_G (dC, dI) vwCl [(cI, .int), (cZ, .boolean)] A s.heap s [(b0, .inr (0, [.ref u0, .ref f0, .ref e0, .ref g0, .ref aRp, .ref aNr, .ref aI, .ref c0, .ref h0, .int (an)])), (u0, .inr (1, [.ref aK, .ref aX, .ref aY, .ref aN, .ref aV, .ref aM, .int (nI (n)), .int (nI (R))])), (aK, .inl (cI, 24, .inl (Kf))), (aY, .inl (cI, 24, .inl (Yf))), (aN, .inl (cI, 24, .inl (Nf)))] H locs := hG
  refine lv_iload hx hb dB_hasBitsOfX_163 (lv_at hl 0 rfl) ?_
  refine lv_iand hx hb dB_hasBitsOfX_165 ?_
  refine lv_if_ne (tgt := 173) hx hb dB_hasBitsOfX_166 (by decide) (fun h166 => ?_) (fun h166 => ?_)
  · skip
    refine lv_iconst (v := 0) hx hb dB_hasBitsOfX_173 (by decide) ?_
    subst hQ
    exact dw_zret hx hb hr rfl hG (()) rfl ((if_neg (by show ¬ (decide (ky = 10) && decide (db_upto d &&& Nf y = 0)) = true; rw [decide_eq_false h166, Bool.and_false]; decide)).symm) dB_hasBitsOfX_174 hlocks
  refine lv_iconst (v := 1) hx hb dB_hasBitsOfX_169 (by decide) ?_
  refine lv_goto (tgt := 174) hx hb dB_hasBitsOfX_170 (by decide) ?_
  subst hQ
  exact dw_zret hx hb hr rfl hG (()) rfl ((if_pos (by show (decide (ky = 10) && decide (db_upto d &&& Nf y = 0)) = true; rw [decide_eq_true h21, decide_eq_true h166]; rfl)).symm) dB_hasBitsOfX_174 hlocks

set_option maxRecDepth 100000 in
set_option maxHeartbeats 4000000 in
theorem cb_has6 (l : Launch) (dC : Nat → ClassId) (dI : Nat → Nat → Nat) (cI cZ : ClassId) (b0 u0 aK aX aY aN aV aM f0 e0 g0 aRp aNr aI c0 h0 n R : Nat) (an : Int32) (Kf Yf Nf : Nat → Int32) (v y ky : Nat) (d : Int32) (sz : Nat) (hv : v < 24) (hy9 : y < 24) (ey : Yf v = nI y) (hky : ky ≤ 13) (eky : Kf y = nI ky) (ek : Kf v = nI 6) : Met l yB_hasBitsOfX wsB_hasBitsOfX { frames := 2, cells := 0, slots := 0, locals := 60 } (va_Pc [.ref b0, .int (nI (v)), .int (d)] (dw_pre (dC, dI) vwCl [(b0, .inr (0, [.ref u0, .ref f0, .ref e0, .ref g0, .ref aRp, .ref aNr, .ref aI, .ref c0, .ref h0, .int (an)])), (u0, .inr (1, [.ref aK, .ref aX, .ref aY, .ref aN, .ref aV, .ref aM, .int (nI (n)), .int (nI (R))])), (aK, .inl (cI, 24, .inl (Kf))), (aY, .inl (cI, 24, .inl (Yf))), (aN, .inl (cI, 24, .inl (Nf)))] [(cI, .int), (cZ, .boolean)] sz)) (va_Qi (fun (r : Int32) (u : Unit) => r = if db_has 6 (decide (ky = 10)) (Nf y) d = true then 1 else 0) (fun u t => dw_post (dC, dI) vwCl [(b0, .inr (0, [.ref u0, .ref f0, .ref e0, .ref g0, .ref aRp, .ref aNr, .ref aI, .ref c0, .ref h0, .int (an)])), (u0, .inr (1, [.ref aK, .ref aX, .ref aY, .ref aN, .ref aV, .ref aM, .int (nI (n)), .int (nI (R))])), (aK, .inl (cI, 24, .inl (Kf))), (aY, .inl (cI, 24, .inl (Yf))), (aN, .inl (cI, 24, .inl (Nf)))] [(cI, .int), (cZ, .boolean)] (va_A [(b0, .inr (0, [.ref u0, .ref f0, .ref e0, .ref g0, .ref aRp, .ref aNr, .ref aI, .ref c0, .ref h0, .int (an)])), (u0, .inr (1, [.ref aK, .ref aX, .ref aY, .ref aN, .ref aV, .ref aM, .int (nI (n)), .int (nI (R))])), (aK, .inl (cI, 24, .inl (Kf))), (aY, .inl (cI, 24, .inl (Yf))), (aN, .inl (cI, 24, .inl (Nf)))] sz) t) (va_A [(b0, .inr (0, [.ref u0, .ref f0, .ref e0, .ref g0, .ref aRp, .ref aNr, .ref aI, .ref c0, .ref h0, .int (an)])), (u0, .inr (1, [.ref aK, .ref aX, .ref aY, .ref aN, .ref aV, .ref aM, .int (nI (n)), .int (nI (R))])), (aK, .inl (cI, 24, .inl (Kf))), (aY, .inl (cI, 24, .inl (Yf))), (aN, .inl (cI, 24, .inl (Nf)))] sz)) 0 0 (va_A [(b0, .inr (0, [.ref u0, .ref f0, .ref e0, .ref g0, .ref aRp, .ref aNr, .ref aI, .ref c0, .ref h0, .int (an)])), (u0, .inr (1, [.ref aK, .ref aX, .ref aY, .ref aN, .ref aV, .ref aM, .int (nI (n)), .int (nI (R))])), (aK, .inl (cI, 24, .inl (Kf))), (aY, .inl (cI, 24, .inl (Yf))), (aN, .inl (cI, 24, .inl (Nf)))] sz) := by
  refine Met.ofW (cc := cB_hasBitsOfX) (maxL := 6) (ret := (some .boolean)) (by decide) rfl ?_
  intro p e s m args below meth c s₁ B hml hv0
  have hx := B.exec
  have hb := B.bytes
  have hr := B.returns
  have hts := atoms_spec (ws := wsB_hasBitsOfX) B.pre
  have hown : s.vm.findClass RB = some m.cls := findClass_of_methodNamed B.named
  have hlocks := B.notSynchronized
  obtain ⟨rfl, hsz, hG⟩ := dw_enter hv0
  generalize va_A [(b0, .inr (0, [.ref u0, .ref f0, .ref e0, .ref g0, .ref aRp, .ref aNr, .ref aI, .ref c0, .ref h0, .int (an)])), (u0, .inr (1, [.ref aK, .ref aX, .ref aY, .ref aN, .ref aV, .ref aM, .int (nI (n)), .int (nI (R))])), (aK, .inl (cI, 24, .inl (Kf))), (aY, .inl (cI, 24, .inl (Yf))), (aN, .inl (cI, 24, .inl (Nf)))] sz = A at hG ⊢
  have hl := lv_entry ([.ref b0, .int (nI (v)), .int (d)]) (n := 6) (Nat.le_of_ble_eq_true rfl)
  rw [lg_entry_eq]
  generalize (lg_sl ([.ref b0, .int (nI (v)), .int (d)]) ++ List.replicate (6 - (lg_sl ([.ref b0, .int (nI (v)), .int (d)])).length) Slot.unset).toArray = ls at hl ⊢
  have hl : lv_has ls 6 [(0, .ref b0), (1, .int (nI (v))), (2, .int (d))] := hl
  have hw138 := hts _ (List.mem_cons_of_mem _ tw_138)
  have hw44 := hts _ (List.mem_cons_of_mem _ tw_44)
  have hw34 := hts _ (List.mem_cons_of_mem _ tw_34)
  have hw49 := hts _ (List.mem_cons_of_mem _ tw_49)
  refine dw_Q (fun Q hQ => ?_)
  suffices hgo : ∀ (H : Heap) (locs : List Loc), dw_G (dC, dI) vwCl [(cI, .int), (cZ, .boolean)] A s.heap s [(b0, .inr (0, [.ref u0, .ref f0, .ref e0, .ref g0, .ref aRp, .ref aNr, .ref aI, .ref c0, .ref h0, .int (an)])), (u0, .inr (1, [.ref aK, .ref aX, .ref aY, .ref aN, .ref aV, .ref aM, .int (nI (n)), .int (nI (R))])), (aK, .inl (cI, 24, .inl (Kf))), (aY, .inl (cI, 24, .inl (Yf))), (aN, .inl (cI, 24, .inl (Nf)))] H locs → W p l e (headSpec wsB_hasBitsOfX { frames := 2, cells := 0, slots := 0, locals := 60 }).room s m [.ref b0, .int (nI (v)), .int (d)].toArray below meth c H locs 0 0 Q (F0 m 0 ls []) from hgo _ _ hG
  clear hG
  intro H locs hG
  refine lv_aload_n hx hb dB_hasBitsOfX_0 rfl (lv_at hl 0 rfl) ?_
  refine dw_get hx hb hts inBc hown hG 0 0 rfl rfl (by decide) hw138 rfl rfl dB_hasBitsOfX_1 ?_
  refine dw_get hx hb hts inUc hown hG 1 2 rfl rfl (by decide) hw44 rfl rfl dB_hasBitsOfX_4 ?_
  refine lv_iload_n hx hb dB_hasBitsOfX_7 rfl (lv_at hl 1 rfl) ?_
  refine dw_ia (x := nI (y)) hx hb hG 3 0 rfl rfl (v) rfl (by omega) (by decide) ey dB_hasBitsOfX_8 ?_
  refine lv_istore_n (lv' := [(3, .int (nI (y))), (0, .ref b0), (1, .int (nI (v))), (2, .int (d))]) hx hb dB_hasBitsOfX_9 rfl hl (by decide) rfl (fun ls hl => ?_)
  refine lv_aload_n hx hb dB_hasBitsOfX_10 rfl (lv_at hl 1 rfl) ?_
  refine dw_get hx hb hts inBc hown hG 0 0 rfl rfl (by decide) hw138 rfl rfl dB_hasBitsOfX_11 ?_
  refine dw_get hx hb hts inUc hown hG 1 0 rfl rfl (by decide) hw34 rfl rfl dB_hasBitsOfX_14 ?_
  refine lv_iload_n hx hb dB_hasBitsOfX_17 rfl (lv_at hl 0 rfl) ?_
  refine dw_ia (x := nI (ky)) hx hb hG 2 0 rfl rfl (y) rfl (by omega) (by decide) eky dB_hasBitsOfX_18 ?_
  refine lv_bipush (v := 10) hx hb dB_hasBitsOfX_19 (by decide) ?_
  refine lv_icmp_ne (tgt := 28) hx hb dB_hasBitsOfX_21 (by decide) (fun h21 => ?_) (fun h21 => ?_)
  · skip
    replace h21 : ¬ ky = 10 := fun hq0 => h21 ((nI_eq (a := ky) (b := 10) (by omega) (by omega)).mpr hq0)
    refine lv_iconst (v := 0) hx hb dB_hasBitsOfX_28 (by decide) ?_
    refine lv_istore (lv' := [(4, .int (0)), (3, .int (nI (y))), (0, .ref b0), (1, .int (nI (v))), (2, .int (d))]) hx hb dB_hasBitsOfX_29 hl (by decide) rfl (fun ls hl => ?_)
    refine lv_aload_n hx hb dB_hasBitsOfX_31 rfl (lv_at hl 2 rfl) ?_
    refine dw_get hx hb hts inBc hown hG 0 0 rfl rfl (by decide) hw138 rfl rfl dB_hasBitsOfX_32 ?_
    refine dw_get hx hb hts inUc hown hG 1 3 rfl rfl (by decide) hw49 rfl rfl dB_hasBitsOfX_35 ?_
    refine lv_iload_n hx hb dB_hasBitsOfX_38 rfl (lv_at hl 1 rfl) ?_
    refine dw_ia (x := (Nf) (y)) hx hb hG 4 0 rfl rfl (y) rfl (by omega) (by decide) rfl dB_hasBitsOfX_39 ?_
    refine lv_istore (lv' := [(5, .int ((Nf) (y))), (4, .int (0)), (3, .int (nI (y))), (0, .ref b0), (1, .int (nI (v))), (2, .int (d))]) hx hb dB_hasBitsOfX_40 hl (by decide) rfl (fun ls hl => ?_)
    refine lv_aload_n hx hb dB_hasBitsOfX_42 rfl (lv_at hl 3 rfl) ?_
    refine dw_get hx hb hts inBc hown hG 0 0 rfl rfl (by decide) hw138 rfl rfl dB_hasBitsOfX_43 ?_
    refine dw_get hx hb hts inUc hown hG 1 0 rfl rfl (by decide) hw34 rfl rfl dB_hasBitsOfX_46 ?_
    refine lv_iload_n hx hb dB_hasBitsOfX_49 rfl (lv_at hl 4 rfl) ?_
    refine dw_ia (x := 6) hx hb hG 2 0 rfl rfl (v) rfl (by omega) (by decide) ek dB_hasBitsOfX_50 ?_
    refine lv_tableIn (tgt := 202) hx hb dB_hasBitsOfX_51 (by decide) (by decide) rfl (by decide) ?_
    refine lv_iconst (v := 0) hx hb dB_hasBitsOfX_202 (by decide) ?_
    subst hQ
    exact dw_zret hx hb hr rfl hG (()) rfl ((if_neg (by show ¬ false = true; decide)).symm) dB_hasBitsOfX_203 hlocks
  replace h21 := (nI_eq (a := ky) (b := 10) (by omega) (by omega)).mp h21
  refine lv_iconst (v := 1) hx hb dB_hasBitsOfX_24 (by decide) ?_
  refine lv_goto (tgt := 29) hx hb dB_hasBitsOfX_25 (by decide) ?_
  refine lv_istore (lv' := [(4, .int (1)), (3, .int (nI (y))), (0, .ref b0), (1, .int (nI (v))), (2, .int (d))]) hx hb dB_hasBitsOfX_29 hl (by decide) rfl (fun ls hl => ?_)
  refine lv_aload_n hx hb dB_hasBitsOfX_31 rfl (lv_at hl 2 rfl) ?_
  refine dw_get hx hb hts inBc hown hG 0 0 rfl rfl (by decide) hw138 rfl rfl dB_hasBitsOfX_32 ?_
  refine dw_get hx hb hts inUc hown hG 1 3 rfl rfl (by decide) hw49 rfl rfl dB_hasBitsOfX_35 ?_
  refine lv_iload_n hx hb dB_hasBitsOfX_38 rfl (lv_at hl 1 rfl) ?_
  refine dw_ia (x := (Nf) (y)) hx hb hG 4 0 rfl rfl (y) rfl (by omega) (by decide) rfl dB_hasBitsOfX_39 ?_
  refine lv_istore (lv' := [(5, .int ((Nf) (y))), (4, .int (1)), (3, .int (nI (y))), (0, .ref b0), (1, .int (nI (v))), (2, .int (d))]) hx hb dB_hasBitsOfX_40 hl (by decide) rfl (fun ls hl => ?_)
  refine lv_aload_n hx hb dB_hasBitsOfX_42 rfl (lv_at hl 3 rfl) ?_
  refine dw_get hx hb hts inBc hown hG 0 0 rfl rfl (by decide) hw138 rfl rfl dB_hasBitsOfX_43 ?_
  refine dw_get hx hb hts inUc hown hG 1 0 rfl rfl (by decide) hw34 rfl rfl dB_hasBitsOfX_46 ?_
  refine lv_iload_n hx hb dB_hasBitsOfX_49 rfl (lv_at hl 4 rfl) ?_
  refine dw_ia (x := 6) hx hb hG 2 0 rfl rfl (v) rfl (by omega) (by decide) ek dB_hasBitsOfX_50 ?_
  refine lv_tableIn (tgt := 202) hx hb dB_hasBitsOfX_51 (by decide) (by decide) rfl (by decide) ?_
  refine lv_iconst (v := 0) hx hb dB_hasBitsOfX_202 (by decide) ?_
  subst hQ
  exact dw_zret hx hb hr rfl hG (()) rfl ((if_neg (by show ¬ false = true; decide)).symm) dB_hasBitsOfX_203 hlocks

set_option maxRecDepth 100000 in
set_option maxHeartbeats 4000000 in
theorem cb_has7 (l : Launch) (dC : Nat → ClassId) (dI : Nat → Nat → Nat) (cI cZ : ClassId) (b0 u0 aK aX aY aN aV aM f0 e0 g0 aRp aNr aI c0 h0 n R : Nat) (an : Int32) (Kf Yf Nf : Nat → Int32) (v y ky : Nat) (d : Int32) (sz : Nat) (hv : v < 24) (hy9 : y < 24) (ey : Yf v = nI y) (hky : ky ≤ 13) (eky : Kf y = nI ky) (ek : Kf v = nI 7) : Met l yB_hasBitsOfX wsB_hasBitsOfX { frames := 2, cells := 0, slots := 0, locals := 60 } (va_Pc [.ref b0, .int (nI (v)), .int (d)] (dw_pre (dC, dI) vwCl [(b0, .inr (0, [.ref u0, .ref f0, .ref e0, .ref g0, .ref aRp, .ref aNr, .ref aI, .ref c0, .ref h0, .int (an)])), (u0, .inr (1, [.ref aK, .ref aX, .ref aY, .ref aN, .ref aV, .ref aM, .int (nI (n)), .int (nI (R))])), (aK, .inl (cI, 24, .inl (Kf))), (aY, .inl (cI, 24, .inl (Yf))), (aN, .inl (cI, 24, .inl (Nf)))] [(cI, .int), (cZ, .boolean)] sz)) (va_Qi (fun (r : Int32) (u : Unit) => r = if db_has 7 (decide (ky = 10)) (Nf y) d = true then 1 else 0) (fun u t => dw_post (dC, dI) vwCl [(b0, .inr (0, [.ref u0, .ref f0, .ref e0, .ref g0, .ref aRp, .ref aNr, .ref aI, .ref c0, .ref h0, .int (an)])), (u0, .inr (1, [.ref aK, .ref aX, .ref aY, .ref aN, .ref aV, .ref aM, .int (nI (n)), .int (nI (R))])), (aK, .inl (cI, 24, .inl (Kf))), (aY, .inl (cI, 24, .inl (Yf))), (aN, .inl (cI, 24, .inl (Nf)))] [(cI, .int), (cZ, .boolean)] (va_A [(b0, .inr (0, [.ref u0, .ref f0, .ref e0, .ref g0, .ref aRp, .ref aNr, .ref aI, .ref c0, .ref h0, .int (an)])), (u0, .inr (1, [.ref aK, .ref aX, .ref aY, .ref aN, .ref aV, .ref aM, .int (nI (n)), .int (nI (R))])), (aK, .inl (cI, 24, .inl (Kf))), (aY, .inl (cI, 24, .inl (Yf))), (aN, .inl (cI, 24, .inl (Nf)))] sz) t) (va_A [(b0, .inr (0, [.ref u0, .ref f0, .ref e0, .ref g0, .ref aRp, .ref aNr, .ref aI, .ref c0, .ref h0, .int (an)])), (u0, .inr (1, [.ref aK, .ref aX, .ref aY, .ref aN, .ref aV, .ref aM, .int (nI (n)), .int (nI (R))])), (aK, .inl (cI, 24, .inl (Kf))), (aY, .inl (cI, 24, .inl (Yf))), (aN, .inl (cI, 24, .inl (Nf)))] sz)) 0 0 (va_A [(b0, .inr (0, [.ref u0, .ref f0, .ref e0, .ref g0, .ref aRp, .ref aNr, .ref aI, .ref c0, .ref h0, .int (an)])), (u0, .inr (1, [.ref aK, .ref aX, .ref aY, .ref aN, .ref aV, .ref aM, .int (nI (n)), .int (nI (R))])), (aK, .inl (cI, 24, .inl (Kf))), (aY, .inl (cI, 24, .inl (Yf))), (aN, .inl (cI, 24, .inl (Nf)))] sz) := by
  refine Met.ofW (cc := cB_hasBitsOfX) (maxL := 6) (ret := (some .boolean)) (by decide) rfl ?_
  intro p e s m args below meth c s₁ B hml hv0
  have hx := B.exec
  have hb := B.bytes
  have hr := B.returns
  have hts := atoms_spec (ws := wsB_hasBitsOfX) B.pre
  have hown : s.vm.findClass RB = some m.cls := findClass_of_methodNamed B.named
  have hlocks := B.notSynchronized
  obtain ⟨rfl, hsz, hG⟩ := dw_enter hv0
  generalize va_A [(b0, .inr (0, [.ref u0, .ref f0, .ref e0, .ref g0, .ref aRp, .ref aNr, .ref aI, .ref c0, .ref h0, .int (an)])), (u0, .inr (1, [.ref aK, .ref aX, .ref aY, .ref aN, .ref aV, .ref aM, .int (nI (n)), .int (nI (R))])), (aK, .inl (cI, 24, .inl (Kf))), (aY, .inl (cI, 24, .inl (Yf))), (aN, .inl (cI, 24, .inl (Nf)))] sz = A at hG ⊢
  have hl := lv_entry ([.ref b0, .int (nI (v)), .int (d)]) (n := 6) (Nat.le_of_ble_eq_true rfl)
  rw [lg_entry_eq]
  generalize (lg_sl ([.ref b0, .int (nI (v)), .int (d)]) ++ List.replicate (6 - (lg_sl ([.ref b0, .int (nI (v)), .int (d)])).length) Slot.unset).toArray = ls at hl ⊢
  have hl : lv_has ls 6 [(0, .ref b0), (1, .int (nI (v))), (2, .int (d))] := hl
  have hw138 := hts _ (List.mem_cons_of_mem _ tw_138)
  have hw44 := hts _ (List.mem_cons_of_mem _ tw_44)
  have hw34 := hts _ (List.mem_cons_of_mem _ tw_34)
  have hw49 := hts _ (List.mem_cons_of_mem _ tw_49)
  refine dw_Q (fun Q hQ => ?_)
  suffices hgo : ∀ (H : Heap) (locs : List Loc), dw_G (dC, dI) vwCl [(cI, .int), (cZ, .boolean)] A s.heap s [(b0, .inr (0, [.ref u0, .ref f0, .ref e0, .ref g0, .ref aRp, .ref aNr, .ref aI, .ref c0, .ref h0, .int (an)])), (u0, .inr (1, [.ref aK, .ref aX, .ref aY, .ref aN, .ref aV, .ref aM, .int (nI (n)), .int (nI (R))])), (aK, .inl (cI, 24, .inl (Kf))), (aY, .inl (cI, 24, .inl (Yf))), (aN, .inl (cI, 24, .inl (Nf)))] H locs → W p l e (headSpec wsB_hasBitsOfX { frames := 2, cells := 0, slots := 0, locals := 60 }).room s m [.ref b0, .int (nI (v)), .int (d)].toArray below meth c H locs 0 0 Q (F0 m 0 ls []) from hgo _ _ hG
  clear hG
  intro H locs hG
  refine lv_aload_n hx hb dB_hasBitsOfX_0 rfl (lv_at hl 0 rfl) ?_
  refine dw_get hx hb hts inBc hown hG 0 0 rfl rfl (by decide) hw138 rfl rfl dB_hasBitsOfX_1 ?_
  refine dw_get hx hb hts inUc hown hG 1 2 rfl rfl (by decide) hw44 rfl rfl dB_hasBitsOfX_4 ?_
  refine lv_iload_n hx hb dB_hasBitsOfX_7 rfl (lv_at hl 1 rfl) ?_
  refine dw_ia (x := nI (y)) hx hb hG 3 0 rfl rfl (v) rfl (by omega) (by decide) ey dB_hasBitsOfX_8 ?_
  refine lv_istore_n (lv' := [(3, .int (nI (y))), (0, .ref b0), (1, .int (nI (v))), (2, .int (d))]) hx hb dB_hasBitsOfX_9 rfl hl (by decide) rfl (fun ls hl => ?_)
  refine lv_aload_n hx hb dB_hasBitsOfX_10 rfl (lv_at hl 1 rfl) ?_
  refine dw_get hx hb hts inBc hown hG 0 0 rfl rfl (by decide) hw138 rfl rfl dB_hasBitsOfX_11 ?_
  refine dw_get hx hb hts inUc hown hG 1 0 rfl rfl (by decide) hw34 rfl rfl dB_hasBitsOfX_14 ?_
  refine lv_iload_n hx hb dB_hasBitsOfX_17 rfl (lv_at hl 0 rfl) ?_
  refine dw_ia (x := nI (ky)) hx hb hG 2 0 rfl rfl (y) rfl (by omega) (by decide) eky dB_hasBitsOfX_18 ?_
  refine lv_bipush (v := 10) hx hb dB_hasBitsOfX_19 (by decide) ?_
  refine lv_icmp_ne (tgt := 28) hx hb dB_hasBitsOfX_21 (by decide) (fun h21 => ?_) (fun h21 => ?_)
  · skip
    replace h21 : ¬ ky = 10 := fun hq0 => h21 ((nI_eq (a := ky) (b := 10) (by omega) (by omega)).mpr hq0)
    refine lv_iconst (v := 0) hx hb dB_hasBitsOfX_28 (by decide) ?_
    refine lv_istore (lv' := [(4, .int (0)), (3, .int (nI (y))), (0, .ref b0), (1, .int (nI (v))), (2, .int (d))]) hx hb dB_hasBitsOfX_29 hl (by decide) rfl (fun ls hl => ?_)
    refine lv_aload_n hx hb dB_hasBitsOfX_31 rfl (lv_at hl 2 rfl) ?_
    refine dw_get hx hb hts inBc hown hG 0 0 rfl rfl (by decide) hw138 rfl rfl dB_hasBitsOfX_32 ?_
    refine dw_get hx hb hts inUc hown hG 1 3 rfl rfl (by decide) hw49 rfl rfl dB_hasBitsOfX_35 ?_
    refine lv_iload_n hx hb dB_hasBitsOfX_38 rfl (lv_at hl 1 rfl) ?_
    refine dw_ia (x := (Nf) (y)) hx hb hG 4 0 rfl rfl (y) rfl (by omega) (by decide) rfl dB_hasBitsOfX_39 ?_
    refine lv_istore (lv' := [(5, .int ((Nf) (y))), (4, .int (0)), (3, .int (nI (y))), (0, .ref b0), (1, .int (nI (v))), (2, .int (d))]) hx hb dB_hasBitsOfX_40 hl (by decide) rfl (fun ls hl => ?_)
    refine lv_aload_n hx hb dB_hasBitsOfX_42 rfl (lv_at hl 3 rfl) ?_
    refine dw_get hx hb hts inBc hown hG 0 0 rfl rfl (by decide) hw138 rfl rfl dB_hasBitsOfX_43 ?_
    refine dw_get hx hb hts inUc hown hG 1 0 rfl rfl (by decide) hw34 rfl rfl dB_hasBitsOfX_46 ?_
    refine lv_iload_n hx hb dB_hasBitsOfX_49 rfl (lv_at hl 4 rfl) ?_
    refine dw_ia (x := 7) hx hb hG 2 0 rfl rfl (v) rfl (by omega) (by decide) ek dB_hasBitsOfX_50 ?_
    refine lv_tableIn (tgt := 202) hx hb dB_hasBitsOfX_51 (by decide) (by decide) rfl (by decide) ?_
    refine lv_iconst (v := 0) hx hb dB_hasBitsOfX_202 (by decide) ?_
    subst hQ
    exact dw_zret hx hb hr rfl hG (()) rfl ((if_neg (by show ¬ false = true; decide)).symm) dB_hasBitsOfX_203 hlocks
  replace h21 := (nI_eq (a := ky) (b := 10) (by omega) (by omega)).mp h21
  refine lv_iconst (v := 1) hx hb dB_hasBitsOfX_24 (by decide) ?_
  refine lv_goto (tgt := 29) hx hb dB_hasBitsOfX_25 (by decide) ?_
  refine lv_istore (lv' := [(4, .int (1)), (3, .int (nI (y))), (0, .ref b0), (1, .int (nI (v))), (2, .int (d))]) hx hb dB_hasBitsOfX_29 hl (by decide) rfl (fun ls hl => ?_)
  refine lv_aload_n hx hb dB_hasBitsOfX_31 rfl (lv_at hl 2 rfl) ?_
  refine dw_get hx hb hts inBc hown hG 0 0 rfl rfl (by decide) hw138 rfl rfl dB_hasBitsOfX_32 ?_
  refine dw_get hx hb hts inUc hown hG 1 3 rfl rfl (by decide) hw49 rfl rfl dB_hasBitsOfX_35 ?_
  refine lv_iload_n hx hb dB_hasBitsOfX_38 rfl (lv_at hl 1 rfl) ?_
  refine dw_ia (x := (Nf) (y)) hx hb hG 4 0 rfl rfl (y) rfl (by omega) (by decide) rfl dB_hasBitsOfX_39 ?_
  refine lv_istore (lv' := [(5, .int ((Nf) (y))), (4, .int (1)), (3, .int (nI (y))), (0, .ref b0), (1, .int (nI (v))), (2, .int (d))]) hx hb dB_hasBitsOfX_40 hl (by decide) rfl (fun ls hl => ?_)
  refine lv_aload_n hx hb dB_hasBitsOfX_42 rfl (lv_at hl 3 rfl) ?_
  refine dw_get hx hb hts inBc hown hG 0 0 rfl rfl (by decide) hw138 rfl rfl dB_hasBitsOfX_43 ?_
  refine dw_get hx hb hts inUc hown hG 1 0 rfl rfl (by decide) hw34 rfl rfl dB_hasBitsOfX_46 ?_
  refine lv_iload_n hx hb dB_hasBitsOfX_49 rfl (lv_at hl 4 rfl) ?_
  refine dw_ia (x := 7) hx hb hG 2 0 rfl rfl (v) rfl (by omega) (by decide) ek dB_hasBitsOfX_50 ?_
  refine lv_tableIn (tgt := 202) hx hb dB_hasBitsOfX_51 (by decide) (by decide) rfl (by decide) ?_
  refine lv_iconst (v := 0) hx hb dB_hasBitsOfX_202 (by decide) ?_
  subst hQ
  exact dw_zret hx hb hr rfl hG (()) rfl ((if_neg (by show ¬ false = true; decide)).symm) dB_hasBitsOfX_203 hlocks

set_option maxRecDepth 100000 in
set_option maxHeartbeats 4000000 in
theorem cb_has8 (l : Launch) (dC : Nat → ClassId) (dI : Nat → Nat → Nat) (cI cZ : ClassId) (b0 u0 aK aX aY aN aV aM f0 e0 g0 aRp aNr aI c0 h0 n R : Nat) (an : Int32) (Kf Yf Nf : Nat → Int32) (v y ky : Nat) (d : Int32) (sz : Nat) (hv : v < 24) (hy9 : y < 24) (ey : Yf v = nI y) (hky : ky ≤ 13) (eky : Kf y = nI ky) (ek : Kf v = nI 8) : Met l yB_hasBitsOfX wsB_hasBitsOfX { frames := 2, cells := 0, slots := 0, locals := 60 } (va_Pc [.ref b0, .int (nI (v)), .int (d)] (dw_pre (dC, dI) vwCl [(b0, .inr (0, [.ref u0, .ref f0, .ref e0, .ref g0, .ref aRp, .ref aNr, .ref aI, .ref c0, .ref h0, .int (an)])), (u0, .inr (1, [.ref aK, .ref aX, .ref aY, .ref aN, .ref aV, .ref aM, .int (nI (n)), .int (nI (R))])), (aK, .inl (cI, 24, .inl (Kf))), (aY, .inl (cI, 24, .inl (Yf))), (aN, .inl (cI, 24, .inl (Nf)))] [(cI, .int), (cZ, .boolean)] sz)) (va_Qi (fun (r : Int32) (u : Unit) => r = if db_has 8 (decide (ky = 10)) (Nf y) d = true then 1 else 0) (fun u t => dw_post (dC, dI) vwCl [(b0, .inr (0, [.ref u0, .ref f0, .ref e0, .ref g0, .ref aRp, .ref aNr, .ref aI, .ref c0, .ref h0, .int (an)])), (u0, .inr (1, [.ref aK, .ref aX, .ref aY, .ref aN, .ref aV, .ref aM, .int (nI (n)), .int (nI (R))])), (aK, .inl (cI, 24, .inl (Kf))), (aY, .inl (cI, 24, .inl (Yf))), (aN, .inl (cI, 24, .inl (Nf)))] [(cI, .int), (cZ, .boolean)] (va_A [(b0, .inr (0, [.ref u0, .ref f0, .ref e0, .ref g0, .ref aRp, .ref aNr, .ref aI, .ref c0, .ref h0, .int (an)])), (u0, .inr (1, [.ref aK, .ref aX, .ref aY, .ref aN, .ref aV, .ref aM, .int (nI (n)), .int (nI (R))])), (aK, .inl (cI, 24, .inl (Kf))), (aY, .inl (cI, 24, .inl (Yf))), (aN, .inl (cI, 24, .inl (Nf)))] sz) t) (va_A [(b0, .inr (0, [.ref u0, .ref f0, .ref e0, .ref g0, .ref aRp, .ref aNr, .ref aI, .ref c0, .ref h0, .int (an)])), (u0, .inr (1, [.ref aK, .ref aX, .ref aY, .ref aN, .ref aV, .ref aM, .int (nI (n)), .int (nI (R))])), (aK, .inl (cI, 24, .inl (Kf))), (aY, .inl (cI, 24, .inl (Yf))), (aN, .inl (cI, 24, .inl (Nf)))] sz)) 0 0 (va_A [(b0, .inr (0, [.ref u0, .ref f0, .ref e0, .ref g0, .ref aRp, .ref aNr, .ref aI, .ref c0, .ref h0, .int (an)])), (u0, .inr (1, [.ref aK, .ref aX, .ref aY, .ref aN, .ref aV, .ref aM, .int (nI (n)), .int (nI (R))])), (aK, .inl (cI, 24, .inl (Kf))), (aY, .inl (cI, 24, .inl (Yf))), (aN, .inl (cI, 24, .inl (Nf)))] sz) := by
  refine Met.ofW (cc := cB_hasBitsOfX) (maxL := 6) (ret := (some .boolean)) (by decide) rfl ?_
  intro p e s m args below meth c s₁ B hml hv0
  have hx := B.exec
  have hb := B.bytes
  have hr := B.returns
  have hts := atoms_spec (ws := wsB_hasBitsOfX) B.pre
  have hown : s.vm.findClass RB = some m.cls := findClass_of_methodNamed B.named
  have hlocks := B.notSynchronized
  obtain ⟨rfl, hsz, hG⟩ := dw_enter hv0
  generalize va_A [(b0, .inr (0, [.ref u0, .ref f0, .ref e0, .ref g0, .ref aRp, .ref aNr, .ref aI, .ref c0, .ref h0, .int (an)])), (u0, .inr (1, [.ref aK, .ref aX, .ref aY, .ref aN, .ref aV, .ref aM, .int (nI (n)), .int (nI (R))])), (aK, .inl (cI, 24, .inl (Kf))), (aY, .inl (cI, 24, .inl (Yf))), (aN, .inl (cI, 24, .inl (Nf)))] sz = A at hG ⊢
  have hl := lv_entry ([.ref b0, .int (nI (v)), .int (d)]) (n := 6) (Nat.le_of_ble_eq_true rfl)
  rw [lg_entry_eq]
  generalize (lg_sl ([.ref b0, .int (nI (v)), .int (d)]) ++ List.replicate (6 - (lg_sl ([.ref b0, .int (nI (v)), .int (d)])).length) Slot.unset).toArray = ls at hl ⊢
  have hl : lv_has ls 6 [(0, .ref b0), (1, .int (nI (v))), (2, .int (d))] := hl
  have hw138 := hts _ (List.mem_cons_of_mem _ tw_138)
  have hw44 := hts _ (List.mem_cons_of_mem _ tw_44)
  have hw34 := hts _ (List.mem_cons_of_mem _ tw_34)
  have hw49 := hts _ (List.mem_cons_of_mem _ tw_49)
  refine dw_Q (fun Q hQ => ?_)
  suffices hgo : ∀ (H : Heap) (locs : List Loc), dw_G (dC, dI) vwCl [(cI, .int), (cZ, .boolean)] A s.heap s [(b0, .inr (0, [.ref u0, .ref f0, .ref e0, .ref g0, .ref aRp, .ref aNr, .ref aI, .ref c0, .ref h0, .int (an)])), (u0, .inr (1, [.ref aK, .ref aX, .ref aY, .ref aN, .ref aV, .ref aM, .int (nI (n)), .int (nI (R))])), (aK, .inl (cI, 24, .inl (Kf))), (aY, .inl (cI, 24, .inl (Yf))), (aN, .inl (cI, 24, .inl (Nf)))] H locs → W p l e (headSpec wsB_hasBitsOfX { frames := 2, cells := 0, slots := 0, locals := 60 }).room s m [.ref b0, .int (nI (v)), .int (d)].toArray below meth c H locs 0 0 Q (F0 m 0 ls []) from hgo _ _ hG
  clear hG
  intro H locs hG
  refine lv_aload_n hx hb dB_hasBitsOfX_0 rfl (lv_at hl 0 rfl) ?_
  refine dw_get hx hb hts inBc hown hG 0 0 rfl rfl (by decide) hw138 rfl rfl dB_hasBitsOfX_1 ?_
  refine dw_get hx hb hts inUc hown hG 1 2 rfl rfl (by decide) hw44 rfl rfl dB_hasBitsOfX_4 ?_
  refine lv_iload_n hx hb dB_hasBitsOfX_7 rfl (lv_at hl 1 rfl) ?_
  refine dw_ia (x := nI (y)) hx hb hG 3 0 rfl rfl (v) rfl (by omega) (by decide) ey dB_hasBitsOfX_8 ?_
  refine lv_istore_n (lv' := [(3, .int (nI (y))), (0, .ref b0), (1, .int (nI (v))), (2, .int (d))]) hx hb dB_hasBitsOfX_9 rfl hl (by decide) rfl (fun ls hl => ?_)
  refine lv_aload_n hx hb dB_hasBitsOfX_10 rfl (lv_at hl 1 rfl) ?_
  refine dw_get hx hb hts inBc hown hG 0 0 rfl rfl (by decide) hw138 rfl rfl dB_hasBitsOfX_11 ?_
  refine dw_get hx hb hts inUc hown hG 1 0 rfl rfl (by decide) hw34 rfl rfl dB_hasBitsOfX_14 ?_
  refine lv_iload_n hx hb dB_hasBitsOfX_17 rfl (lv_at hl 0 rfl) ?_
  refine dw_ia (x := nI (ky)) hx hb hG 2 0 rfl rfl (y) rfl (by omega) (by decide) eky dB_hasBitsOfX_18 ?_
  refine lv_bipush (v := 10) hx hb dB_hasBitsOfX_19 (by decide) ?_
  refine lv_icmp_ne (tgt := 28) hx hb dB_hasBitsOfX_21 (by decide) (fun h21 => ?_) (fun h21 => ?_)
  · skip
    replace h21 : ¬ ky = 10 := fun hq0 => h21 ((nI_eq (a := ky) (b := 10) (by omega) (by omega)).mpr hq0)
    refine lv_iconst (v := 0) hx hb dB_hasBitsOfX_28 (by decide) ?_
    refine lv_istore (lv' := [(4, .int (0)), (3, .int (nI (y))), (0, .ref b0), (1, .int (nI (v))), (2, .int (d))]) hx hb dB_hasBitsOfX_29 hl (by decide) rfl (fun ls hl => ?_)
    refine lv_aload_n hx hb dB_hasBitsOfX_31 rfl (lv_at hl 2 rfl) ?_
    refine dw_get hx hb hts inBc hown hG 0 0 rfl rfl (by decide) hw138 rfl rfl dB_hasBitsOfX_32 ?_
    refine dw_get hx hb hts inUc hown hG 1 3 rfl rfl (by decide) hw49 rfl rfl dB_hasBitsOfX_35 ?_
    refine lv_iload_n hx hb dB_hasBitsOfX_38 rfl (lv_at hl 1 rfl) ?_
    refine dw_ia (x := (Nf) (y)) hx hb hG 4 0 rfl rfl (y) rfl (by omega) (by decide) rfl dB_hasBitsOfX_39 ?_
    refine lv_istore (lv' := [(5, .int ((Nf) (y))), (4, .int (0)), (3, .int (nI (y))), (0, .ref b0), (1, .int (nI (v))), (2, .int (d))]) hx hb dB_hasBitsOfX_40 hl (by decide) rfl (fun ls hl => ?_)
    refine lv_aload_n hx hb dB_hasBitsOfX_42 rfl (lv_at hl 3 rfl) ?_
    refine dw_get hx hb hts inBc hown hG 0 0 rfl rfl (by decide) hw138 rfl rfl dB_hasBitsOfX_43 ?_
    refine dw_get hx hb hts inUc hown hG 1 0 rfl rfl (by decide) hw34 rfl rfl dB_hasBitsOfX_46 ?_
    refine lv_iload_n hx hb dB_hasBitsOfX_49 rfl (lv_at hl 4 rfl) ?_
    refine dw_ia (x := 8) hx hb hG 2 0 rfl rfl (v) rfl (by omega) (by decide) ek dB_hasBitsOfX_50 ?_
    refine lv_tableIn (tgt := 202) hx hb dB_hasBitsOfX_51 (by decide) (by decide) rfl (by decide) ?_
    refine lv_iconst (v := 0) hx hb dB_hasBitsOfX_202 (by decide) ?_
    subst hQ
    exact dw_zret hx hb hr rfl hG (()) rfl ((if_neg (by show ¬ false = true; decide)).symm) dB_hasBitsOfX_203 hlocks
  replace h21 := (nI_eq (a := ky) (b := 10) (by omega) (by omega)).mp h21
  refine lv_iconst (v := 1) hx hb dB_hasBitsOfX_24 (by decide) ?_
  refine lv_goto (tgt := 29) hx hb dB_hasBitsOfX_25 (by decide) ?_
  refine lv_istore (lv' := [(4, .int (1)), (3, .int (nI (y))), (0, .ref b0), (1, .int (nI (v))), (2, .int (d))]) hx hb dB_hasBitsOfX_29 hl (by decide) rfl (fun ls hl => ?_)
  refine lv_aload_n hx hb dB_hasBitsOfX_31 rfl (lv_at hl 2 rfl) ?_
  refine dw_get hx hb hts inBc hown hG 0 0 rfl rfl (by decide) hw138 rfl rfl dB_hasBitsOfX_32 ?_
  refine dw_get hx hb hts inUc hown hG 1 3 rfl rfl (by decide) hw49 rfl rfl dB_hasBitsOfX_35 ?_
  refine lv_iload_n hx hb dB_hasBitsOfX_38 rfl (lv_at hl 1 rfl) ?_
  refine dw_ia (x := (Nf) (y)) hx hb hG 4 0 rfl rfl (y) rfl (by omega) (by decide) rfl dB_hasBitsOfX_39 ?_
  refine lv_istore (lv' := [(5, .int ((Nf) (y))), (4, .int (1)), (3, .int (nI (y))), (0, .ref b0), (1, .int (nI (v))), (2, .int (d))]) hx hb dB_hasBitsOfX_40 hl (by decide) rfl (fun ls hl => ?_)
  refine lv_aload_n hx hb dB_hasBitsOfX_42 rfl (lv_at hl 3 rfl) ?_
  refine dw_get hx hb hts inBc hown hG 0 0 rfl rfl (by decide) hw138 rfl rfl dB_hasBitsOfX_43 ?_
  refine dw_get hx hb hts inUc hown hG 1 0 rfl rfl (by decide) hw34 rfl rfl dB_hasBitsOfX_46 ?_
  refine lv_iload_n hx hb dB_hasBitsOfX_49 rfl (lv_at hl 4 rfl) ?_
  refine dw_ia (x := 8) hx hb hG 2 0 rfl rfl (v) rfl (by omega) (by decide) ek dB_hasBitsOfX_50 ?_
  refine lv_tableIn (tgt := 202) hx hb dB_hasBitsOfX_51 (by decide) (by decide) rfl (by decide) ?_
  refine lv_iconst (v := 0) hx hb dB_hasBitsOfX_202 (by decide) ?_
  subst hQ
  exact dw_zret hx hb hr rfl hG (()) rfl ((if_neg (by show ¬ false = true; decide)).symm) dB_hasBitsOfX_203 hlocks

set_option maxRecDepth 100000 in
set_option maxHeartbeats 4000000 in
theorem cb_has9 (l : Launch) (dC : Nat → ClassId) (dI : Nat → Nat → Nat) (cI cZ : ClassId) (b0 u0 aK aX aY aN aV aM f0 e0 g0 aRp aNr aI c0 h0 n R : Nat) (an : Int32) (Kf Yf Nf : Nat → Int32) (v y ky : Nat) (d : Int32) (sz : Nat) (hv : v < 24) (hy9 : y < 24) (ey : Yf v = nI y) (hky : ky ≤ 13) (eky : Kf y = nI ky) (ek : Kf v = nI 9) : Met l yB_hasBitsOfX wsB_hasBitsOfX { frames := 2, cells := 0, slots := 0, locals := 60 } (va_Pc [.ref b0, .int (nI (v)), .int (d)] (dw_pre (dC, dI) vwCl [(b0, .inr (0, [.ref u0, .ref f0, .ref e0, .ref g0, .ref aRp, .ref aNr, .ref aI, .ref c0, .ref h0, .int (an)])), (u0, .inr (1, [.ref aK, .ref aX, .ref aY, .ref aN, .ref aV, .ref aM, .int (nI (n)), .int (nI (R))])), (aK, .inl (cI, 24, .inl (Kf))), (aY, .inl (cI, 24, .inl (Yf))), (aN, .inl (cI, 24, .inl (Nf)))] [(cI, .int), (cZ, .boolean)] sz)) (va_Qi (fun (r : Int32) (u : Unit) => r = if db_has 9 (decide (ky = 10)) (Nf y) d = true then 1 else 0) (fun u t => dw_post (dC, dI) vwCl [(b0, .inr (0, [.ref u0, .ref f0, .ref e0, .ref g0, .ref aRp, .ref aNr, .ref aI, .ref c0, .ref h0, .int (an)])), (u0, .inr (1, [.ref aK, .ref aX, .ref aY, .ref aN, .ref aV, .ref aM, .int (nI (n)), .int (nI (R))])), (aK, .inl (cI, 24, .inl (Kf))), (aY, .inl (cI, 24, .inl (Yf))), (aN, .inl (cI, 24, .inl (Nf)))] [(cI, .int), (cZ, .boolean)] (va_A [(b0, .inr (0, [.ref u0, .ref f0, .ref e0, .ref g0, .ref aRp, .ref aNr, .ref aI, .ref c0, .ref h0, .int (an)])), (u0, .inr (1, [.ref aK, .ref aX, .ref aY, .ref aN, .ref aV, .ref aM, .int (nI (n)), .int (nI (R))])), (aK, .inl (cI, 24, .inl (Kf))), (aY, .inl (cI, 24, .inl (Yf))), (aN, .inl (cI, 24, .inl (Nf)))] sz) t) (va_A [(b0, .inr (0, [.ref u0, .ref f0, .ref e0, .ref g0, .ref aRp, .ref aNr, .ref aI, .ref c0, .ref h0, .int (an)])), (u0, .inr (1, [.ref aK, .ref aX, .ref aY, .ref aN, .ref aV, .ref aM, .int (nI (n)), .int (nI (R))])), (aK, .inl (cI, 24, .inl (Kf))), (aY, .inl (cI, 24, .inl (Yf))), (aN, .inl (cI, 24, .inl (Nf)))] sz)) 0 0 (va_A [(b0, .inr (0, [.ref u0, .ref f0, .ref e0, .ref g0, .ref aRp, .ref aNr, .ref aI, .ref c0, .ref h0, .int (an)])), (u0, .inr (1, [.ref aK, .ref aX, .ref aY, .ref aN, .ref aV, .ref aM, .int (nI (n)), .int (nI (R))])), (aK, .inl (cI, 24, .inl (Kf))), (aY, .inl (cI, 24, .inl (Yf))), (aN, .inl (cI, 24, .inl (Nf)))] sz) := by
  refine Met.ofW (cc := cB_hasBitsOfX) (maxL := 6) (ret := (some .boolean)) (by decide) rfl ?_
  intro p e s m args below meth c s₁ B hml hv0
  have hx := B.exec
  have hb := B.bytes
  have hr := B.returns
  have hts := atoms_spec (ws := wsB_hasBitsOfX) B.pre
  have hown : s.vm.findClass RB = some m.cls := findClass_of_methodNamed B.named
  have hlocks := B.notSynchronized
  obtain ⟨rfl, hsz, hG⟩ := dw_enter hv0
  generalize va_A [(b0, .inr (0, [.ref u0, .ref f0, .ref e0, .ref g0, .ref aRp, .ref aNr, .ref aI, .ref c0, .ref h0, .int (an)])), (u0, .inr (1, [.ref aK, .ref aX, .ref aY, .ref aN, .ref aV, .ref aM, .int (nI (n)), .int (nI (R))])), (aK, .inl (cI, 24, .inl (Kf))), (aY, .inl (cI, 24, .inl (Yf))), (aN, .inl (cI, 24, .inl (Nf)))] sz = A at hG ⊢
  have hl := lv_entry ([.ref b0, .int (nI (v)), .int (d)]) (n := 6) (Nat.le_of_ble_eq_true rfl)
  rw [lg_entry_eq]
  generalize (lg_sl ([.ref b0, .int (nI (v)), .int (d)]) ++ List.replicate (6 - (lg_sl ([.ref b0, .int (nI (v)), .int (d)])).length) Slot.unset).toArray = ls at hl ⊢
  have hl : lv_has ls 6 [(0, .ref b0), (1, .int (nI (v))), (2, .int (d))] := hl
  have hw138 := hts _ (List.mem_cons_of_mem _ tw_138)
  have hw44 := hts _ (List.mem_cons_of_mem _ tw_44)
  have hw34 := hts _ (List.mem_cons_of_mem _ tw_34)
  have hw49 := hts _ (List.mem_cons_of_mem _ tw_49)
  refine dw_Q (fun Q hQ => ?_)
  suffices hgo : ∀ (H : Heap) (locs : List Loc), dw_G (dC, dI) vwCl [(cI, .int), (cZ, .boolean)] A s.heap s [(b0, .inr (0, [.ref u0, .ref f0, .ref e0, .ref g0, .ref aRp, .ref aNr, .ref aI, .ref c0, .ref h0, .int (an)])), (u0, .inr (1, [.ref aK, .ref aX, .ref aY, .ref aN, .ref aV, .ref aM, .int (nI (n)), .int (nI (R))])), (aK, .inl (cI, 24, .inl (Kf))), (aY, .inl (cI, 24, .inl (Yf))), (aN, .inl (cI, 24, .inl (Nf)))] H locs → W p l e (headSpec wsB_hasBitsOfX { frames := 2, cells := 0, slots := 0, locals := 60 }).room s m [.ref b0, .int (nI (v)), .int (d)].toArray below meth c H locs 0 0 Q (F0 m 0 ls []) from hgo _ _ hG
  clear hG
  intro H locs hG
  refine lv_aload_n hx hb dB_hasBitsOfX_0 rfl (lv_at hl 0 rfl) ?_
  refine dw_get hx hb hts inBc hown hG 0 0 rfl rfl (by decide) hw138 rfl rfl dB_hasBitsOfX_1 ?_
  refine dw_get hx hb hts inUc hown hG 1 2 rfl rfl (by decide) hw44 rfl rfl dB_hasBitsOfX_4 ?_
  refine lv_iload_n hx hb dB_hasBitsOfX_7 rfl (lv_at hl 1 rfl) ?_
  refine dw_ia (x := nI (y)) hx hb hG 3 0 rfl rfl (v) rfl (by omega) (by decide) ey dB_hasBitsOfX_8 ?_
  refine lv_istore_n (lv' := [(3, .int (nI (y))), (0, .ref b0), (1, .int (nI (v))), (2, .int (d))]) hx hb dB_hasBitsOfX_9 rfl hl (by decide) rfl (fun ls hl => ?_)
  refine lv_aload_n hx hb dB_hasBitsOfX_10 rfl (lv_at hl 1 rfl) ?_
  refine dw_get hx hb hts inBc hown hG 0 0 rfl rfl (by decide) hw138 rfl rfl dB_hasBitsOfX_11 ?_
  refine dw_get hx hb hts inUc hown hG 1 0 rfl rfl (by decide) hw34 rfl rfl dB_hasBitsOfX_14 ?_
  refine lv_iload_n hx hb dB_hasBitsOfX_17 rfl (lv_at hl 0 rfl) ?_
  refine dw_ia (x := nI (ky)) hx hb hG 2 0 rfl rfl (y) rfl (by omega) (by decide) eky dB_hasBitsOfX_18 ?_
  refine lv_bipush (v := 10) hx hb dB_hasBitsOfX_19 (by decide) ?_
  refine lv_icmp_ne (tgt := 28) hx hb dB_hasBitsOfX_21 (by decide) (fun h21 => ?_) (fun h21 => ?_)
  · skip
    replace h21 : ¬ ky = 10 := fun hq0 => h21 ((nI_eq (a := ky) (b := 10) (by omega) (by omega)).mpr hq0)
    refine lv_iconst (v := 0) hx hb dB_hasBitsOfX_28 (by decide) ?_
    refine lv_istore (lv' := [(4, .int (0)), (3, .int (nI (y))), (0, .ref b0), (1, .int (nI (v))), (2, .int (d))]) hx hb dB_hasBitsOfX_29 hl (by decide) rfl (fun ls hl => ?_)
    refine lv_aload_n hx hb dB_hasBitsOfX_31 rfl (lv_at hl 2 rfl) ?_
    refine dw_get hx hb hts inBc hown hG 0 0 rfl rfl (by decide) hw138 rfl rfl dB_hasBitsOfX_32 ?_
    refine dw_get hx hb hts inUc hown hG 1 3 rfl rfl (by decide) hw49 rfl rfl dB_hasBitsOfX_35 ?_
    refine lv_iload_n hx hb dB_hasBitsOfX_38 rfl (lv_at hl 1 rfl) ?_
    refine dw_ia (x := (Nf) (y)) hx hb hG 4 0 rfl rfl (y) rfl (by omega) (by decide) rfl dB_hasBitsOfX_39 ?_
    refine lv_istore (lv' := [(5, .int ((Nf) (y))), (4, .int (0)), (3, .int (nI (y))), (0, .ref b0), (1, .int (nI (v))), (2, .int (d))]) hx hb dB_hasBitsOfX_40 hl (by decide) rfl (fun ls hl => ?_)
    refine lv_aload_n hx hb dB_hasBitsOfX_42 rfl (lv_at hl 3 rfl) ?_
    refine dw_get hx hb hts inBc hown hG 0 0 rfl rfl (by decide) hw138 rfl rfl dB_hasBitsOfX_43 ?_
    refine dw_get hx hb hts inUc hown hG 1 0 rfl rfl (by decide) hw34 rfl rfl dB_hasBitsOfX_46 ?_
    refine lv_iload_n hx hb dB_hasBitsOfX_49 rfl (lv_at hl 4 rfl) ?_
    refine dw_ia (x := 9) hx hb hG 2 0 rfl rfl (v) rfl (by omega) (by decide) ek dB_hasBitsOfX_50 ?_
    refine lv_tableIn (tgt := 202) hx hb dB_hasBitsOfX_51 (by decide) (by decide) rfl (by decide) ?_
    refine lv_iconst (v := 0) hx hb dB_hasBitsOfX_202 (by decide) ?_
    subst hQ
    exact dw_zret hx hb hr rfl hG (()) rfl ((if_neg (by show ¬ false = true; decide)).symm) dB_hasBitsOfX_203 hlocks
  replace h21 := (nI_eq (a := ky) (b := 10) (by omega) (by omega)).mp h21
  refine lv_iconst (v := 1) hx hb dB_hasBitsOfX_24 (by decide) ?_
  refine lv_goto (tgt := 29) hx hb dB_hasBitsOfX_25 (by decide) ?_
  refine lv_istore (lv' := [(4, .int (1)), (3, .int (nI (y))), (0, .ref b0), (1, .int (nI (v))), (2, .int (d))]) hx hb dB_hasBitsOfX_29 hl (by decide) rfl (fun ls hl => ?_)
  refine lv_aload_n hx hb dB_hasBitsOfX_31 rfl (lv_at hl 2 rfl) ?_
  refine dw_get hx hb hts inBc hown hG 0 0 rfl rfl (by decide) hw138 rfl rfl dB_hasBitsOfX_32 ?_
  refine dw_get hx hb hts inUc hown hG 1 3 rfl rfl (by decide) hw49 rfl rfl dB_hasBitsOfX_35 ?_
  refine lv_iload_n hx hb dB_hasBitsOfX_38 rfl (lv_at hl 1 rfl) ?_
  refine dw_ia (x := (Nf) (y)) hx hb hG 4 0 rfl rfl (y) rfl (by omega) (by decide) rfl dB_hasBitsOfX_39 ?_
  refine lv_istore (lv' := [(5, .int ((Nf) (y))), (4, .int (1)), (3, .int (nI (y))), (0, .ref b0), (1, .int (nI (v))), (2, .int (d))]) hx hb dB_hasBitsOfX_40 hl (by decide) rfl (fun ls hl => ?_)
  refine lv_aload_n hx hb dB_hasBitsOfX_42 rfl (lv_at hl 3 rfl) ?_
  refine dw_get hx hb hts inBc hown hG 0 0 rfl rfl (by decide) hw138 rfl rfl dB_hasBitsOfX_43 ?_
  refine dw_get hx hb hts inUc hown hG 1 0 rfl rfl (by decide) hw34 rfl rfl dB_hasBitsOfX_46 ?_
  refine lv_iload_n hx hb dB_hasBitsOfX_49 rfl (lv_at hl 4 rfl) ?_
  refine dw_ia (x := 9) hx hb hG 2 0 rfl rfl (v) rfl (by omega) (by decide) ek dB_hasBitsOfX_50 ?_
  refine lv_tableIn (tgt := 202) hx hb dB_hasBitsOfX_51 (by decide) (by decide) rfl (by decide) ?_
  refine lv_iconst (v := 0) hx hb dB_hasBitsOfX_202 (by decide) ?_
  subst hQ
  exact dw_zret hx hb hr rfl hG (()) rfl ((if_neg (by show ¬ false = true; decide)).symm) dB_hasBitsOfX_203 hlocks

set_option maxRecDepth 100000 in
set_option maxHeartbeats 4000000 in
theorem cb_has10 (l : Launch) (dC : Nat → ClassId) (dI : Nat → Nat → Nat) (cI cZ : ClassId) (b0 u0 aK aX aY aN aV aM f0 e0 g0 aRp aNr aI c0 h0 n R : Nat) (an : Int32) (Kf Yf Nf : Nat → Int32) (v y ky : Nat) (d : Int32) (sz : Nat) (hv : v < 24) (hy9 : y < 24) (ey : Yf v = nI y) (hky : ky ≤ 13) (eky : Kf y = nI ky) (ek : Kf v = nI 10) : Met l yB_hasBitsOfX wsB_hasBitsOfX { frames := 2, cells := 0, slots := 0, locals := 60 } (va_Pc [.ref b0, .int (nI (v)), .int (d)] (dw_pre (dC, dI) vwCl [(b0, .inr (0, [.ref u0, .ref f0, .ref e0, .ref g0, .ref aRp, .ref aNr, .ref aI, .ref c0, .ref h0, .int (an)])), (u0, .inr (1, [.ref aK, .ref aX, .ref aY, .ref aN, .ref aV, .ref aM, .int (nI (n)), .int (nI (R))])), (aK, .inl (cI, 24, .inl (Kf))), (aY, .inl (cI, 24, .inl (Yf))), (aN, .inl (cI, 24, .inl (Nf)))] [(cI, .int), (cZ, .boolean)] sz)) (va_Qi (fun (r : Int32) (u : Unit) => r = if db_has 10 (decide (ky = 10)) (Nf y) d = true then 1 else 0) (fun u t => dw_post (dC, dI) vwCl [(b0, .inr (0, [.ref u0, .ref f0, .ref e0, .ref g0, .ref aRp, .ref aNr, .ref aI, .ref c0, .ref h0, .int (an)])), (u0, .inr (1, [.ref aK, .ref aX, .ref aY, .ref aN, .ref aV, .ref aM, .int (nI (n)), .int (nI (R))])), (aK, .inl (cI, 24, .inl (Kf))), (aY, .inl (cI, 24, .inl (Yf))), (aN, .inl (cI, 24, .inl (Nf)))] [(cI, .int), (cZ, .boolean)] (va_A [(b0, .inr (0, [.ref u0, .ref f0, .ref e0, .ref g0, .ref aRp, .ref aNr, .ref aI, .ref c0, .ref h0, .int (an)])), (u0, .inr (1, [.ref aK, .ref aX, .ref aY, .ref aN, .ref aV, .ref aM, .int (nI (n)), .int (nI (R))])), (aK, .inl (cI, 24, .inl (Kf))), (aY, .inl (cI, 24, .inl (Yf))), (aN, .inl (cI, 24, .inl (Nf)))] sz) t) (va_A [(b0, .inr (0, [.ref u0, .ref f0, .ref e0, .ref g0, .ref aRp, .ref aNr, .ref aI, .ref c0, .ref h0, .int (an)])), (u0, .inr (1, [.ref aK, .ref aX, .ref aY, .ref aN, .ref aV, .ref aM, .int (nI (n)), .int (nI (R))])), (aK, .inl (cI, 24, .inl (Kf))), (aY, .inl (cI, 24, .inl (Yf))), (aN, .inl (cI, 24, .inl (Nf)))] sz)) 0 0 (va_A [(b0, .inr (0, [.ref u0, .ref f0, .ref e0, .ref g0, .ref aRp, .ref aNr, .ref aI, .ref c0, .ref h0, .int (an)])), (u0, .inr (1, [.ref aK, .ref aX, .ref aY, .ref aN, .ref aV, .ref aM, .int (nI (n)), .int (nI (R))])), (aK, .inl (cI, 24, .inl (Kf))), (aY, .inl (cI, 24, .inl (Yf))), (aN, .inl (cI, 24, .inl (Nf)))] sz) := by
  refine Met.ofW (cc := cB_hasBitsOfX) (maxL := 6) (ret := (some .boolean)) (by decide) rfl ?_
  intro p e s m args below meth c s₁ B hml hv0
  have hx := B.exec
  have hb := B.bytes
  have hr := B.returns
  have hts := atoms_spec (ws := wsB_hasBitsOfX) B.pre
  have hown : s.vm.findClass RB = some m.cls := findClass_of_methodNamed B.named
  have hlocks := B.notSynchronized
  obtain ⟨rfl, hsz, hG⟩ := dw_enter hv0
  generalize va_A [(b0, .inr (0, [.ref u0, .ref f0, .ref e0, .ref g0, .ref aRp, .ref aNr, .ref aI, .ref c0, .ref h0, .int (an)])), (u0, .inr (1, [.ref aK, .ref aX, .ref aY, .ref aN, .ref aV, .ref aM, .int (nI (n)), .int (nI (R))])), (aK, .inl (cI, 24, .inl (Kf))), (aY, .inl (cI, 24, .inl (Yf))), (aN, .inl (cI, 24, .inl (Nf)))] sz = A at hG ⊢
  have hl := lv_entry ([.ref b0, .int (nI (v)), .int (d)]) (n := 6) (Nat.le_of_ble_eq_true rfl)
  rw [lg_entry_eq]
  generalize (lg_sl ([.ref b0, .int (nI (v)), .int (d)]) ++ List.replicate (6 - (lg_sl ([.ref b0, .int (nI (v)), .int (d)])).length) Slot.unset).toArray = ls at hl ⊢
  have hl : lv_has ls 6 [(0, .ref b0), (1, .int (nI (v))), (2, .int (d))] := hl
  have hw138 := hts _ (List.mem_cons_of_mem _ tw_138)
  have hw44 := hts _ (List.mem_cons_of_mem _ tw_44)
  have hw34 := hts _ (List.mem_cons_of_mem _ tw_34)
  have hw49 := hts _ (List.mem_cons_of_mem _ tw_49)
  refine dw_Q (fun Q hQ => ?_)
  suffices hgo : ∀ (H : Heap) (locs : List Loc), dw_G (dC, dI) vwCl [(cI, .int), (cZ, .boolean)] A s.heap s [(b0, .inr (0, [.ref u0, .ref f0, .ref e0, .ref g0, .ref aRp, .ref aNr, .ref aI, .ref c0, .ref h0, .int (an)])), (u0, .inr (1, [.ref aK, .ref aX, .ref aY, .ref aN, .ref aV, .ref aM, .int (nI (n)), .int (nI (R))])), (aK, .inl (cI, 24, .inl (Kf))), (aY, .inl (cI, 24, .inl (Yf))), (aN, .inl (cI, 24, .inl (Nf)))] H locs → W p l e (headSpec wsB_hasBitsOfX { frames := 2, cells := 0, slots := 0, locals := 60 }).room s m [.ref b0, .int (nI (v)), .int (d)].toArray below meth c H locs 0 0 Q (F0 m 0 ls []) from hgo _ _ hG
  clear hG
  intro H locs hG
  refine lv_aload_n hx hb dB_hasBitsOfX_0 rfl (lv_at hl 0 rfl) ?_
  refine dw_get hx hb hts inBc hown hG 0 0 rfl rfl (by decide) hw138 rfl rfl dB_hasBitsOfX_1 ?_
  refine dw_get hx hb hts inUc hown hG 1 2 rfl rfl (by decide) hw44 rfl rfl dB_hasBitsOfX_4 ?_
  refine lv_iload_n hx hb dB_hasBitsOfX_7 rfl (lv_at hl 1 rfl) ?_
  refine dw_ia (x := nI (y)) hx hb hG 3 0 rfl rfl (v) rfl (by omega) (by decide) ey dB_hasBitsOfX_8 ?_
  refine lv_istore_n (lv' := [(3, .int (nI (y))), (0, .ref b0), (1, .int (nI (v))), (2, .int (d))]) hx hb dB_hasBitsOfX_9 rfl hl (by decide) rfl (fun ls hl => ?_)
  refine lv_aload_n hx hb dB_hasBitsOfX_10 rfl (lv_at hl 1 rfl) ?_
  refine dw_get hx hb hts inBc hown hG 0 0 rfl rfl (by decide) hw138 rfl rfl dB_hasBitsOfX_11 ?_
  refine dw_get hx hb hts inUc hown hG 1 0 rfl rfl (by decide) hw34 rfl rfl dB_hasBitsOfX_14 ?_
  refine lv_iload_n hx hb dB_hasBitsOfX_17 rfl (lv_at hl 0 rfl) ?_
  refine dw_ia (x := nI (ky)) hx hb hG 2 0 rfl rfl (y) rfl (by omega) (by decide) eky dB_hasBitsOfX_18 ?_
  refine lv_bipush (v := 10) hx hb dB_hasBitsOfX_19 (by decide) ?_
  refine lv_icmp_ne (tgt := 28) hx hb dB_hasBitsOfX_21 (by decide) (fun h21 => ?_) (fun h21 => ?_)
  · skip
    replace h21 : ¬ ky = 10 := fun hq0 => h21 ((nI_eq (a := ky) (b := 10) (by omega) (by omega)).mpr hq0)
    refine lv_iconst (v := 0) hx hb dB_hasBitsOfX_28 (by decide) ?_
    refine lv_istore (lv' := [(4, .int (0)), (3, .int (nI (y))), (0, .ref b0), (1, .int (nI (v))), (2, .int (d))]) hx hb dB_hasBitsOfX_29 hl (by decide) rfl (fun ls hl => ?_)
    refine lv_aload_n hx hb dB_hasBitsOfX_31 rfl (lv_at hl 2 rfl) ?_
    refine dw_get hx hb hts inBc hown hG 0 0 rfl rfl (by decide) hw138 rfl rfl dB_hasBitsOfX_32 ?_
    refine dw_get hx hb hts inUc hown hG 1 3 rfl rfl (by decide) hw49 rfl rfl dB_hasBitsOfX_35 ?_
    refine lv_iload_n hx hb dB_hasBitsOfX_38 rfl (lv_at hl 1 rfl) ?_
    refine dw_ia (x := (Nf) (y)) hx hb hG 4 0 rfl rfl (y) rfl (by omega) (by decide) rfl dB_hasBitsOfX_39 ?_
    refine lv_istore (lv' := [(5, .int ((Nf) (y))), (4, .int (0)), (3, .int (nI (y))), (0, .ref b0), (1, .int (nI (v))), (2, .int (d))]) hx hb dB_hasBitsOfX_40 hl (by decide) rfl (fun ls hl => ?_)
    refine lv_aload_n hx hb dB_hasBitsOfX_42 rfl (lv_at hl 3 rfl) ?_
    refine dw_get hx hb hts inBc hown hG 0 0 rfl rfl (by decide) hw138 rfl rfl dB_hasBitsOfX_43 ?_
    refine dw_get hx hb hts inUc hown hG 1 0 rfl rfl (by decide) hw34 rfl rfl dB_hasBitsOfX_46 ?_
    refine lv_iload_n hx hb dB_hasBitsOfX_49 rfl (lv_at hl 4 rfl) ?_
    refine dw_ia (x := 10) hx hb hG 2 0 rfl rfl (v) rfl (by omega) (by decide) ek dB_hasBitsOfX_50 ?_
    refine lv_tableIn (tgt := 202) hx hb dB_hasBitsOfX_51 (by decide) (by decide) rfl (by decide) ?_
    refine lv_iconst (v := 0) hx hb dB_hasBitsOfX_202 (by decide) ?_
    subst hQ
    exact dw_zret hx hb hr rfl hG (()) rfl ((if_neg (by show ¬ false = true; decide)).symm) dB_hasBitsOfX_203 hlocks
  replace h21 := (nI_eq (a := ky) (b := 10) (by omega) (by omega)).mp h21
  refine lv_iconst (v := 1) hx hb dB_hasBitsOfX_24 (by decide) ?_
  refine lv_goto (tgt := 29) hx hb dB_hasBitsOfX_25 (by decide) ?_
  refine lv_istore (lv' := [(4, .int (1)), (3, .int (nI (y))), (0, .ref b0), (1, .int (nI (v))), (2, .int (d))]) hx hb dB_hasBitsOfX_29 hl (by decide) rfl (fun ls hl => ?_)
  refine lv_aload_n hx hb dB_hasBitsOfX_31 rfl (lv_at hl 2 rfl) ?_
  refine dw_get hx hb hts inBc hown hG 0 0 rfl rfl (by decide) hw138 rfl rfl dB_hasBitsOfX_32 ?_
  refine dw_get hx hb hts inUc hown hG 1 3 rfl rfl (by decide) hw49 rfl rfl dB_hasBitsOfX_35 ?_
  refine lv_iload_n hx hb dB_hasBitsOfX_38 rfl (lv_at hl 1 rfl) ?_
  refine dw_ia (x := (Nf) (y)) hx hb hG 4 0 rfl rfl (y) rfl (by omega) (by decide) rfl dB_hasBitsOfX_39 ?_
  refine lv_istore (lv' := [(5, .int ((Nf) (y))), (4, .int (1)), (3, .int (nI (y))), (0, .ref b0), (1, .int (nI (v))), (2, .int (d))]) hx hb dB_hasBitsOfX_40 hl (by decide) rfl (fun ls hl => ?_)
  refine lv_aload_n hx hb dB_hasBitsOfX_42 rfl (lv_at hl 3 rfl) ?_
  refine dw_get hx hb hts inBc hown hG 0 0 rfl rfl (by decide) hw138 rfl rfl dB_hasBitsOfX_43 ?_
  refine dw_get hx hb hts inUc hown hG 1 0 rfl rfl (by decide) hw34 rfl rfl dB_hasBitsOfX_46 ?_
  refine lv_iload_n hx hb dB_hasBitsOfX_49 rfl (lv_at hl 4 rfl) ?_
  refine dw_ia (x := 10) hx hb hG 2 0 rfl rfl (v) rfl (by omega) (by decide) ek dB_hasBitsOfX_50 ?_
  refine lv_tableIn (tgt := 202) hx hb dB_hasBitsOfX_51 (by decide) (by decide) rfl (by decide) ?_
  refine lv_iconst (v := 0) hx hb dB_hasBitsOfX_202 (by decide) ?_
  subst hQ
  exact dw_zret hx hb hr rfl hG (()) rfl ((if_neg (by show ¬ false = true; decide)).symm) dB_hasBitsOfX_203 hlocks

set_option maxRecDepth 100000 in
set_option maxHeartbeats 4000000 in
theorem cb_has11 (l : Launch) (dC : Nat → ClassId) (dI : Nat → Nat → Nat) (cI cZ : ClassId) (b0 u0 aK aX aY aN aV aM f0 e0 g0 aRp aNr aI c0 h0 n R : Nat) (an : Int32) (Kf Yf Nf : Nat → Int32) (v y ky : Nat) (d : Int32) (sz : Nat) (hv : v < 24) (hy9 : y < 24) (ey : Yf v = nI y) (hky : ky ≤ 13) (eky : Kf y = nI ky) (ek : Kf v = nI 11) : Met l yB_hasBitsOfX wsB_hasBitsOfX { frames := 2, cells := 0, slots := 0, locals := 60 } (va_Pc [.ref b0, .int (nI (v)), .int (d)] (dw_pre (dC, dI) vwCl [(b0, .inr (0, [.ref u0, .ref f0, .ref e0, .ref g0, .ref aRp, .ref aNr, .ref aI, .ref c0, .ref h0, .int (an)])), (u0, .inr (1, [.ref aK, .ref aX, .ref aY, .ref aN, .ref aV, .ref aM, .int (nI (n)), .int (nI (R))])), (aK, .inl (cI, 24, .inl (Kf))), (aY, .inl (cI, 24, .inl (Yf))), (aN, .inl (cI, 24, .inl (Nf)))] [(cI, .int), (cZ, .boolean)] sz)) (va_Qi (fun (r : Int32) (u : Unit) => r = if db_has 11 (decide (ky = 10)) (Nf y) d = true then 1 else 0) (fun u t => dw_post (dC, dI) vwCl [(b0, .inr (0, [.ref u0, .ref f0, .ref e0, .ref g0, .ref aRp, .ref aNr, .ref aI, .ref c0, .ref h0, .int (an)])), (u0, .inr (1, [.ref aK, .ref aX, .ref aY, .ref aN, .ref aV, .ref aM, .int (nI (n)), .int (nI (R))])), (aK, .inl (cI, 24, .inl (Kf))), (aY, .inl (cI, 24, .inl (Yf))), (aN, .inl (cI, 24, .inl (Nf)))] [(cI, .int), (cZ, .boolean)] (va_A [(b0, .inr (0, [.ref u0, .ref f0, .ref e0, .ref g0, .ref aRp, .ref aNr, .ref aI, .ref c0, .ref h0, .int (an)])), (u0, .inr (1, [.ref aK, .ref aX, .ref aY, .ref aN, .ref aV, .ref aM, .int (nI (n)), .int (nI (R))])), (aK, .inl (cI, 24, .inl (Kf))), (aY, .inl (cI, 24, .inl (Yf))), (aN, .inl (cI, 24, .inl (Nf)))] sz) t) (va_A [(b0, .inr (0, [.ref u0, .ref f0, .ref e0, .ref g0, .ref aRp, .ref aNr, .ref aI, .ref c0, .ref h0, .int (an)])), (u0, .inr (1, [.ref aK, .ref aX, .ref aY, .ref aN, .ref aV, .ref aM, .int (nI (n)), .int (nI (R))])), (aK, .inl (cI, 24, .inl (Kf))), (aY, .inl (cI, 24, .inl (Yf))), (aN, .inl (cI, 24, .inl (Nf)))] sz)) 0 0 (va_A [(b0, .inr (0, [.ref u0, .ref f0, .ref e0, .ref g0, .ref aRp, .ref aNr, .ref aI, .ref c0, .ref h0, .int (an)])), (u0, .inr (1, [.ref aK, .ref aX, .ref aY, .ref aN, .ref aV, .ref aM, .int (nI (n)), .int (nI (R))])), (aK, .inl (cI, 24, .inl (Kf))), (aY, .inl (cI, 24, .inl (Yf))), (aN, .inl (cI, 24, .inl (Nf)))] sz) := by
  refine Met.ofW (cc := cB_hasBitsOfX) (maxL := 6) (ret := (some .boolean)) (by decide) rfl ?_
  intro p e s m args below meth c s₁ B hml hv0
  have hx := B.exec
  have hb := B.bytes
  have hr := B.returns
  have hts := atoms_spec (ws := wsB_hasBitsOfX) B.pre
  have hown : s.vm.findClass RB = some m.cls := findClass_of_methodNamed B.named
  have hlocks := B.notSynchronized
  obtain ⟨rfl, hsz, hG⟩ := dw_enter hv0
  generalize va_A [(b0, .inr (0, [.ref u0, .ref f0, .ref e0, .ref g0, .ref aRp, .ref aNr, .ref aI, .ref c0, .ref h0, .int (an)])), (u0, .inr (1, [.ref aK, .ref aX, .ref aY, .ref aN, .ref aV, .ref aM, .int (nI (n)), .int (nI (R))])), (aK, .inl (cI, 24, .inl (Kf))), (aY, .inl (cI, 24, .inl (Yf))), (aN, .inl (cI, 24, .inl (Nf)))] sz = A at hG ⊢
  have hl := lv_entry ([.ref b0, .int (nI (v)), .int (d)]) (n := 6) (Nat.le_of_ble_eq_true rfl)
  rw [lg_entry_eq]
  generalize (lg_sl ([.ref b0, .int (nI (v)), .int (d)]) ++ List.replicate (6 - (lg_sl ([.ref b0, .int (nI (v)), .int (d)])).length) Slot.unset).toArray = ls at hl ⊢
  have hl : lv_has ls 6 [(0, .ref b0), (1, .int (nI (v))), (2, .int (d))] := hl
  have hw138 := hts _ (List.mem_cons_of_mem _ tw_138)
  have hw44 := hts _ (List.mem_cons_of_mem _ tw_44)
  have hw34 := hts _ (List.mem_cons_of_mem _ tw_34)
  have hw49 := hts _ (List.mem_cons_of_mem _ tw_49)
  refine dw_Q (fun Q hQ => ?_)
  suffices hgo : ∀ (H : Heap) (locs : List Loc), dw_G (dC, dI) vwCl [(cI, .int), (cZ, .boolean)] A s.heap s [(b0, .inr (0, [.ref u0, .ref f0, .ref e0, .ref g0, .ref aRp, .ref aNr, .ref aI, .ref c0, .ref h0, .int (an)])), (u0, .inr (1, [.ref aK, .ref aX, .ref aY, .ref aN, .ref aV, .ref aM, .int (nI (n)), .int (nI (R))])), (aK, .inl (cI, 24, .inl (Kf))), (aY, .inl (cI, 24, .inl (Yf))), (aN, .inl (cI, 24, .inl (Nf)))] H locs → W p l e (headSpec wsB_hasBitsOfX { frames := 2, cells := 0, slots := 0, locals := 60 }).room s m [.ref b0, .int (nI (v)), .int (d)].toArray below meth c H locs 0 0 Q (F0 m 0 ls []) from hgo _ _ hG
  clear hG
  intro H locs hG
  refine lv_aload_n hx hb dB_hasBitsOfX_0 rfl (lv_at hl 0 rfl) ?_
  refine dw_get hx hb hts inBc hown hG 0 0 rfl rfl (by decide) hw138 rfl rfl dB_hasBitsOfX_1 ?_
  refine dw_get hx hb hts inUc hown hG 1 2 rfl rfl (by decide) hw44 rfl rfl dB_hasBitsOfX_4 ?_
  refine lv_iload_n hx hb dB_hasBitsOfX_7 rfl (lv_at hl 1 rfl) ?_
  refine dw_ia (x := nI (y)) hx hb hG 3 0 rfl rfl (v) rfl (by omega) (by decide) ey dB_hasBitsOfX_8 ?_
  refine lv_istore_n (lv' := [(3, .int (nI (y))), (0, .ref b0), (1, .int (nI (v))), (2, .int (d))]) hx hb dB_hasBitsOfX_9 rfl hl (by decide) rfl (fun ls hl => ?_)
  refine lv_aload_n hx hb dB_hasBitsOfX_10 rfl (lv_at hl 1 rfl) ?_
  refine dw_get hx hb hts inBc hown hG 0 0 rfl rfl (by decide) hw138 rfl rfl dB_hasBitsOfX_11 ?_
  refine dw_get hx hb hts inUc hown hG 1 0 rfl rfl (by decide) hw34 rfl rfl dB_hasBitsOfX_14 ?_
  refine lv_iload_n hx hb dB_hasBitsOfX_17 rfl (lv_at hl 0 rfl) ?_
  refine dw_ia (x := nI (ky)) hx hb hG 2 0 rfl rfl (y) rfl (by omega) (by decide) eky dB_hasBitsOfX_18 ?_
  refine lv_bipush (v := 10) hx hb dB_hasBitsOfX_19 (by decide) ?_
  refine lv_icmp_ne (tgt := 28) hx hb dB_hasBitsOfX_21 (by decide) (fun h21 => ?_) (fun h21 => ?_)
  · skip
    replace h21 : ¬ ky = 10 := fun hq0 => h21 ((nI_eq (a := ky) (b := 10) (by omega) (by omega)).mpr hq0)
    refine lv_iconst (v := 0) hx hb dB_hasBitsOfX_28 (by decide) ?_
    refine lv_istore (lv' := [(4, .int (0)), (3, .int (nI (y))), (0, .ref b0), (1, .int (nI (v))), (2, .int (d))]) hx hb dB_hasBitsOfX_29 hl (by decide) rfl (fun ls hl => ?_)
    refine lv_aload_n hx hb dB_hasBitsOfX_31 rfl (lv_at hl 2 rfl) ?_
    refine dw_get hx hb hts inBc hown hG 0 0 rfl rfl (by decide) hw138 rfl rfl dB_hasBitsOfX_32 ?_
    refine dw_get hx hb hts inUc hown hG 1 3 rfl rfl (by decide) hw49 rfl rfl dB_hasBitsOfX_35 ?_
    refine lv_iload_n hx hb dB_hasBitsOfX_38 rfl (lv_at hl 1 rfl) ?_
    refine dw_ia (x := (Nf) (y)) hx hb hG 4 0 rfl rfl (y) rfl (by omega) (by decide) rfl dB_hasBitsOfX_39 ?_
    refine lv_istore (lv' := [(5, .int ((Nf) (y))), (4, .int (0)), (3, .int (nI (y))), (0, .ref b0), (1, .int (nI (v))), (2, .int (d))]) hx hb dB_hasBitsOfX_40 hl (by decide) rfl (fun ls hl => ?_)
    refine lv_aload_n hx hb dB_hasBitsOfX_42 rfl (lv_at hl 3 rfl) ?_
    refine dw_get hx hb hts inBc hown hG 0 0 rfl rfl (by decide) hw138 rfl rfl dB_hasBitsOfX_43 ?_
    refine dw_get hx hb hts inUc hown hG 1 0 rfl rfl (by decide) hw34 rfl rfl dB_hasBitsOfX_46 ?_
    refine lv_iload_n hx hb dB_hasBitsOfX_49 rfl (lv_at hl 4 rfl) ?_
    refine dw_ia (x := 11) hx hb hG 2 0 rfl rfl (v) rfl (by omega) (by decide) ek dB_hasBitsOfX_50 ?_
    refine lv_tableIn (tgt := 175) hx hb dB_hasBitsOfX_51 (by decide) (by decide) rfl (by decide) ?_
    refine lv_iload_n hx hb dB_hasBitsOfX_175 rfl (lv_at hl 5 rfl) ?_
    refine lv_sipush (v := -256) hx hb dB_hasBitsOfX_176 (by decide) ?_
    refine lv_iand hx hb dB_hasBitsOfX_179 ?_
    refine lv_if_ne (tgt := 187) hx hb dB_hasBitsOfX_180 (by decide) (fun h180 => ?_) (fun h180 => ?_)
    · skip
      refine lv_iconst (v := 0) hx hb dB_hasBitsOfX_187 (by decide) ?_
      subst hQ
      exact dw_zret hx hb hr rfl hG (()) rfl ((if_neg (by show ¬ decide (d &&& (-256) = 0) = true; rw [decide_eq_false h180]; decide)).symm) dB_hasBitsOfX_188 hlocks
    refine lv_iconst (v := 1) hx hb dB_hasBitsOfX_183 (by decide) ?_
    refine lv_goto (tgt := 188) hx hb dB_hasBitsOfX_184 (by decide) ?_
    subst hQ
    exact dw_zret hx hb hr rfl hG (()) rfl ((if_pos (by show decide (d &&& (-256) = 0) = true; exact decide_eq_true h180)).symm) dB_hasBitsOfX_188 hlocks
  replace h21 := (nI_eq (a := ky) (b := 10) (by omega) (by omega)).mp h21
  refine lv_iconst (v := 1) hx hb dB_hasBitsOfX_24 (by decide) ?_
  refine lv_goto (tgt := 29) hx hb dB_hasBitsOfX_25 (by decide) ?_
  refine lv_istore (lv' := [(4, .int (1)), (3, .int (nI (y))), (0, .ref b0), (1, .int (nI (v))), (2, .int (d))]) hx hb dB_hasBitsOfX_29 hl (by decide) rfl (fun ls hl => ?_)
  refine lv_aload_n hx hb dB_hasBitsOfX_31 rfl (lv_at hl 2 rfl) ?_
  refine dw_get hx hb hts inBc hown hG 0 0 rfl rfl (by decide) hw138 rfl rfl dB_hasBitsOfX_32 ?_
  refine dw_get hx hb hts inUc hown hG 1 3 rfl rfl (by decide) hw49 rfl rfl dB_hasBitsOfX_35 ?_
  refine lv_iload_n hx hb dB_hasBitsOfX_38 rfl (lv_at hl 1 rfl) ?_
  refine dw_ia (x := (Nf) (y)) hx hb hG 4 0 rfl rfl (y) rfl (by omega) (by decide) rfl dB_hasBitsOfX_39 ?_
  refine lv_istore (lv' := [(5, .int ((Nf) (y))), (4, .int (1)), (3, .int (nI (y))), (0, .ref b0), (1, .int (nI (v))), (2, .int (d))]) hx hb dB_hasBitsOfX_40 hl (by decide) rfl (fun ls hl => ?_)
  refine lv_aload_n hx hb dB_hasBitsOfX_42 rfl (lv_at hl 3 rfl) ?_
  refine dw_get hx hb hts inBc hown hG 0 0 rfl rfl (by decide) hw138 rfl rfl dB_hasBitsOfX_43 ?_
  refine dw_get hx hb hts inUc hown hG 1 0 rfl rfl (by decide) hw34 rfl rfl dB_hasBitsOfX_46 ?_
  refine lv_iload_n hx hb dB_hasBitsOfX_49 rfl (lv_at hl 4 rfl) ?_
  refine dw_ia (x := 11) hx hb hG 2 0 rfl rfl (v) rfl (by omega) (by decide) ek dB_hasBitsOfX_50 ?_
  refine lv_tableIn (tgt := 175) hx hb dB_hasBitsOfX_51 (by decide) (by decide) rfl (by decide) ?_
  refine lv_iload_n hx hb dB_hasBitsOfX_175 rfl (lv_at hl 5 rfl) ?_
  refine lv_sipush (v := -256) hx hb dB_hasBitsOfX_176 (by decide) ?_
  refine lv_iand hx hb dB_hasBitsOfX_179 ?_
  refine lv_if_ne (tgt := 187) hx hb dB_hasBitsOfX_180 (by decide) (fun h180 => ?_) (fun h180 => ?_)
  · skip
    refine lv_iconst (v := 0) hx hb dB_hasBitsOfX_187 (by decide) ?_
    subst hQ
    exact dw_zret hx hb hr rfl hG (()) rfl ((if_neg (by show ¬ decide (d &&& (-256) = 0) = true; rw [decide_eq_false h180]; decide)).symm) dB_hasBitsOfX_188 hlocks
  refine lv_iconst (v := 1) hx hb dB_hasBitsOfX_183 (by decide) ?_
  refine lv_goto (tgt := 188) hx hb dB_hasBitsOfX_184 (by decide) ?_
  subst hQ
  exact dw_zret hx hb hr rfl hG (()) rfl ((if_pos (by show decide (d &&& (-256) = 0) = true; exact decide_eq_true h180)).symm) dB_hasBitsOfX_188 hlocks

set_option maxRecDepth 100000 in
set_option maxHeartbeats 4000000 in
theorem cb_has12 (l : Launch) (dC : Nat → ClassId) (dI : Nat → Nat → Nat) (cI cZ : ClassId) (b0 u0 aK aX aY aN aV aM f0 e0 g0 aRp aNr aI c0 h0 n R : Nat) (an : Int32) (Kf Yf Nf : Nat → Int32) (v y ky : Nat) (d : Int32) (sz : Nat) (hv : v < 24) (hy9 : y < 24) (ey : Yf v = nI y) (hky : ky ≤ 13) (eky : Kf y = nI ky) (ek : Kf v = nI 12) : Met l yB_hasBitsOfX wsB_hasBitsOfX { frames := 2, cells := 0, slots := 0, locals := 60 } (va_Pc [.ref b0, .int (nI (v)), .int (d)] (dw_pre (dC, dI) vwCl [(b0, .inr (0, [.ref u0, .ref f0, .ref e0, .ref g0, .ref aRp, .ref aNr, .ref aI, .ref c0, .ref h0, .int (an)])), (u0, .inr (1, [.ref aK, .ref aX, .ref aY, .ref aN, .ref aV, .ref aM, .int (nI (n)), .int (nI (R))])), (aK, .inl (cI, 24, .inl (Kf))), (aY, .inl (cI, 24, .inl (Yf))), (aN, .inl (cI, 24, .inl (Nf)))] [(cI, .int), (cZ, .boolean)] sz)) (va_Qi (fun (r : Int32) (u : Unit) => r = if db_has 12 (decide (ky = 10)) (Nf y) d = true then 1 else 0) (fun u t => dw_post (dC, dI) vwCl [(b0, .inr (0, [.ref u0, .ref f0, .ref e0, .ref g0, .ref aRp, .ref aNr, .ref aI, .ref c0, .ref h0, .int (an)])), (u0, .inr (1, [.ref aK, .ref aX, .ref aY, .ref aN, .ref aV, .ref aM, .int (nI (n)), .int (nI (R))])), (aK, .inl (cI, 24, .inl (Kf))), (aY, .inl (cI, 24, .inl (Yf))), (aN, .inl (cI, 24, .inl (Nf)))] [(cI, .int), (cZ, .boolean)] (va_A [(b0, .inr (0, [.ref u0, .ref f0, .ref e0, .ref g0, .ref aRp, .ref aNr, .ref aI, .ref c0, .ref h0, .int (an)])), (u0, .inr (1, [.ref aK, .ref aX, .ref aY, .ref aN, .ref aV, .ref aM, .int (nI (n)), .int (nI (R))])), (aK, .inl (cI, 24, .inl (Kf))), (aY, .inl (cI, 24, .inl (Yf))), (aN, .inl (cI, 24, .inl (Nf)))] sz) t) (va_A [(b0, .inr (0, [.ref u0, .ref f0, .ref e0, .ref g0, .ref aRp, .ref aNr, .ref aI, .ref c0, .ref h0, .int (an)])), (u0, .inr (1, [.ref aK, .ref aX, .ref aY, .ref aN, .ref aV, .ref aM, .int (nI (n)), .int (nI (R))])), (aK, .inl (cI, 24, .inl (Kf))), (aY, .inl (cI, 24, .inl (Yf))), (aN, .inl (cI, 24, .inl (Nf)))] sz)) 0 0 (va_A [(b0, .inr (0, [.ref u0, .ref f0, .ref e0, .ref g0, .ref aRp, .ref aNr, .ref aI, .ref c0, .ref h0, .int (an)])), (u0, .inr (1, [.ref aK, .ref aX, .ref aY, .ref aN, .ref aV, .ref aM, .int (nI (n)), .int (nI (R))])), (aK, .inl (cI, 24, .inl (Kf))), (aY, .inl (cI, 24, .inl (Yf))), (aN, .inl (cI, 24, .inl (Nf)))] sz) := by
  refine Met.ofW (cc := cB_hasBitsOfX) (maxL := 6) (ret := (some .boolean)) (by decide) rfl ?_
  intro p e s m args below meth c s₁ B hml hv0
  have hx := B.exec
  have hb := B.bytes
  have hr := B.returns
  have hts := atoms_spec (ws := wsB_hasBitsOfX) B.pre
  have hown : s.vm.findClass RB = some m.cls := findClass_of_methodNamed B.named
  have hlocks := B.notSynchronized
  obtain ⟨rfl, hsz, hG⟩ := dw_enter hv0
  generalize va_A [(b0, .inr (0, [.ref u0, .ref f0, .ref e0, .ref g0, .ref aRp, .ref aNr, .ref aI, .ref c0, .ref h0, .int (an)])), (u0, .inr (1, [.ref aK, .ref aX, .ref aY, .ref aN, .ref aV, .ref aM, .int (nI (n)), .int (nI (R))])), (aK, .inl (cI, 24, .inl (Kf))), (aY, .inl (cI, 24, .inl (Yf))), (aN, .inl (cI, 24, .inl (Nf)))] sz = A at hG ⊢
  have hl := lv_entry ([.ref b0, .int (nI (v)), .int (d)]) (n := 6) (Nat.le_of_ble_eq_true rfl)
  rw [lg_entry_eq]
  generalize (lg_sl ([.ref b0, .int (nI (v)), .int (d)]) ++ List.replicate (6 - (lg_sl ([.ref b0, .int (nI (v)), .int (d)])).length) Slot.unset).toArray = ls at hl ⊢
  have hl : lv_has ls 6 [(0, .ref b0), (1, .int (nI (v))), (2, .int (d))] := hl
  have hw138 := hts _ (List.mem_cons_of_mem _ tw_138)
  have hw44 := hts _ (List.mem_cons_of_mem _ tw_44)
  have hw34 := hts _ (List.mem_cons_of_mem _ tw_34)
  have hw49 := hts _ (List.mem_cons_of_mem _ tw_49)
  have hw252 := hts _ (List.mem_cons_of_mem _ tw_252)
  refine dw_Q (fun Q hQ => ?_)
  suffices hgo : ∀ (H : Heap) (locs : List Loc), dw_G (dC, dI) vwCl [(cI, .int), (cZ, .boolean)] A s.heap s [(b0, .inr (0, [.ref u0, .ref f0, .ref e0, .ref g0, .ref aRp, .ref aNr, .ref aI, .ref c0, .ref h0, .int (an)])), (u0, .inr (1, [.ref aK, .ref aX, .ref aY, .ref aN, .ref aV, .ref aM, .int (nI (n)), .int (nI (R))])), (aK, .inl (cI, 24, .inl (Kf))), (aY, .inl (cI, 24, .inl (Yf))), (aN, .inl (cI, 24, .inl (Nf)))] H locs → W p l e (headSpec wsB_hasBitsOfX { frames := 2, cells := 0, slots := 0, locals := 60 }).room s m [.ref b0, .int (nI (v)), .int (d)].toArray below meth c H locs 0 0 Q (F0 m 0 ls []) from hgo _ _ hG
  clear hG
  intro H locs hG
  refine lv_aload_n hx hb dB_hasBitsOfX_0 rfl (lv_at hl 0 rfl) ?_
  refine dw_get hx hb hts inBc hown hG 0 0 rfl rfl (by decide) hw138 rfl rfl dB_hasBitsOfX_1 ?_
  refine dw_get hx hb hts inUc hown hG 1 2 rfl rfl (by decide) hw44 rfl rfl dB_hasBitsOfX_4 ?_
  refine lv_iload_n hx hb dB_hasBitsOfX_7 rfl (lv_at hl 1 rfl) ?_
  refine dw_ia (x := nI (y)) hx hb hG 3 0 rfl rfl (v) rfl (by omega) (by decide) ey dB_hasBitsOfX_8 ?_
  refine lv_istore_n (lv' := [(3, .int (nI (y))), (0, .ref b0), (1, .int (nI (v))), (2, .int (d))]) hx hb dB_hasBitsOfX_9 rfl hl (by decide) rfl (fun ls hl => ?_)
  refine lv_aload_n hx hb dB_hasBitsOfX_10 rfl (lv_at hl 1 rfl) ?_
  refine dw_get hx hb hts inBc hown hG 0 0 rfl rfl (by decide) hw138 rfl rfl dB_hasBitsOfX_11 ?_
  refine dw_get hx hb hts inUc hown hG 1 0 rfl rfl (by decide) hw34 rfl rfl dB_hasBitsOfX_14 ?_
  refine lv_iload_n hx hb dB_hasBitsOfX_17 rfl (lv_at hl 0 rfl) ?_
  refine dw_ia (x := nI (ky)) hx hb hG 2 0 rfl rfl (y) rfl (by omega) (by decide) eky dB_hasBitsOfX_18 ?_
  refine lv_bipush (v := 10) hx hb dB_hasBitsOfX_19 (by decide) ?_
  refine lv_icmp_ne (tgt := 28) hx hb dB_hasBitsOfX_21 (by decide) (fun h21 => ?_) (fun h21 => ?_)
  · skip
    replace h21 : ¬ ky = 10 := fun hq0 => h21 ((nI_eq (a := ky) (b := 10) (by omega) (by omega)).mpr hq0)
    refine lv_iconst (v := 0) hx hb dB_hasBitsOfX_28 (by decide) ?_
    refine lv_istore (lv' := [(4, .int (0)), (3, .int (nI (y))), (0, .ref b0), (1, .int (nI (v))), (2, .int (d))]) hx hb dB_hasBitsOfX_29 hl (by decide) rfl (fun ls hl => ?_)
    refine lv_aload_n hx hb dB_hasBitsOfX_31 rfl (lv_at hl 2 rfl) ?_
    refine dw_get hx hb hts inBc hown hG 0 0 rfl rfl (by decide) hw138 rfl rfl dB_hasBitsOfX_32 ?_
    refine dw_get hx hb hts inUc hown hG 1 3 rfl rfl (by decide) hw49 rfl rfl dB_hasBitsOfX_35 ?_
    refine lv_iload_n hx hb dB_hasBitsOfX_38 rfl (lv_at hl 1 rfl) ?_
    refine dw_ia (x := (Nf) (y)) hx hb hG 4 0 rfl rfl (y) rfl (by omega) (by decide) rfl dB_hasBitsOfX_39 ?_
    refine lv_istore (lv' := [(5, .int ((Nf) (y))), (4, .int (0)), (3, .int (nI (y))), (0, .ref b0), (1, .int (nI (v))), (2, .int (d))]) hx hb dB_hasBitsOfX_40 hl (by decide) rfl (fun ls hl => ?_)
    refine lv_aload_n hx hb dB_hasBitsOfX_42 rfl (lv_at hl 3 rfl) ?_
    refine dw_get hx hb hts inBc hown hG 0 0 rfl rfl (by decide) hw138 rfl rfl dB_hasBitsOfX_43 ?_
    refine dw_get hx hb hts inUc hown hG 1 0 rfl rfl (by decide) hw34 rfl rfl dB_hasBitsOfX_46 ?_
    refine lv_iload_n hx hb dB_hasBitsOfX_49 rfl (lv_at hl 4 rfl) ?_
    refine dw_ia (x := 12) hx hb hG 2 0 rfl rfl (v) rfl (by omega) (by decide) ek dB_hasBitsOfX_50 ?_
    refine lv_tableIn (tgt := 189) hx hb dB_hasBitsOfX_51 (by decide) (by decide) rfl (by decide) ?_
    refine lv_iload_n hx hb dB_hasBitsOfX_189 rfl (lv_at hl 5 rfl) ?_
    refine lv_ldc (v := -65536) hx hb hown hw252 dB_hasBitsOfX_190 ?_
    refine lv_iand hx hb dB_hasBitsOfX_192 ?_
    refine lv_if_ne (tgt := 200) hx hb dB_hasBitsOfX_193 (by decide) (fun h193 => ?_) (fun h193 => ?_)
    · skip
      refine lv_iconst (v := 0) hx hb dB_hasBitsOfX_200 (by decide) ?_
      subst hQ
      exact dw_zret hx hb hr rfl hG (()) rfl ((if_neg (by show ¬ decide (d &&& (-65536) = 0) = true; rw [decide_eq_false h193]; decide)).symm) dB_hasBitsOfX_201 hlocks
    refine lv_iconst (v := 1) hx hb dB_hasBitsOfX_196 (by decide) ?_
    refine lv_goto (tgt := 201) hx hb dB_hasBitsOfX_197 (by decide) ?_
    subst hQ
    exact dw_zret hx hb hr rfl hG (()) rfl ((if_pos (by show decide (d &&& (-65536) = 0) = true; exact decide_eq_true h193)).symm) dB_hasBitsOfX_201 hlocks
  replace h21 := (nI_eq (a := ky) (b := 10) (by omega) (by omega)).mp h21
  refine lv_iconst (v := 1) hx hb dB_hasBitsOfX_24 (by decide) ?_
  refine lv_goto (tgt := 29) hx hb dB_hasBitsOfX_25 (by decide) ?_
  refine lv_istore (lv' := [(4, .int (1)), (3, .int (nI (y))), (0, .ref b0), (1, .int (nI (v))), (2, .int (d))]) hx hb dB_hasBitsOfX_29 hl (by decide) rfl (fun ls hl => ?_)
  refine lv_aload_n hx hb dB_hasBitsOfX_31 rfl (lv_at hl 2 rfl) ?_
  refine dw_get hx hb hts inBc hown hG 0 0 rfl rfl (by decide) hw138 rfl rfl dB_hasBitsOfX_32 ?_
  refine dw_get hx hb hts inUc hown hG 1 3 rfl rfl (by decide) hw49 rfl rfl dB_hasBitsOfX_35 ?_
  refine lv_iload_n hx hb dB_hasBitsOfX_38 rfl (lv_at hl 1 rfl) ?_
  refine dw_ia (x := (Nf) (y)) hx hb hG 4 0 rfl rfl (y) rfl (by omega) (by decide) rfl dB_hasBitsOfX_39 ?_
  refine lv_istore (lv' := [(5, .int ((Nf) (y))), (4, .int (1)), (3, .int (nI (y))), (0, .ref b0), (1, .int (nI (v))), (2, .int (d))]) hx hb dB_hasBitsOfX_40 hl (by decide) rfl (fun ls hl => ?_)
  refine lv_aload_n hx hb dB_hasBitsOfX_42 rfl (lv_at hl 3 rfl) ?_
  refine dw_get hx hb hts inBc hown hG 0 0 rfl rfl (by decide) hw138 rfl rfl dB_hasBitsOfX_43 ?_
  refine dw_get hx hb hts inUc hown hG 1 0 rfl rfl (by decide) hw34 rfl rfl dB_hasBitsOfX_46 ?_
  refine lv_iload_n hx hb dB_hasBitsOfX_49 rfl (lv_at hl 4 rfl) ?_
  refine dw_ia (x := 12) hx hb hG 2 0 rfl rfl (v) rfl (by omega) (by decide) ek dB_hasBitsOfX_50 ?_
  refine lv_tableIn (tgt := 189) hx hb dB_hasBitsOfX_51 (by decide) (by decide) rfl (by decide) ?_
  refine lv_iload_n hx hb dB_hasBitsOfX_189 rfl (lv_at hl 5 rfl) ?_
  refine lv_ldc (v := -65536) hx hb hown hw252 dB_hasBitsOfX_190 ?_
  refine lv_iand hx hb dB_hasBitsOfX_192 ?_
  refine lv_if_ne (tgt := 200) hx hb dB_hasBitsOfX_193 (by decide) (fun h193 => ?_) (fun h193 => ?_)
  · skip
    refine lv_iconst (v := 0) hx hb dB_hasBitsOfX_200 (by decide) ?_
    subst hQ
    exact dw_zret hx hb hr rfl hG (()) rfl ((if_neg (by show ¬ decide (d &&& (-65536) = 0) = true; rw [decide_eq_false h193]; decide)).symm) dB_hasBitsOfX_201 hlocks
  refine lv_iconst (v := 1) hx hb dB_hasBitsOfX_196 (by decide) ?_
  refine lv_goto (tgt := 201) hx hb dB_hasBitsOfX_197 (by decide) ?_
  subst hQ
  exact dw_zret hx hb hr rfl hG (()) rfl ((if_pos (by show decide (d &&& (-65536) = 0) = true; exact decide_eq_true h193)).symm) dB_hasBitsOfX_201 hlocks

set_option maxRecDepth 100000 in
set_option maxHeartbeats 4000000 in
theorem cb_has13 (l : Launch) (dC : Nat → ClassId) (dI : Nat → Nat → Nat) (cI cZ : ClassId) (b0 u0 aK aX aY aN aV aM f0 e0 g0 aRp aNr aI c0 h0 n R : Nat) (an : Int32) (Kf Yf Nf : Nat → Int32) (v y ky : Nat) (d : Int32) (sz : Nat) (hv : v < 24) (hy9 : y < 24) (ey : Yf v = nI y) (hky : ky ≤ 13) (eky : Kf y = nI ky) (ek : Kf v = nI 13) : Met l yB_hasBitsOfX wsB_hasBitsOfX { frames := 2, cells := 0, slots := 0, locals := 60 } (va_Pc [.ref b0, .int (nI (v)), .int (d)] (dw_pre (dC, dI) vwCl [(b0, .inr (0, [.ref u0, .ref f0, .ref e0, .ref g0, .ref aRp, .ref aNr, .ref aI, .ref c0, .ref h0, .int (an)])), (u0, .inr (1, [.ref aK, .ref aX, .ref aY, .ref aN, .ref aV, .ref aM, .int (nI (n)), .int (nI (R))])), (aK, .inl (cI, 24, .inl (Kf))), (aY, .inl (cI, 24, .inl (Yf))), (aN, .inl (cI, 24, .inl (Nf)))] [(cI, .int), (cZ, .boolean)] sz)) (va_Qi (fun (r : Int32) (u : Unit) => r = if db_has 13 (decide (ky = 10)) (Nf y) d = true then 1 else 0) (fun u t => dw_post (dC, dI) vwCl [(b0, .inr (0, [.ref u0, .ref f0, .ref e0, .ref g0, .ref aRp, .ref aNr, .ref aI, .ref c0, .ref h0, .int (an)])), (u0, .inr (1, [.ref aK, .ref aX, .ref aY, .ref aN, .ref aV, .ref aM, .int (nI (n)), .int (nI (R))])), (aK, .inl (cI, 24, .inl (Kf))), (aY, .inl (cI, 24, .inl (Yf))), (aN, .inl (cI, 24, .inl (Nf)))] [(cI, .int), (cZ, .boolean)] (va_A [(b0, .inr (0, [.ref u0, .ref f0, .ref e0, .ref g0, .ref aRp, .ref aNr, .ref aI, .ref c0, .ref h0, .int (an)])), (u0, .inr (1, [.ref aK, .ref aX, .ref aY, .ref aN, .ref aV, .ref aM, .int (nI (n)), .int (nI (R))])), (aK, .inl (cI, 24, .inl (Kf))), (aY, .inl (cI, 24, .inl (Yf))), (aN, .inl (cI, 24, .inl (Nf)))] sz) t) (va_A [(b0, .inr (0, [.ref u0, .ref f0, .ref e0, .ref g0, .ref aRp, .ref aNr, .ref aI, .ref c0, .ref h0, .int (an)])), (u0, .inr (1, [.ref aK, .ref aX, .ref aY, .ref aN, .ref aV, .ref aM, .int (nI (n)), .int (nI (R))])), (aK, .inl (cI, 24, .inl (Kf))), (aY, .inl (cI, 24, .inl (Yf))), (aN, .inl (cI, 24, .inl (Nf)))] sz)) 0 0 (va_A [(b0, .inr (0, [.ref u0, .ref f0, .ref e0, .ref g0, .ref aRp, .ref aNr, .ref aI, .ref c0, .ref h0, .int (an)])), (u0, .inr (1, [.ref aK, .ref aX, .ref aY, .ref aN, .ref aV, .ref aM, .int (nI (n)), .int (nI (R))])), (aK, .inl (cI, 24, .inl (Kf))), (aY, .inl (cI, 24, .inl (Yf))), (aN, .inl (cI, 24, .inl (Nf)))] sz) := by
  refine Met.ofW (cc := cB_hasBitsOfX) (maxL := 6) (ret := (some .boolean)) (by decide) rfl ?_
  intro p e s m args below meth c s₁ B hml hv0
  have hx := B.exec
  have hb := B.bytes
  have hr := B.returns
  have hts := atoms_spec (ws := wsB_hasBitsOfX) B.pre
  have hown : s.vm.findClass RB = some m.cls := findClass_of_methodNamed B.named
  have hlocks := B.notSynchronized
  obtain ⟨rfl, hsz, hG⟩ := dw_enter hv0
  generalize va_A [(b0, .inr (0, [.ref u0, .ref f0, .ref e0, .ref g0, .ref aRp, .ref aNr, .ref aI, .ref c0, .ref h0, .int (an)])), (u0, .inr (1, [.ref aK, .ref aX, .ref aY, .ref aN, .ref aV, .ref aM, .int (nI (n)), .int (nI (R))])), (aK, .inl (cI, 24, .inl (Kf))), (aY, .inl (cI, 24, .inl (Yf))), (aN, .inl (cI, 24, .inl (Nf)))] sz = A at hG ⊢
  have hl := lv_entry ([.ref b0, .int (nI (v)), .int (d)]) (n := 6) (Nat.le_of_ble_eq_true rfl)
  rw [lg_entry_eq]
  generalize (lg_sl ([.ref b0, .int (nI (v)), .int (d)]) ++ List.replicate (6 - (lg_sl ([.ref b0, .int (nI (v)), .int (d)])).length) Slot.unset).toArray = ls at hl ⊢
  have hl : lv_has ls 6 [(0, .ref b0), (1, .int (nI (v))), (2, .int (d))] := hl
  have hw138 := hts _ (List.mem_cons_of_mem _ tw_138)
  have hw44 := hts _ (List.mem_cons_of_mem _ tw_44)
  have hw34 := hts _ (List.mem_cons_of_mem _ tw_34)
  have hw49 := hts _ (List.mem_cons_of_mem _ tw_49)
  refine dw_Q (fun Q hQ => ?_)
  suffices hgo : ∀ (H : Heap) (locs : List Loc), dw_G (dC, dI) vwCl [(cI, .int), (cZ, .boolean)] A s.heap s [(b0, .inr (0, [.ref u0, .ref f0, .ref e0, .ref g0, .ref aRp, .ref aNr, .ref aI, .ref c0, .ref h0, .int (an)])), (u0, .inr (1, [.ref aK, .ref aX, .ref aY, .ref aN, .ref aV, .ref aM, .int (nI (n)), .int (nI (R))])), (aK, .inl (cI, 24, .inl (Kf))), (aY, .inl (cI, 24, .inl (Yf))), (aN, .inl (cI, 24, .inl (Nf)))] H locs → W p l e (headSpec wsB_hasBitsOfX { frames := 2, cells := 0, slots := 0, locals := 60 }).room s m [.ref b0, .int (nI (v)), .int (d)].toArray below meth c H locs 0 0 Q (F0 m 0 ls []) from hgo _ _ hG
  clear hG
  intro H locs hG
  refine lv_aload_n hx hb dB_hasBitsOfX_0 rfl (lv_at hl 0 rfl) ?_
  refine dw_get hx hb hts inBc hown hG 0 0 rfl rfl (by decide) hw138 rfl rfl dB_hasBitsOfX_1 ?_
  refine dw_get hx hb hts inUc hown hG 1 2 rfl rfl (by decide) hw44 rfl rfl dB_hasBitsOfX_4 ?_
  refine lv_iload_n hx hb dB_hasBitsOfX_7 rfl (lv_at hl 1 rfl) ?_
  refine dw_ia (x := nI (y)) hx hb hG 3 0 rfl rfl (v) rfl (by omega) (by decide) ey dB_hasBitsOfX_8 ?_
  refine lv_istore_n (lv' := [(3, .int (nI (y))), (0, .ref b0), (1, .int (nI (v))), (2, .int (d))]) hx hb dB_hasBitsOfX_9 rfl hl (by decide) rfl (fun ls hl => ?_)
  refine lv_aload_n hx hb dB_hasBitsOfX_10 rfl (lv_at hl 1 rfl) ?_
  refine dw_get hx hb hts inBc hown hG 0 0 rfl rfl (by decide) hw138 rfl rfl dB_hasBitsOfX_11 ?_
  refine dw_get hx hb hts inUc hown hG 1 0 rfl rfl (by decide) hw34 rfl rfl dB_hasBitsOfX_14 ?_
  refine lv_iload_n hx hb dB_hasBitsOfX_17 rfl (lv_at hl 0 rfl) ?_
  refine dw_ia (x := nI (ky)) hx hb hG 2 0 rfl rfl (y) rfl (by omega) (by decide) eky dB_hasBitsOfX_18 ?_
  refine lv_bipush (v := 10) hx hb dB_hasBitsOfX_19 (by decide) ?_
  refine lv_icmp_ne (tgt := 28) hx hb dB_hasBitsOfX_21 (by decide) (fun h21 => ?_) (fun h21 => ?_)
  · skip
    replace h21 : ¬ ky = 10 := fun hq0 => h21 ((nI_eq (a := ky) (b := 10) (by omega) (by omega)).mpr hq0)
    refine lv_iconst (v := 0) hx hb dB_hasBitsOfX_28 (by decide) ?_
    refine lv_istore (lv' := [(4, .int (0)), (3, .int (nI (y))), (0, .ref b0), (1, .int (nI (v))), (2, .int (d))]) hx hb dB_hasBitsOfX_29 hl (by decide) rfl (fun ls hl => ?_)
    refine lv_aload_n hx hb dB_hasBitsOfX_31 rfl (lv_at hl 2 rfl) ?_
    refine dw_get hx hb hts inBc hown hG 0 0 rfl rfl (by decide) hw138 rfl rfl dB_hasBitsOfX_32 ?_
    refine dw_get hx hb hts inUc hown hG 1 3 rfl rfl (by decide) hw49 rfl rfl dB_hasBitsOfX_35 ?_
    refine lv_iload_n hx hb dB_hasBitsOfX_38 rfl (lv_at hl 1 rfl) ?_
    refine dw_ia (x := (Nf) (y)) hx hb hG 4 0 rfl rfl (y) rfl (by omega) (by decide) rfl dB_hasBitsOfX_39 ?_
    refine lv_istore (lv' := [(5, .int ((Nf) (y))), (4, .int (0)), (3, .int (nI (y))), (0, .ref b0), (1, .int (nI (v))), (2, .int (d))]) hx hb dB_hasBitsOfX_40 hl (by decide) rfl (fun ls hl => ?_)
    refine lv_aload_n hx hb dB_hasBitsOfX_42 rfl (lv_at hl 3 rfl) ?_
    refine dw_get hx hb hts inBc hown hG 0 0 rfl rfl (by decide) hw138 rfl rfl dB_hasBitsOfX_43 ?_
    refine dw_get hx hb hts inUc hown hG 1 0 rfl rfl (by decide) hw34 rfl rfl dB_hasBitsOfX_46 ?_
    refine lv_iload_n hx hb dB_hasBitsOfX_49 rfl (lv_at hl 4 rfl) ?_
    refine dw_ia (x := 13) hx hb hG 2 0 rfl rfl (v) rfl (by omega) (by decide) ek dB_hasBitsOfX_50 ?_
    refine lv_tableOut (tgt := 202) hx hb dB_hasBitsOfX_51 (by decide) (by decide) ?_
    refine lv_iconst (v := 0) hx hb dB_hasBitsOfX_202 (by decide) ?_
    subst hQ
    exact dw_zret hx hb hr rfl hG (()) rfl ((if_neg (by show ¬ false = true; decide)).symm) dB_hasBitsOfX_203 hlocks
  replace h21 := (nI_eq (a := ky) (b := 10) (by omega) (by omega)).mp h21
  refine lv_iconst (v := 1) hx hb dB_hasBitsOfX_24 (by decide) ?_
  refine lv_goto (tgt := 29) hx hb dB_hasBitsOfX_25 (by decide) ?_
  refine lv_istore (lv' := [(4, .int (1)), (3, .int (nI (y))), (0, .ref b0), (1, .int (nI (v))), (2, .int (d))]) hx hb dB_hasBitsOfX_29 hl (by decide) rfl (fun ls hl => ?_)
  refine lv_aload_n hx hb dB_hasBitsOfX_31 rfl (lv_at hl 2 rfl) ?_
  refine dw_get hx hb hts inBc hown hG 0 0 rfl rfl (by decide) hw138 rfl rfl dB_hasBitsOfX_32 ?_
  refine dw_get hx hb hts inUc hown hG 1 3 rfl rfl (by decide) hw49 rfl rfl dB_hasBitsOfX_35 ?_
  refine lv_iload_n hx hb dB_hasBitsOfX_38 rfl (lv_at hl 1 rfl) ?_
  refine dw_ia (x := (Nf) (y)) hx hb hG 4 0 rfl rfl (y) rfl (by omega) (by decide) rfl dB_hasBitsOfX_39 ?_
  refine lv_istore (lv' := [(5, .int ((Nf) (y))), (4, .int (1)), (3, .int (nI (y))), (0, .ref b0), (1, .int (nI (v))), (2, .int (d))]) hx hb dB_hasBitsOfX_40 hl (by decide) rfl (fun ls hl => ?_)
  refine lv_aload_n hx hb dB_hasBitsOfX_42 rfl (lv_at hl 3 rfl) ?_
  refine dw_get hx hb hts inBc hown hG 0 0 rfl rfl (by decide) hw138 rfl rfl dB_hasBitsOfX_43 ?_
  refine dw_get hx hb hts inUc hown hG 1 0 rfl rfl (by decide) hw34 rfl rfl dB_hasBitsOfX_46 ?_
  refine lv_iload_n hx hb dB_hasBitsOfX_49 rfl (lv_at hl 4 rfl) ?_
  refine dw_ia (x := 13) hx hb hG 2 0 rfl rfl (v) rfl (by omega) (by decide) ek dB_hasBitsOfX_50 ?_
  refine lv_tableOut (tgt := 202) hx hb dB_hasBitsOfX_51 (by decide) (by decide) ?_
  refine lv_iconst (v := 0) hx hb dB_hasBitsOfX_202 (by decide) ?_
  subst hQ
  exact dw_zret hx hb hr rfl hG (()) rfl ((if_neg (by show ¬ false = true; decide)).symm) dB_hasBitsOfX_203 hlocks

set_option maxRecDepth 100000 in
theorem cb_has (l : Launch) (dC : Nat → ClassId) (dI : Nat → Nat → Nat) (cI cZ : ClassId) (b0 u0 aK aX aY aN aV aM f0 e0 g0 aRp aNr aI c0 h0 n R : Nat) (an : Int32) (Kf Yf Nf : Nat → Int32) (v y ky : Nat) (d : Int32) (kd : Nat) (sz : Nat) (hv : v < 24) (hy9 : y < 24) (ey : Yf v = nI y) (hky : ky ≤ 13) (eky : Kf y = nI ky) (hkd : kd ≤ 13) (ek : Kf v = nI kd) : Met l yB_hasBitsOfX wsB_hasBitsOfX { frames := 2, cells := 0, slots := 0, locals := 60 } (va_Pc [.ref b0, .int (nI (v)), .int (d)] (dw_pre (dC, dI) vwCl [(b0, .inr (0, [.ref u0, .ref f0, .ref e0, .ref g0, .ref aRp, .ref aNr, .ref aI, .ref c0, .ref h0, .int (an)])), (u0, .inr (1, [.ref aK, .ref aX, .ref aY, .ref aN, .ref aV, .ref aM, .int (nI (n)), .int (nI (R))])), (aK, .inl (cI, 24, .inl (Kf))), (aY, .inl (cI, 24, .inl (Yf))), (aN, .inl (cI, 24, .inl (Nf)))] [(cI, .int), (cZ, .boolean)] sz)) (va_Qi (fun (r : Int32) (u : Unit) => r = if db_has kd (decide (ky = 10)) (Nf y) d = true then 1 else 0) (fun u t => dw_post (dC, dI) vwCl [(b0, .inr (0, [.ref u0, .ref f0, .ref e0, .ref g0, .ref aRp, .ref aNr, .ref aI, .ref c0, .ref h0, .int (an)])), (u0, .inr (1, [.ref aK, .ref aX, .ref aY, .ref aN, .ref aV, .ref aM, .int (nI (n)), .int (nI (R))])), (aK, .inl (cI, 24, .inl (Kf))), (aY, .inl (cI, 24, .inl (Yf))), (aN, .inl (cI, 24, .inl (Nf)))] [(cI, .int), (cZ, .boolean)] (va_A [(b0, .inr (0, [.ref u0, .ref f0, .ref e0, .ref g0, .ref aRp, .ref aNr, .ref aI, .ref c0, .ref h0, .int (an)])), (u0, .inr (1, [.ref aK, .ref aX, .ref aY, .ref aN, .ref aV, .ref aM, .int (nI (n)), .int (nI (R))])), (aK, .inl (cI, 24, .inl (Kf))), (aY, .inl (cI, 24, .inl (Yf))), (aN, .inl (cI, 24, .inl (Nf)))] sz) t) (va_A [(b0, .inr (0, [.ref u0, .ref f0, .ref e0, .ref g0, .ref aRp, .ref aNr, .ref aI, .ref c0, .ref h0, .int (an)])), (u0, .inr (1, [.ref aK, .ref aX, .ref aY, .ref aN, .ref aV, .ref aM, .int (nI (n)), .int (nI (R))])), (aK, .inl (cI, 24, .inl (Kf))), (aY, .inl (cI, 24, .inl (Yf))), (aN, .inl (cI, 24, .inl (Nf)))] sz)) 0 0 (va_A [(b0, .inr (0, [.ref u0, .ref f0, .ref e0, .ref g0, .ref aRp, .ref aNr, .ref aI, .ref c0, .ref h0, .int (an)])), (u0, .inr (1, [.ref aK, .ref aX, .ref aY, .ref aN, .ref aV, .ref aM, .int (nI (n)), .int (nI (R))])), (aK, .inl (cI, 24, .inl (Kf))), (aY, .inl (cI, 24, .inl (Yf))), (aN, .inl (cI, 24, .inl (Nf)))] sz) := by
  rcases (by omega : kd = 0 ∨ kd = 1 ∨ kd = 2 ∨ kd = 3 ∨ kd = 4 ∨ kd = 5 ∨ kd = 6 ∨ kd = 7 ∨ kd = 8 ∨ kd = 9 ∨ kd = 10 ∨ kd = 11 ∨ kd = 12 ∨ kd = 13) with e | e | e | e | e | e | e | e | e | e | e | e | e | e
  · subst e
    exact cb_has0 l dC dI cI cZ b0 u0 aK aX aY aN aV aM f0 e0 g0 aRp aNr aI c0 h0 n R an Kf Yf Nf v y ky d sz hv hy9 ey hky eky ek
  · subst e
    exact cb_has1 l dC dI cI cZ b0 u0 aK aX aY aN aV aM f0 e0 g0 aRp aNr aI c0 h0 n R an Kf Yf Nf v y ky d sz hv hy9 ey hky eky ek
  · subst e
    exact cb_has2 l dC dI cI cZ b0 u0 aK aX aY aN aV aM f0 e0 g0 aRp aNr aI c0 h0 n R an Kf Yf Nf v y ky d sz hv hy9 ey hky eky ek
  · subst e
    exact cb_has3 l dC dI cI cZ b0 u0 aK aX aY aN aV aM f0 e0 g0 aRp aNr aI c0 h0 n R an Kf Yf Nf v y ky d sz hv hy9 ey hky eky ek
  · subst e
    exact cb_has4 l dC dI cI cZ b0 u0 aK aX aY aN aV aM f0 e0 g0 aRp aNr aI c0 h0 n R an Kf Yf Nf v y ky d sz hv hy9 ey hky eky ek
  · subst e
    exact cb_has5 l dC dI cI cZ b0 u0 aK aX aY aN aV aM f0 e0 g0 aRp aNr aI c0 h0 n R an Kf Yf Nf v y ky d sz hv hy9 ey hky eky ek
  · subst e
    exact cb_has6 l dC dI cI cZ b0 u0 aK aX aY aN aV aM f0 e0 g0 aRp aNr aI c0 h0 n R an Kf Yf Nf v y ky d sz hv hy9 ey hky eky ek
  · subst e
    exact cb_has7 l dC dI cI cZ b0 u0 aK aX aY aN aV aM f0 e0 g0 aRp aNr aI c0 h0 n R an Kf Yf Nf v y ky d sz hv hy9 ey hky eky ek
  · subst e
    exact cb_has8 l dC dI cI cZ b0 u0 aK aX aY aN aV aM f0 e0 g0 aRp aNr aI c0 h0 n R an Kf Yf Nf v y ky d sz hv hy9 ey hky eky ek
  · subst e
    exact cb_has9 l dC dI cI cZ b0 u0 aK aX aY aN aV aM f0 e0 g0 aRp aNr aI c0 h0 n R an Kf Yf Nf v y ky d sz hv hy9 ey hky eky ek
  · subst e
    exact cb_has10 l dC dI cI cZ b0 u0 aK aX aY aN aV aM f0 e0 g0 aRp aNr aI c0 h0 n R an Kf Yf Nf v y ky d sz hv hy9 ey hky eky ek
  · subst e
    exact cb_has11 l dC dI cI cZ b0 u0 aK aX aY aN aV aM f0 e0 g0 aRp aNr aI c0 h0 n R an Kf Yf Nf v y ky d sz hv hy9 ey hky eky ek
  · subst e
    exact cb_has12 l dC dI cI cZ b0 u0 aK aX aY aN aV aM f0 e0 g0 aRp aNr aI c0 h0 n R an Kf Yf Nf v y ky d sz hv hy9 ey hky eky ek
  · subst e
    exact cb_has13 l dC dI cI cZ b0 u0 aK aX aY aN aV aM f0 e0 g0 aRp aNr aI c0 h0 n R an Kf Yf Nf v y ky d sz hv hy9 ey hky eky ek

