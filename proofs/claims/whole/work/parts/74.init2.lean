set_option maxRecDepth 100000 in
set_option maxHeartbeats 4000000 in
theorem cu_init (l : Launch) (dC : Nat → ClassId) (dI : Nat → Nat → Nat) (cI cZ : ClassId) (u0 : Nat) (sz : Nat)  : Met l yU_init wsU_init { frames := 1, cells := 6, slots := 104, locals := 12 } (va_Pc [.ref u0] (dw_pre (dC, dI) vwCl [(u0, .inr (1, [.null, .null, .null, .null, .null, .null, .int (0), .int (0)]))] [(cI, .int), (cZ, .boolean)] sz)) (va_Qv (fun (u : Nat → Nat) => True) (fun u t => dw_post (dC, dI) vwCl [(u0, .inr (1, [.ref (u 0), .ref (u 1), .ref (u 2), .ref (u 3), .ref (u 4), .ref (u 5), .int (0), .int (0)])), (u 0, .inl (cI, 24, .inl (fun _ => 0))), (u 1, .inl (cI, 24, .inl (fun _ => 0))), (u 2, .inl (cI, 24, .inl (fun _ => 0))), (u 3, .inl (cI, 24, .inl (fun _ => 0))), (u 4, .inl (cI, 4, .inl (fun _ => 0))), (u 5, .inl (cI, 4, .inl (fun _ => 0)))] [(cI, .int), (cZ, .boolean)] (va_A [(u0, .inr (1, [.null, .null, .null, .null, .null, .null, .int (0), .int (0)]))] sz) t) (va_A [(u0, .inr (1, [.null, .null, .null, .null, .null, .null, .int (0), .int (0)]))] sz)) 6 104 (va_A [(u0, .inr (1, [.null, .null, .null, .null, .null, .null, .int (0), .int (0)]))] sz) := by
  refine Met.ofW (cc := cU_init) (maxL := 1) (ret := none) (by decide) rfl ?_
  intro p e s m args below meth c s₁ B hml hv0
  have hx := B.exec
  have hb := B.bytes
  have hr := B.returns
  have hts := atoms_spec (ws := wsU_init) B.pre
  have hown : s.vm.findClass RU = some m.cls := findClass_of_methodNamed B.named
  have hlocks := B.notSynchronized
  obtain ⟨rfl, hsz, hG⟩ := dw_enter hv0
  generalize va_A [(u0, .inr (1, [.null, .null, .null, .null, .null, .null, .int (0), .int (0)]))] sz = A at hG ⊢
  have hl := lv_entry ([.ref u0]) (n := 1) (Nat.le_of_ble_eq_true rfl)
  rw [lg_entry_eq]
  generalize (lg_sl ([.ref u0]) ++ List.replicate (1 - (lg_sl ([.ref u0])).length) Slot.unset).toArray = ls at hl ⊢
  have hl : lv_has ls 1 [(0, .ref u0)] := hl
  have hw29 := hts _ (List.mem_cons_of_mem _ tw_29)
  have hw22 := hts _ (List.mem_cons_of_mem _ tw_22)
  have hw23 := hts _ (List.mem_cons_of_mem _ tw_23)
  have hw82 := hts _ (List.mem_cons_of_mem _ tw_82)
  have hw30 := hts _ (List.mem_cons_of_mem _ tw_30)
  have hw35 := hts _ (List.mem_cons_of_mem _ tw_35)
  have hw40 := hts _ (List.mem_cons_of_mem _ tw_40)
  have hw45 := hts _ (List.mem_cons_of_mem _ tw_45)
  have hw50 := hts _ (List.mem_cons_of_mem _ tw_50)
  have hw53 := hts _ (List.mem_cons_of_mem _ tw_53)
  have hin : meth.name = "<init>" := (name_of_methodNamed B.named B.method).1
  refine dw_Q (fun Q hQ => ?_)
  suffices hgo : ∀ (H : Heap) (locs : List Loc), dw_G (dC, dI) vwCl [(cI, .int), (cZ, .boolean)] A s.heap s [(u0, .inr (1, [.null, .null, .null, .null, .null, .null, .int (0), .int (0)]))] H locs → W p l e (headSpec wsU_init { frames := 1, cells := 6, slots := 104, locals := 12 }).room s m [.ref u0].toArray below meth c H locs 0 0 Q (F0 m 0 ls []) from hgo _ _ hG
  clear hG
  intro H locs hG
  refine lv_aload_n hx hb dU_init_0 rfl (lv_at hl 0 rfl) ?_
  refine W.objInit hx hb hown hw29 hw22 hw23 rfl (by rw [hml]; exact hl.1) rfl dU_init_1 (Nat.le_of_ble_eq_true rfl) (Nat.le_of_ble_eq_true rfl) ?_
  refine W.eq (g2 := F0 m 4 ls []) rfl ?_
  refine lv_aload_n hx hb dU_init_4 rfl (lv_at hl 0 rfl) ?_
  refine lv_bipush (v := 24) hx hb dU_init_5 (by decide) ?_
  refine dw_newI (N := 24) hx hb hw82 hG 0 rfl (by decide) (by decide) (by decide) (Nat.le_of_ble_eq_true rfl) (Nat.le_of_ble_eq_true rfl) dU_init_7 (fun q7 H hG => ?_)
  have hG : dw_G (dC, dI) vwCl [(cI, .int), (cZ, .boolean)] A s.heap s [(u0, .inr (1, [.null, .null, .null, .null, .null, .null, .int (0), .int (0)])), (q7, .inl (cI, 24, .inl (fun _ => 0)))] H locs := hG
  refine dw_putF (ws' := [(u0, .inr (1, [.ref q7, .null, .null, .null, .null, .null, .int (0), .int (0)])), (q7, .inl (cI, 24, .inl (fun _ => 0)))]) hx hb hts inUc tyU tyU_ok nmU hown hG 0 0 rfl rfl (by decide) hw30 rfl hin rfl (ty := .array .int) (by decide +kernel) rfl rfl (Nat.le_of_ble_eq_true rfl) dU_init_9 rfl (fun H locs hG => ?_)
  refine lv_aload_n hx hb dU_init_12 rfl (lv_at hl 0 rfl) ?_
  refine lv_bipush (v := 24) hx hb dU_init_13 (by decide) ?_
  refine dw_newI (N := 24) hx hb hw82 hG 0 rfl (by decide) (by decide) (by decide) (Nat.le_of_ble_eq_true rfl) (Nat.le_of_ble_eq_true rfl) dU_init_15 (fun q15 H hG => ?_)
  have hG : dw_G (dC, dI) vwCl [(cI, .int), (cZ, .boolean)] A s.heap s [(u0, .inr (1, [.ref q7, .null, .null, .null, .null, .null, .int (0), .int (0)])), (q7, .inl (cI, 24, .inl (fun _ => 0))), (q15, .inl (cI, 24, .inl (fun _ => 0)))] H locs := hG
  refine dw_putF (ws' := [(u0, .inr (1, [.ref q7, .ref q15, .null, .null, .null, .null, .int (0), .int (0)])), (q7, .inl (cI, 24, .inl (fun _ => 0))), (q15, .inl (cI, 24, .inl (fun _ => 0)))]) hx hb hts inUc tyU tyU_ok nmU hown hG 0 1 rfl rfl (by decide) hw35 rfl hin rfl (ty := .array .int) (by decide +kernel) rfl rfl (Nat.le_of_ble_eq_true rfl) dU_init_17 rfl (fun H locs hG => ?_)
  refine lv_aload_n hx hb dU_init_20 rfl (lv_at hl 0 rfl) ?_
  refine lv_bipush (v := 24) hx hb dU_init_21 (by decide) ?_
  refine dw_newI (N := 24) hx hb hw82 hG 0 rfl (by decide) (by decide) (by decide) (Nat.le_of_ble_eq_true rfl) (Nat.le_of_ble_eq_true rfl) dU_init_23 (fun q23 H hG => ?_)
  have hG : dw_G (dC, dI) vwCl [(cI, .int), (cZ, .boolean)] A s.heap s [(u0, .inr (1, [.ref q7, .ref q15, .null, .null, .null, .null, .int (0), .int (0)])), (q7, .inl (cI, 24, .inl (fun _ => 0))), (q15, .inl (cI, 24, .inl (fun _ => 0))), (q23, .inl (cI, 24, .inl (fun _ => 0)))] H locs := hG
  refine dw_putF (ws' := [(u0, .inr (1, [.ref q7, .ref q15, .ref q23, .null, .null, .null, .int (0), .int (0)])), (q7, .inl (cI, 24, .inl (fun _ => 0))), (q15, .inl (cI, 24, .inl (fun _ => 0))), (q23, .inl (cI, 24, .inl (fun _ => 0)))]) hx hb hts inUc tyU tyU_ok nmU hown hG 0 2 rfl rfl (by decide) hw40 rfl hin rfl (ty := .array .int) (by decide +kernel) rfl rfl (Nat.le_of_ble_eq_true rfl) dU_init_25 rfl (fun H locs hG => ?_)
  refine lv_aload_n hx hb dU_init_28 rfl (lv_at hl 0 rfl) ?_
  refine lv_bipush (v := 24) hx hb dU_init_29 (by decide) ?_
  refine dw_newI (N := 24) hx hb hw82 hG 0 rfl (by decide) (by decide) (by decide) (Nat.le_of_ble_eq_true rfl) (Nat.le_of_ble_eq_true rfl) dU_init_31 (fun q31 H hG => ?_)
  have hG : dw_G (dC, dI) vwCl [(cI, .int), (cZ, .boolean)] A s.heap s [(u0, .inr (1, [.ref q7, .ref q15, .ref q23, .null, .null, .null, .int (0), .int (0)])), (q7, .inl (cI, 24, .inl (fun _ => 0))), (q15, .inl (cI, 24, .inl (fun _ => 0))), (q23, .inl (cI, 24, .inl (fun _ => 0))), (q31, .inl (cI, 24, .inl (fun _ => 0)))] H locs := hG
  refine dw_putF (ws' := [(u0, .inr (1, [.ref q7, .ref q15, .ref q23, .ref q31, .null, .null, .int (0), .int (0)])), (q7, .inl (cI, 24, .inl (fun _ => 0))), (q15, .inl (cI, 24, .inl (fun _ => 0))), (q23, .inl (cI, 24, .inl (fun _ => 0))), (q31, .inl (cI, 24, .inl (fun _ => 0)))]) hx hb hts inUc tyU tyU_ok nmU hown hG 0 3 rfl rfl (by decide) hw45 rfl hin rfl (ty := .array .int) (by decide +kernel) rfl rfl (Nat.le_of_ble_eq_true rfl) dU_init_33 rfl (fun H locs hG => ?_)
  refine lv_aload_n hx hb dU_init_36 rfl (lv_at hl 0 rfl) ?_
  refine lv_iconst (v := 4) hx hb dU_init_37 (by decide) ?_
  refine dw_newI (N := 4) hx hb hw82 hG 0 rfl (by decide) (by decide) (by decide) (Nat.le_of_ble_eq_true rfl) (Nat.le_of_ble_eq_true rfl) dU_init_38 (fun q38 H hG => ?_)
  have hG : dw_G (dC, dI) vwCl [(cI, .int), (cZ, .boolean)] A s.heap s [(u0, .inr (1, [.ref q7, .ref q15, .ref q23, .ref q31, .null, .null, .int (0), .int (0)])), (q7, .inl (cI, 24, .inl (fun _ => 0))), (q15, .inl (cI, 24, .inl (fun _ => 0))), (q23, .inl (cI, 24, .inl (fun _ => 0))), (q31, .inl (cI, 24, .inl (fun _ => 0))), (q38, .inl (cI, 4, .inl (fun _ => 0)))] H locs := hG
  refine dw_putF (ws' := [(u0, .inr (1, [.ref q7, .ref q15, .ref q23, .ref q31, .ref q38, .null, .int (0), .int (0)])), (q7, .inl (cI, 24, .inl (fun _ => 0))), (q15, .inl (cI, 24, .inl (fun _ => 0))), (q23, .inl (cI, 24, .inl (fun _ => 0))), (q31, .inl (cI, 24, .inl (fun _ => 0))), (q38, .inl (cI, 4, .inl (fun _ => 0)))]) hx hb hts inUc tyU tyU_ok nmU hown hG 0 4 rfl rfl (by decide) hw50 rfl hin rfl (ty := .array .int) (by decide +kernel) rfl rfl (Nat.le_of_ble_eq_true rfl) dU_init_40 rfl (fun H locs hG => ?_)
  refine lv_aload_n hx hb dU_init_43 rfl (lv_at hl 0 rfl) ?_
  refine lv_iconst (v := 4) hx hb dU_init_44 (by decide) ?_
  refine dw_newI (N := 4) hx hb hw82 hG 0 rfl (by decide) (by decide) (by decide) (Nat.le_of_ble_eq_true rfl) (Nat.le_of_ble_eq_true rfl) dU_init_45 (fun q45 H hG => ?_)
  have hG : dw_G (dC, dI) vwCl [(cI, .int), (cZ, .boolean)] A s.heap s [(u0, .inr (1, [.ref q7, .ref q15, .ref q23, .ref q31, .ref q38, .null, .int (0), .int (0)])), (q7, .inl (cI, 24, .inl (fun _ => 0))), (q15, .inl (cI, 24, .inl (fun _ => 0))), (q23, .inl (cI, 24, .inl (fun _ => 0))), (q31, .inl (cI, 24, .inl (fun _ => 0))), (q38, .inl (cI, 4, .inl (fun _ => 0))), (q45, .inl (cI, 4, .inl (fun _ => 0)))] H locs := hG
  refine dw_putF (ws' := [(u0, .inr (1, [.ref q7, .ref q15, .ref q23, .ref q31, .ref q38, .ref q45, .int (0), .int (0)])), (q7, .inl (cI, 24, .inl (fun _ => 0))), (q15, .inl (cI, 24, .inl (fun _ => 0))), (q23, .inl (cI, 24, .inl (fun _ => 0))), (q31, .inl (cI, 24, .inl (fun _ => 0))), (q38, .inl (cI, 4, .inl (fun _ => 0))), (q45, .inl (cI, 4, .inl (fun _ => 0)))]) hx hb hts inUc tyU tyU_ok nmU hown hG 0 5 rfl rfl (by decide) hw53 rfl hin rfl (ty := .array .int) (by decide +kernel) rfl rfl (Nat.le_of_ble_eq_true rfl) dU_init_47 rfl (fun H locs hG => ?_)
  subst hQ
  exact dw_vret hx hb hr hG (fun i => [q7, q15, q23, q31, q38, q45].getD i 0) rfl trivial dU_init_50 hlocks

set_option maxRecDepth 100000 in
set_option maxHeartbeats 4000000 in
theorem cf_init (l : Launch) (dC : Nat → ClassId) (dI : Nat → Nat → Nat) (cI cZ : ClassId) (f0 : Nat) (sz : Nat)  : Met l yF_init wsF_init { frames := 1, cells := 2, slots := 48, locals := 12 } (va_Pc [.ref f0] (dw_pre (dC, dI) vwCl [(f0, .inr (2, [.null, .null, .int (0)]))] [(cI, .int), (cZ, .boolean)] sz)) (va_Qv (fun (u : Nat → Nat) => True) (fun u t => dw_post (dC, dI) vwCl [(f0, .inr (2, [.ref (u 0), .ref (u 1), .int (0)])), (u 0, .inl (cI, 24, .inl (fun _ => 0))), (u 1, .inl (cI, 24, .inl (fun _ => 0)))] [(cI, .int), (cZ, .boolean)] (va_A [(f0, .inr (2, [.null, .null, .int (0)]))] sz) t) (va_A [(f0, .inr (2, [.null, .null, .int (0)]))] sz)) 2 48 (va_A [(f0, .inr (2, [.null, .null, .int (0)]))] sz) := by
  refine Met.ofW (cc := cF_init) (maxL := 1) (ret := none) (by decide) rfl ?_
  intro p e s m args below meth c s₁ B hml hv0
  have hx := B.exec
  have hb := B.bytes
  have hr := B.returns
  have hts := atoms_spec (ws := wsF_init) B.pre
  have hown : s.vm.findClass RF = some m.cls := findClass_of_methodNamed B.named
  have hlocks := B.notSynchronized
  obtain ⟨rfl, hsz, hG⟩ := dw_enter hv0
  generalize va_A [(f0, .inr (2, [.null, .null, .int (0)]))] sz = A at hG ⊢
  have hl := lv_entry ([.ref f0]) (n := 1) (Nat.le_of_ble_eq_true rfl)
  rw [lg_entry_eq]
  generalize (lg_sl ([.ref f0]) ++ List.replicate (1 - (lg_sl ([.ref f0])).length) Slot.unset).toArray = ls at hl ⊢
  have hl : lv_has ls 1 [(0, .ref f0)] := hl
  have hw88 := hts _ (List.mem_cons_of_mem _ tw_88)
  have hw22 := hts _ (List.mem_cons_of_mem _ tw_22)
  have hw23 := hts _ (List.mem_cons_of_mem _ tw_23)
  have hw82 := hts _ (List.mem_cons_of_mem _ tw_82)
  have hw89 := hts _ (List.mem_cons_of_mem _ tw_89)
  have hw92 := hts _ (List.mem_cons_of_mem _ tw_92)
  have hin : meth.name = "<init>" := (name_of_methodNamed B.named B.method).1
  refine dw_Q (fun Q hQ => ?_)
  suffices hgo : ∀ (H : Heap) (locs : List Loc), dw_G (dC, dI) vwCl [(cI, .int), (cZ, .boolean)] A s.heap s [(f0, .inr (2, [.null, .null, .int (0)]))] H locs → W p l e (headSpec wsF_init { frames := 1, cells := 2, slots := 48, locals := 12 }).room s m [.ref f0].toArray below meth c H locs 0 0 Q (F0 m 0 ls []) from hgo _ _ hG
  clear hG
  intro H locs hG
  refine lv_aload_n hx hb dF_init_0 rfl (lv_at hl 0 rfl) ?_
  refine W.objInit hx hb hown hw88 hw22 hw23 rfl (by rw [hml]; exact hl.1) rfl dF_init_1 (Nat.le_of_ble_eq_true rfl) (Nat.le_of_ble_eq_true rfl) ?_
  refine W.eq (g2 := F0 m 4 ls []) rfl ?_
  refine lv_aload_n hx hb dF_init_4 rfl (lv_at hl 0 rfl) ?_
  refine lv_bipush (v := 24) hx hb dF_init_5 (by decide) ?_
  refine dw_newI (N := 24) hx hb hw82 hG 0 rfl (by decide) (by decide) (by decide) (Nat.le_of_ble_eq_true rfl) (Nat.le_of_ble_eq_true rfl) dF_init_7 (fun q7 H hG => ?_)
  have hG : dw_G (dC, dI) vwCl [(cI, .int), (cZ, .boolean)] A s.heap s [(f0, .inr (2, [.null, .null, .int (0)])), (q7, .inl (cI, 24, .inl (fun _ => 0)))] H locs := hG
  refine dw_putF (ws' := [(f0, .inr (2, [.ref q7, .null, .int (0)])), (q7, .inl (cI, 24, .inl (fun _ => 0)))]) hx hb hts inFc tyF tyF_ok nmF hown hG 0 0 rfl rfl (by decide) hw89 rfl hin rfl (ty := .array .int) (by decide +kernel) rfl rfl (Nat.le_of_ble_eq_true rfl) dF_init_9 rfl (fun H locs hG => ?_)
  refine lv_aload_n hx hb dF_init_12 rfl (lv_at hl 0 rfl) ?_
  refine lv_bipush (v := 24) hx hb dF_init_13 (by decide) ?_
  refine dw_newI (N := 24) hx hb hw82 hG 0 rfl (by decide) (by decide) (by decide) (Nat.le_of_ble_eq_true rfl) (Nat.le_of_ble_eq_true rfl) dF_init_15 (fun q15 H hG => ?_)
  have hG : dw_G (dC, dI) vwCl [(cI, .int), (cZ, .boolean)] A s.heap s [(f0, .inr (2, [.ref q7, .null, .int (0)])), (q7, .inl (cI, 24, .inl (fun _ => 0))), (q15, .inl (cI, 24, .inl (fun _ => 0)))] H locs := hG
  refine dw_putF (ws' := [(f0, .inr (2, [.ref q7, .ref q15, .int (0)])), (q7, .inl (cI, 24, .inl (fun _ => 0))), (q15, .inl (cI, 24, .inl (fun _ => 0)))]) hx hb hts inFc tyF tyF_ok nmF hown hG 0 1 rfl rfl (by decide) hw92 rfl hin rfl (ty := .array .int) (by decide +kernel) rfl rfl (Nat.le_of_ble_eq_true rfl) dF_init_17 rfl (fun H locs hG => ?_)
  subst hQ
  exact dw_vret hx hb hr hG (fun i => [q7, q15].getD i 0) rfl trivial dF_init_20 hlocks

set_option maxRecDepth 100000 in
set_option maxHeartbeats 4000000 in
theorem ce_init (l : Launch) (dC : Nat → ClassId) (dI : Nat → Nat → Nat) (cI cZ : ClassId) (e0 : Nat) (sz : Nat)  : Met l yE_init wsE_init { frames := 1, cells := 1, slots := 24, locals := 12 } (va_Pc [.ref e0] (dw_pre (dC, dI) vwCl [(e0, .inr (3, [.null, .int (0)]))] [(cI, .int), (cZ, .boolean)] sz)) (va_Qv (fun (u : Nat → Nat) => True) (fun u t => dw_post (dC, dI) vwCl [(e0, .inr (3, [.ref (u 0), .int (0)])), (u 0, .inl (cI, 24, .inl (fun _ => 0)))] [(cI, .int), (cZ, .boolean)] (va_A [(e0, .inr (3, [.null, .int (0)]))] sz) t) (va_A [(e0, .inr (3, [.null, .int (0)]))] sz)) 1 24 (va_A [(e0, .inr (3, [.null, .int (0)]))] sz) := by
  refine Met.ofW (cc := cE_init) (maxL := 1) (ret := none) (by decide) rfl ?_
  intro p e s m args below meth c s₁ B hml hv0
  have hx := B.exec
  have hb := B.bytes
  have hr := B.returns
  have hts := atoms_spec (ws := wsE_init) B.pre
  have hown : s.vm.findClass RE = some m.cls := findClass_of_methodNamed B.named
  have hlocks := B.notSynchronized
  obtain ⟨rfl, hsz, hG⟩ := dw_enter hv0
  generalize va_A [(e0, .inr (3, [.null, .int (0)]))] sz = A at hG ⊢
  have hl := lv_entry ([.ref e0]) (n := 1) (Nat.le_of_ble_eq_true rfl)
  rw [lg_entry_eq]
  generalize (lg_sl ([.ref e0]) ++ List.replicate (1 - (lg_sl ([.ref e0])).length) Slot.unset).toArray = ls at hl ⊢
  have hl : lv_has ls 1 [(0, .ref e0)] := hl
  have hw108 := hts _ (List.mem_cons_of_mem _ tw_108)
  have hw22 := hts _ (List.mem_cons_of_mem _ tw_22)
  have hw23 := hts _ (List.mem_cons_of_mem _ tw_23)
  have hw82 := hts _ (List.mem_cons_of_mem _ tw_82)
  have hw109 := hts _ (List.mem_cons_of_mem _ tw_109)
  have hin : meth.name = "<init>" := (name_of_methodNamed B.named B.method).1
  refine dw_Q (fun Q hQ => ?_)
  suffices hgo : ∀ (H : Heap) (locs : List Loc), dw_G (dC, dI) vwCl [(cI, .int), (cZ, .boolean)] A s.heap s [(e0, .inr (3, [.null, .int (0)]))] H locs → W p l e (headSpec wsE_init { frames := 1, cells := 1, slots := 24, locals := 12 }).room s m [.ref e0].toArray below meth c H locs 0 0 Q (F0 m 0 ls []) from hgo _ _ hG
  clear hG
  intro H locs hG
  refine lv_aload_n hx hb dE_init_0 rfl (lv_at hl 0 rfl) ?_
  refine W.objInit hx hb hown hw108 hw22 hw23 rfl (by rw [hml]; exact hl.1) rfl dE_init_1 (Nat.le_of_ble_eq_true rfl) (Nat.le_of_ble_eq_true rfl) ?_
  refine W.eq (g2 := F0 m 4 ls []) rfl ?_
  refine lv_aload_n hx hb dE_init_4 rfl (lv_at hl 0 rfl) ?_
  refine lv_bipush (v := 24) hx hb dE_init_5 (by decide) ?_
  refine dw_newI (N := 24) hx hb hw82 hG 0 rfl (by decide) (by decide) (by decide) (Nat.le_of_ble_eq_true rfl) (Nat.le_of_ble_eq_true rfl) dE_init_7 (fun q7 H hG => ?_)
  have hG : dw_G (dC, dI) vwCl [(cI, .int), (cZ, .boolean)] A s.heap s [(e0, .inr (3, [.null, .int (0)])), (q7, .inl (cI, 24, .inl (fun _ => 0)))] H locs := hG
  refine dw_putF (ws' := [(e0, .inr (3, [.ref q7, .int (0)])), (q7, .inl (cI, 24, .inl (fun _ => 0)))]) hx hb hts inEc tyE tyE_ok nmE hown hG 0 0 rfl rfl (by decide) hw109 rfl hin rfl (ty := .array .int) (by decide +kernel) rfl rfl (Nat.le_of_ble_eq_true rfl) dE_init_9 rfl (fun H locs hG => ?_)
  subst hQ
  exact dw_vret hx hb hr hG (fun i => [q7].getD i 0) rfl trivial dE_init_12 hlocks

set_option maxRecDepth 100000 in
set_option maxHeartbeats 4000000 in
theorem cc_init (l : Launch) (dC : Nat → ClassId) (dI : Nat → Nat → Nat) (cI cZ : ClassId) (c0 : Nat) (sz : Nat)  : Met l yC_init wsC_init { frames := 1, cells := 3, slots := 52, locals := 12 } (va_Pc [.ref c0] (dw_pre (dC, dI) vwCl [(c0, .inr (4, [.null, .null, .null]))] [(cI, .int), (cZ, .boolean)] sz)) (va_Qv (fun (u : Nat → Nat) => True) (fun u t => dw_post (dC, dI) vwCl [(c0, .inr (4, [.ref (u 0), .ref (u 1), .ref (u 2)])), (u 0, .inl (cI, 24, .inl (fun _ => 0))), (u 1, .inl (cI, 4, .inl (fun _ => 0))), (u 2, .inl (cI, 24, .inl (fun _ => 0)))] [(cI, .int), (cZ, .boolean)] (va_A [(c0, .inr (4, [.null, .null, .null]))] sz) t) (va_A [(c0, .inr (4, [.null, .null, .null]))] sz)) 3 52 (va_A [(c0, .inr (4, [.null, .null, .null]))] sz) := by
  refine Met.ofW (cc := cC_init) (maxL := 1) (ret := none) (by decide) rfl ?_
  intro p e s m args below meth c s₁ B hml hv0
  have hx := B.exec
  have hb := B.bytes
  have hr := B.returns
  have hts := atoms_spec (ws := wsC_init) B.pre
  have hown : s.vm.findClass RC = some m.cls := findClass_of_methodNamed B.named
  have hlocks := B.notSynchronized
  obtain ⟨rfl, hsz, hG⟩ := dw_enter hv0
  generalize va_A [(c0, .inr (4, [.null, .null, .null]))] sz = A at hG ⊢
  have hl := lv_entry ([.ref c0]) (n := 1) (Nat.le_of_ble_eq_true rfl)
  rw [lg_entry_eq]
  generalize (lg_sl ([.ref c0]) ++ List.replicate (1 - (lg_sl ([.ref c0])).length) Slot.unset).toArray = ls at hl ⊢
  have hl : lv_has ls 1 [(0, .ref c0)] := hl
  have hw122 := hts _ (List.mem_cons_of_mem _ tw_122)
  have hw22 := hts _ (List.mem_cons_of_mem _ tw_22)
  have hw23 := hts _ (List.mem_cons_of_mem _ tw_23)
  have hw82 := hts _ (List.mem_cons_of_mem _ tw_82)
  have hw123 := hts _ (List.mem_cons_of_mem _ tw_123)
  have hw125 := hts _ (List.mem_cons_of_mem _ tw_125)
  have hw127 := hts _ (List.mem_cons_of_mem _ tw_127)
  have hin : meth.name = "<init>" := (name_of_methodNamed B.named B.method).1
  refine dw_Q (fun Q hQ => ?_)
  suffices hgo : ∀ (H : Heap) (locs : List Loc), dw_G (dC, dI) vwCl [(cI, .int), (cZ, .boolean)] A s.heap s [(c0, .inr (4, [.null, .null, .null]))] H locs → W p l e (headSpec wsC_init { frames := 1, cells := 3, slots := 52, locals := 12 }).room s m [.ref c0].toArray below meth c H locs 0 0 Q (F0 m 0 ls []) from hgo _ _ hG
  clear hG
  intro H locs hG
  refine lv_aload_n hx hb dC_init_0 rfl (lv_at hl 0 rfl) ?_
  refine W.objInit hx hb hown hw122 hw22 hw23 rfl (by rw [hml]; exact hl.1) rfl dC_init_1 (Nat.le_of_ble_eq_true rfl) (Nat.le_of_ble_eq_true rfl) ?_
  refine W.eq (g2 := F0 m 4 ls []) rfl ?_
  refine lv_aload_n hx hb dC_init_4 rfl (lv_at hl 0 rfl) ?_
  refine lv_bipush (v := 24) hx hb dC_init_5 (by decide) ?_
  refine dw_newI (N := 24) hx hb hw82 hG 0 rfl (by decide) (by decide) (by decide) (Nat.le_of_ble_eq_true rfl) (Nat.le_of_ble_eq_true rfl) dC_init_7 (fun q7 H hG => ?_)
  have hG : dw_G (dC, dI) vwCl [(cI, .int), (cZ, .boolean)] A s.heap s [(c0, .inr (4, [.null, .null, .null])), (q7, .inl (cI, 24, .inl (fun _ => 0)))] H locs := hG
  refine dw_putF (ws' := [(c0, .inr (4, [.ref q7, .null, .null])), (q7, .inl (cI, 24, .inl (fun _ => 0)))]) hx hb hts inCc tyC tyC_ok nmC hown hG 0 0 rfl rfl (by decide) hw123 rfl hin rfl (ty := .array .int) (by decide +kernel) rfl rfl (Nat.le_of_ble_eq_true rfl) dC_init_9 rfl (fun H locs hG => ?_)
  refine lv_aload_n hx hb dC_init_12 rfl (lv_at hl 0 rfl) ?_
  refine lv_iconst (v := 4) hx hb dC_init_13 (by decide) ?_
  refine dw_newI (N := 4) hx hb hw82 hG 0 rfl (by decide) (by decide) (by decide) (Nat.le_of_ble_eq_true rfl) (Nat.le_of_ble_eq_true rfl) dC_init_14 (fun q14 H hG => ?_)
  have hG : dw_G (dC, dI) vwCl [(cI, .int), (cZ, .boolean)] A s.heap s [(c0, .inr (4, [.ref q7, .null, .null])), (q7, .inl (cI, 24, .inl (fun _ => 0))), (q14, .inl (cI, 4, .inl (fun _ => 0)))] H locs := hG
  refine dw_putF (ws' := [(c0, .inr (4, [.ref q7, .ref q14, .null])), (q7, .inl (cI, 24, .inl (fun _ => 0))), (q14, .inl (cI, 4, .inl (fun _ => 0)))]) hx hb hts inCc tyC tyC_ok nmC hown hG 0 1 rfl rfl (by decide) hw125 rfl hin rfl (ty := .array .int) (by decide +kernel) rfl rfl (Nat.le_of_ble_eq_true rfl) dC_init_16 rfl (fun H locs hG => ?_)
  refine lv_aload_n hx hb dC_init_19 rfl (lv_at hl 0 rfl) ?_
  refine lv_bipush (v := 24) hx hb dC_init_20 (by decide) ?_
  refine dw_newI (N := 24) hx hb hw82 hG 0 rfl (by decide) (by decide) (by decide) (Nat.le_of_ble_eq_true rfl) (Nat.le_of_ble_eq_true rfl) dC_init_22 (fun q22 H hG => ?_)
  have hG : dw_G (dC, dI) vwCl [(cI, .int), (cZ, .boolean)] A s.heap s [(c0, .inr (4, [.ref q7, .ref q14, .null])), (q7, .inl (cI, 24, .inl (fun _ => 0))), (q14, .inl (cI, 4, .inl (fun _ => 0))), (q22, .inl (cI, 24, .inl (fun _ => 0)))] H locs := hG
  refine dw_putF (ws' := [(c0, .inr (4, [.ref q7, .ref q14, .ref q22])), (q7, .inl (cI, 24, .inl (fun _ => 0))), (q14, .inl (cI, 4, .inl (fun _ => 0))), (q22, .inl (cI, 24, .inl (fun _ => 0)))]) hx hb hts inCc tyC tyC_ok nmC hown hG 0 2 rfl rfl (by decide) hw127 rfl hin rfl (ty := .array .int) (by decide +kernel) rfl rfl (Nat.le_of_ble_eq_true rfl) dC_init_24 rfl (fun H locs hG => ?_)
  subst hQ
  exact dw_vret hx hb hr hG (fun i => [q7, q14, q22].getD i 0) rfl trivial dC_init_27 hlocks

