set_option maxRecDepth 100000 in
set_option maxHeartbeats 4000000 in
theorem cf_work0 (l : Launch) (dC : Nat → ClassId) (dI : Nat → Nat → Nat) (cI cZ : ClassId) (f0 aZ aO : Nat) (ch : Int32) (Zs On : Nat → Int32) (u0 aK aX aY aN aV aM n R : Nat) (Kf Xf Yf Nf : Nat → Int32) (v x y : Nat) (sz : Nat) (hv : v < 24) (hx9 : x < 24) (hy9 : y < 24) (ex : Xf v = nI x) (ey : Yf v = nI y) (ek : Kf v = nI 0) : Met l yF_workOut wsF_workOut { frames := 2, cells := 0, slots := 0, locals := 60 } (va_Pc [.ref f0, .ref u0, .int (nI (v))] (dw_pre (dC, dI) vwCl [(f0, .inr (2, [.ref aZ, .ref aO, .int (ch)])), (aZ, .inl (cI, 24, .inl (Zs))), (aO, .inl (cI, 24, .inl (On))), (u0, .inr (1, [.ref aK, .ref aX, .ref aY, .ref aN, .ref aV, .ref aM, .int (nI (n)), .int (nI (R))])), (aK, .inl (cI, 24, .inl (Kf))), (aX, .inl (cI, 24, .inl (Xf))), (aY, .inl (cI, 24, .inl (Yf))), (aN, .inl (cI, 24, .inl (Nf)))] [(cI, .int), (cZ, .boolean)] sz)) (va_Qv (fun (u : Int32) => db_lrn ch u Zs On v (db_F 0 (Nf v) (Zs x) (On x) (Zs y) (On y) (Zs v) (On v)).1 (db_F 0 (Nf v) (Zs x) (On x) (Zs y) (On y) (Zs v) (On v)).2) (fun u t => dw_post (dC, dI) vwCl [(f0, .inr (2, [.ref aZ, .ref aO, .int (u)])), (aZ, .inl (cI, 24, .inl (upd Zs v (db_F 0 (Nf v) (Zs x) (On x) (Zs y) (On y) (Zs v) (On v)).1))), (aO, .inl (cI, 24, .inl (upd On v (db_F 0 (Nf v) (Zs x) (On x) (Zs y) (On y) (Zs v) (On v)).2))), (u0, .inr (1, [.ref aK, .ref aX, .ref aY, .ref aN, .ref aV, .ref aM, .int (nI (n)), .int (nI (R))])), (aK, .inl (cI, 24, .inl (Kf))), (aX, .inl (cI, 24, .inl (Xf))), (aY, .inl (cI, 24, .inl (Yf))), (aN, .inl (cI, 24, .inl (Nf)))] [(cI, .int), (cZ, .boolean)] (va_A [(f0, .inr (2, [.ref aZ, .ref aO, .int (ch)])), (aZ, .inl (cI, 24, .inl (Zs))), (aO, .inl (cI, 24, .inl (On))), (u0, .inr (1, [.ref aK, .ref aX, .ref aY, .ref aN, .ref aV, .ref aM, .int (nI (n)), .int (nI (R))])), (aK, .inl (cI, 24, .inl (Kf))), (aX, .inl (cI, 24, .inl (Xf))), (aY, .inl (cI, 24, .inl (Yf))), (aN, .inl (cI, 24, .inl (Nf)))] sz) t) (va_A [(f0, .inr (2, [.ref aZ, .ref aO, .int (ch)])), (aZ, .inl (cI, 24, .inl (Zs))), (aO, .inl (cI, 24, .inl (On))), (u0, .inr (1, [.ref aK, .ref aX, .ref aY, .ref aN, .ref aV, .ref aM, .int (nI (n)), .int (nI (R))])), (aK, .inl (cI, 24, .inl (Kf))), (aX, .inl (cI, 24, .inl (Xf))), (aY, .inl (cI, 24, .inl (Yf))), (aN, .inl (cI, 24, .inl (Nf)))] sz)) 0 0 (va_A [(f0, .inr (2, [.ref aZ, .ref aO, .int (ch)])), (aZ, .inl (cI, 24, .inl (Zs))), (aO, .inl (cI, 24, .inl (On))), (u0, .inr (1, [.ref aK, .ref aX, .ref aY, .ref aN, .ref aV, .ref aM, .int (nI (n)), .int (nI (R))])), (aK, .inl (cI, 24, .inl (Kf))), (aX, .inl (cI, 24, .inl (Xf))), (aY, .inl (cI, 24, .inl (Yf))), (aN, .inl (cI, 24, .inl (Nf)))] sz) := by
  refine Met.ofW (cc := cF_workOut) (maxL := 6) (ret := none) (by decide) rfl ?_
  intro p e s m args below meth c s₁ B hml hv0
  have hx := B.exec
  have hb := B.bytes
  have hr := B.returns
  have hts := atoms_spec (ws := wsF_workOut) B.pre
  have hown : s.vm.findClass RF = some m.cls := findClass_of_methodNamed B.named
  have hlocks := B.notSynchronized
  obtain ⟨rfl, hsz, hG⟩ := dw_enter hv0
  generalize va_A [(f0, .inr (2, [.ref aZ, .ref aO, .int (ch)])), (aZ, .inl (cI, 24, .inl (Zs))), (aO, .inl (cI, 24, .inl (On))), (u0, .inr (1, [.ref aK, .ref aX, .ref aY, .ref aN, .ref aV, .ref aM, .int (nI (n)), .int (nI (R))])), (aK, .inl (cI, 24, .inl (Kf))), (aX, .inl (cI, 24, .inl (Xf))), (aY, .inl (cI, 24, .inl (Yf))), (aN, .inl (cI, 24, .inl (Nf)))] sz = A at hG ⊢
  have hl := lv_entry ([.ref f0, .ref u0, .int (nI (v))]) (n := 6) (Nat.le_of_ble_eq_true rfl)
  rw [lg_entry_eq]
  generalize (lg_sl ([.ref f0, .ref u0, .int (nI (v))]) ++ List.replicate (6 - (lg_sl ([.ref f0, .ref u0, .int (nI (v))])).length) Slot.unset).toArray = ls at hl ⊢
  have hl : lv_has ls 6 [(0, .ref f0), (1, .ref u0), (2, .int (nI (v)))] := hl
  have hw37 := hts _ (List.mem_cons_of_mem _ tw_37)
  have hw43 := hts _ (List.mem_cons_of_mem _ tw_43)
  have hw48 := hts _ (List.mem_cons_of_mem _ tw_48)
  have hw32 := hts _ (List.mem_cons_of_mem _ tw_32)
  have hw89 := hts _ (List.mem_cons_of_mem _ tw_89)
  have hw92 := hts _ (List.mem_cons_of_mem _ tw_92)
  refine dw_Q (fun Q hQ => ?_)
  suffices hgo : ∀ (H : Heap) (locs : List Loc), dw_G (dC, dI) vwCl [(cI, .int), (cZ, .boolean)] A s.heap s [(f0, .inr (2, [.ref aZ, .ref aO, .int (ch)])), (aZ, .inl (cI, 24, .inl (Zs))), (aO, .inl (cI, 24, .inl (On))), (u0, .inr (1, [.ref aK, .ref aX, .ref aY, .ref aN, .ref aV, .ref aM, .int (nI (n)), .int (nI (R))])), (aK, .inl (cI, 24, .inl (Kf))), (aX, .inl (cI, 24, .inl (Xf))), (aY, .inl (cI, 24, .inl (Yf))), (aN, .inl (cI, 24, .inl (Nf)))] H locs → W p l e (headSpec wsF_workOut { frames := 2, cells := 0, slots := 0, locals := 60 }).room s m [.ref f0, .ref u0, .int (nI (v))].toArray below meth c H locs 0 0 Q (F0 m 0 ls []) from hgo _ _ hG
  clear hG
  intro H locs hG
  refine lv_aload_n hx hb dF_workOut_0 rfl (lv_at hl 1 rfl) ?_
  refine dw_get hx hb hts inUc hown hG 3 1 rfl rfl (by decide) hw37 rfl rfl dF_workOut_1 ?_
  refine lv_iload_n hx hb dF_workOut_4 rfl (lv_at hl 2 rfl) ?_
  refine dw_ia (x := nI (x)) hx hb hG 5 0 rfl rfl (v) rfl (by omega) (by decide) ex dF_workOut_5 ?_
  refine lv_istore_n (lv' := [(3, .int (nI (x))), (0, .ref f0), (1, .ref u0), (2, .int (nI (v)))]) hx hb dF_workOut_6 rfl hl (by decide) rfl (fun ls hl => ?_)
  refine lv_aload_n hx hb dF_workOut_7 rfl (lv_at hl 2 rfl) ?_
  refine dw_get hx hb hts inUc hown hG 3 2 rfl rfl (by decide) hw43 rfl rfl dF_workOut_8 ?_
  refine lv_iload_n hx hb dF_workOut_11 rfl (lv_at hl 3 rfl) ?_
  refine dw_ia (x := nI (y)) hx hb hG 6 0 rfl rfl (v) rfl (by omega) (by decide) ey dF_workOut_12 ?_
  refine lv_istore (lv' := [(4, .int (nI (y))), (3, .int (nI (x))), (0, .ref f0), (1, .ref u0), (2, .int (nI (v)))]) hx hb dF_workOut_13 hl (by decide) rfl (fun ls hl => ?_)
  refine lv_aload_n hx hb dF_workOut_15 rfl (lv_at hl 3 rfl) ?_
  refine dw_get hx hb hts inUc hown hG 3 3 rfl rfl (by decide) hw48 rfl rfl dF_workOut_16 ?_
  refine lv_iload_n hx hb dF_workOut_19 rfl (lv_at hl 4 rfl) ?_
  refine dw_ia (x := (Nf) (v)) hx hb hG 7 0 rfl rfl (v) rfl (by omega) (by decide) rfl dF_workOut_20 ?_
  refine lv_istore (lv' := [(5, .int ((Nf) (v))), (4, .int (nI (y))), (3, .int (nI (x))), (0, .ref f0), (1, .ref u0), (2, .int (nI (v)))]) hx hb dF_workOut_21 hl (by decide) rfl (fun ls hl => ?_)
  refine lv_aload_n hx hb dF_workOut_23 rfl (lv_at hl 4 rfl) ?_
  refine dw_get hx hb hts inUc hown hG 3 0 rfl rfl (by decide) hw32 rfl rfl dF_workOut_24 ?_
  refine lv_iload_n hx hb dF_workOut_27 rfl (lv_at hl 5 rfl) ?_
  refine dw_ia (x := 0) hx hb hG 4 0 rfl rfl (v) rfl (by omega) (by decide) ek dF_workOut_28 ?_
  refine lv_tableIn (tgt := 114) hx hb dF_workOut_29 (by decide) (by decide) rfl (by decide) ?_
  refine lv_aload_n hx hb dF_workOut_114 rfl (lv_at hl 3 rfl) ?_
  refine lv_iload_n hx hb dF_workOut_115 rfl (lv_at hl 5 rfl) ?_
  refine lv_iload_n hx hb dF_workOut_116 rfl (lv_at hl 2 rfl) ?_
  refine lv_aload_n hx hb dF_workOut_117 rfl (lv_at hl 3 rfl) ?_
  refine dw_get hx hb hts inFc hown hG 0 0 rfl rfl (by decide) hw89 rfl rfl dF_workOut_118 ?_
  refine lv_iload hx hb dF_workOut_121 (lv_at hl 1 rfl) ?_
  refine dw_ia (x := (Zs) (y)) hx hb hG 1 0 rfl rfl (y) rfl (by omega) (by decide) rfl dF_workOut_123 ?_
  refine lv_aload_n hx hb dF_workOut_124 rfl (lv_at hl 3 rfl) ?_
  refine dw_get hx hb hts inFc hown hG 0 1 rfl rfl (by decide) hw92 rfl rfl dF_workOut_125 ?_
  refine lv_iload hx hb dF_workOut_128 (lv_at hl 1 rfl) ?_
  refine dw_ia (x := (On) (y)) hx hb hG 2 0 rfl rfl (y) rfl (by omega) (by decide) rfl dF_workOut_130 ?_
  refine lv_iconst (v := 0) hx hb dF_workOut_131 (by decide) ?_
  refine dw_callv (wc := [(f0, .inr (2, [.ref aZ, .ref aO, .int (ch)])), (aZ, .inl (cI, 24, .inl (Zs))), (aO, .inl (cI, 24, .inl (On)))]) (wr := [(u0, .inr (1, [.ref aK, .ref aX, .ref aY, .ref aN, .ref aV, .ref aM, .int (nI (n)), .int (nI (R))])), (aK, .inl (cI, 24, .inl (Kf))), (aX, .inl (cI, 24, .inl (Xf))), (aY, .inl (cI, 24, .inl (Yf))), (aN, .inl (cI, 24, .inl (Nf)))]) hG [0, 1, 2] [3, 4, 5, 6, 7] rfl rfl (by decide) (by decide) (va_runV (As := [.int (nI (v)), .int (nI (x)), .int ((Zs) (y)), .int ((On) (y)), .int (0)]) (rest := []) ⟨hx, hb, hml, hown, hts⟩ (cf_learnSum l dC dI cI cZ f0 aZ aO ch Zs On v x ((Zs) (y)) ((On) (y)) (0) H.size (by omega) (by omega)) (dc_V 5 hts tw_189 tw_191 tp_F_learnSum tw_3 tw_192 rfl rfl (by decide +kernel) ⟨Nat.le_of_ble_eq_true rfl, Nat.le_of_ble_eq_true rfl⟩) (dw_preV (ci := 2) hG [0, 1, 2] [0, 1] rfl rfl (by decide) rfl rfl (q0 := 0) rfl) rfl rfl hl.1 rfl (lv_room (Nat.le_of_ble_eq_true rfl)) dF_workOut_132 ⟨Nat.le_refl _, Nat.le_refl _⟩) (fun u H locs hp hG => ?_)
  have hG : dw_G (dC, dI) vwCl [(cI, .int), (cZ, .boolean)] A s.heap s [(u0, .inr (1, [.ref aK, .ref aX, .ref aY, .ref aN, .ref aV, .ref aM, .int (nI (n)), .int (nI (R))])), (aK, .inl (cI, 24, .inl (Kf))), (aX, .inl (cI, 24, .inl (Xf))), (aY, .inl (cI, 24, .inl (Yf))), (aN, .inl (cI, 24, .inl (Nf))), (f0, .inr (2, [.ref aZ, .ref aO, .int (u)])), (aZ, .inl (cI, 24, .inl (upd Zs v (db_sumZ (Zs x) (On x) ((Zs) (y)) ((On) (y)) (0))))), (aO, .inl (cI, 24, .inl (upd On v (db_sumO (Zs x) (On x) ((Zs) (y)) ((On) (y)) (0)))))] H locs := hG
  refine lv_goto (tgt := 375) hx hb dF_workOut_135 (by decide) ?_
  subst hQ
  exact dw_vret hx hb hr (dw_perm hG [5, 6, 7, 0, 1, 2, 3, 4] (by decide) rfl rfl) (u) rfl hp dF_workOut_375 hlocks

set_option maxRecDepth 100000 in
set_option maxHeartbeats 4000000 in
theorem cf_work1 (l : Launch) (dC : Nat → ClassId) (dI : Nat → Nat → Nat) (cI cZ : ClassId) (f0 aZ aO : Nat) (ch : Int32) (Zs On : Nat → Int32) (u0 aK aX aY aN aV aM n R : Nat) (Kf Xf Yf Nf : Nat → Int32) (v x y : Nat) (sz : Nat) (hv : v < 24) (hx9 : x < 24) (hy9 : y < 24) (ex : Xf v = nI x) (ey : Yf v = nI y) (ek : Kf v = nI 1) : Met l yF_workOut wsF_workOut { frames := 2, cells := 0, slots := 0, locals := 60 } (va_Pc [.ref f0, .ref u0, .int (nI (v))] (dw_pre (dC, dI) vwCl [(f0, .inr (2, [.ref aZ, .ref aO, .int (ch)])), (aZ, .inl (cI, 24, .inl (Zs))), (aO, .inl (cI, 24, .inl (On))), (u0, .inr (1, [.ref aK, .ref aX, .ref aY, .ref aN, .ref aV, .ref aM, .int (nI (n)), .int (nI (R))])), (aK, .inl (cI, 24, .inl (Kf))), (aX, .inl (cI, 24, .inl (Xf))), (aY, .inl (cI, 24, .inl (Yf))), (aN, .inl (cI, 24, .inl (Nf)))] [(cI, .int), (cZ, .boolean)] sz)) (va_Qv (fun (u : Int32) => db_lrn ch u Zs On v (db_F 1 (Nf v) (Zs x) (On x) (Zs y) (On y) (Zs v) (On v)).1 (db_F 1 (Nf v) (Zs x) (On x) (Zs y) (On y) (Zs v) (On v)).2) (fun u t => dw_post (dC, dI) vwCl [(f0, .inr (2, [.ref aZ, .ref aO, .int (u)])), (aZ, .inl (cI, 24, .inl (upd Zs v (db_F 1 (Nf v) (Zs x) (On x) (Zs y) (On y) (Zs v) (On v)).1))), (aO, .inl (cI, 24, .inl (upd On v (db_F 1 (Nf v) (Zs x) (On x) (Zs y) (On y) (Zs v) (On v)).2))), (u0, .inr (1, [.ref aK, .ref aX, .ref aY, .ref aN, .ref aV, .ref aM, .int (nI (n)), .int (nI (R))])), (aK, .inl (cI, 24, .inl (Kf))), (aX, .inl (cI, 24, .inl (Xf))), (aY, .inl (cI, 24, .inl (Yf))), (aN, .inl (cI, 24, .inl (Nf)))] [(cI, .int), (cZ, .boolean)] (va_A [(f0, .inr (2, [.ref aZ, .ref aO, .int (ch)])), (aZ, .inl (cI, 24, .inl (Zs))), (aO, .inl (cI, 24, .inl (On))), (u0, .inr (1, [.ref aK, .ref aX, .ref aY, .ref aN, .ref aV, .ref aM, .int (nI (n)), .int (nI (R))])), (aK, .inl (cI, 24, .inl (Kf))), (aX, .inl (cI, 24, .inl (Xf))), (aY, .inl (cI, 24, .inl (Yf))), (aN, .inl (cI, 24, .inl (Nf)))] sz) t) (va_A [(f0, .inr (2, [.ref aZ, .ref aO, .int (ch)])), (aZ, .inl (cI, 24, .inl (Zs))), (aO, .inl (cI, 24, .inl (On))), (u0, .inr (1, [.ref aK, .ref aX, .ref aY, .ref aN, .ref aV, .ref aM, .int (nI (n)), .int (nI (R))])), (aK, .inl (cI, 24, .inl (Kf))), (aX, .inl (cI, 24, .inl (Xf))), (aY, .inl (cI, 24, .inl (Yf))), (aN, .inl (cI, 24, .inl (Nf)))] sz)) 0 0 (va_A [(f0, .inr (2, [.ref aZ, .ref aO, .int (ch)])), (aZ, .inl (cI, 24, .inl (Zs))), (aO, .inl (cI, 24, .inl (On))), (u0, .inr (1, [.ref aK, .ref aX, .ref aY, .ref aN, .ref aV, .ref aM, .int (nI (n)), .int (nI (R))])), (aK, .inl (cI, 24, .inl (Kf))), (aX, .inl (cI, 24, .inl (Xf))), (aY, .inl (cI, 24, .inl (Yf))), (aN, .inl (cI, 24, .inl (Nf)))] sz) := by
  refine Met.ofW (cc := cF_workOut) (maxL := 6) (ret := none) (by decide) rfl ?_
  intro p e s m args below meth c s₁ B hml hv0
  have hx := B.exec
  have hb := B.bytes
  have hr := B.returns
  have hts := atoms_spec (ws := wsF_workOut) B.pre
  have hown : s.vm.findClass RF = some m.cls := findClass_of_methodNamed B.named
  have hlocks := B.notSynchronized
  obtain ⟨rfl, hsz, hG⟩ := dw_enter hv0
  generalize va_A [(f0, .inr (2, [.ref aZ, .ref aO, .int (ch)])), (aZ, .inl (cI, 24, .inl (Zs))), (aO, .inl (cI, 24, .inl (On))), (u0, .inr (1, [.ref aK, .ref aX, .ref aY, .ref aN, .ref aV, .ref aM, .int (nI (n)), .int (nI (R))])), (aK, .inl (cI, 24, .inl (Kf))), (aX, .inl (cI, 24, .inl (Xf))), (aY, .inl (cI, 24, .inl (Yf))), (aN, .inl (cI, 24, .inl (Nf)))] sz = A at hG ⊢
  have hl := lv_entry ([.ref f0, .ref u0, .int (nI (v))]) (n := 6) (Nat.le_of_ble_eq_true rfl)
  rw [lg_entry_eq]
  generalize (lg_sl ([.ref f0, .ref u0, .int (nI (v))]) ++ List.replicate (6 - (lg_sl ([.ref f0, .ref u0, .int (nI (v))])).length) Slot.unset).toArray = ls at hl ⊢
  have hl : lv_has ls 6 [(0, .ref f0), (1, .ref u0), (2, .int (nI (v)))] := hl
  have hw37 := hts _ (List.mem_cons_of_mem _ tw_37)
  have hw43 := hts _ (List.mem_cons_of_mem _ tw_43)
  have hw48 := hts _ (List.mem_cons_of_mem _ tw_48)
  have hw32 := hts _ (List.mem_cons_of_mem _ tw_32)
  have hw92 := hts _ (List.mem_cons_of_mem _ tw_92)
  have hw89 := hts _ (List.mem_cons_of_mem _ tw_89)
  refine dw_Q (fun Q hQ => ?_)
  suffices hgo : ∀ (H : Heap) (locs : List Loc), dw_G (dC, dI) vwCl [(cI, .int), (cZ, .boolean)] A s.heap s [(f0, .inr (2, [.ref aZ, .ref aO, .int (ch)])), (aZ, .inl (cI, 24, .inl (Zs))), (aO, .inl (cI, 24, .inl (On))), (u0, .inr (1, [.ref aK, .ref aX, .ref aY, .ref aN, .ref aV, .ref aM, .int (nI (n)), .int (nI (R))])), (aK, .inl (cI, 24, .inl (Kf))), (aX, .inl (cI, 24, .inl (Xf))), (aY, .inl (cI, 24, .inl (Yf))), (aN, .inl (cI, 24, .inl (Nf)))] H locs → W p l e (headSpec wsF_workOut { frames := 2, cells := 0, slots := 0, locals := 60 }).room s m [.ref f0, .ref u0, .int (nI (v))].toArray below meth c H locs 0 0 Q (F0 m 0 ls []) from hgo _ _ hG
  clear hG
  intro H locs hG
  refine lv_aload_n hx hb dF_workOut_0 rfl (lv_at hl 1 rfl) ?_
  refine dw_get hx hb hts inUc hown hG 3 1 rfl rfl (by decide) hw37 rfl rfl dF_workOut_1 ?_
  refine lv_iload_n hx hb dF_workOut_4 rfl (lv_at hl 2 rfl) ?_
  refine dw_ia (x := nI (x)) hx hb hG 5 0 rfl rfl (v) rfl (by omega) (by decide) ex dF_workOut_5 ?_
  refine lv_istore_n (lv' := [(3, .int (nI (x))), (0, .ref f0), (1, .ref u0), (2, .int (nI (v)))]) hx hb dF_workOut_6 rfl hl (by decide) rfl (fun ls hl => ?_)
  refine lv_aload_n hx hb dF_workOut_7 rfl (lv_at hl 2 rfl) ?_
  refine dw_get hx hb hts inUc hown hG 3 2 rfl rfl (by decide) hw43 rfl rfl dF_workOut_8 ?_
  refine lv_iload_n hx hb dF_workOut_11 rfl (lv_at hl 3 rfl) ?_
  refine dw_ia (x := nI (y)) hx hb hG 6 0 rfl rfl (v) rfl (by omega) (by decide) ey dF_workOut_12 ?_
  refine lv_istore (lv' := [(4, .int (nI (y))), (3, .int (nI (x))), (0, .ref f0), (1, .ref u0), (2, .int (nI (v)))]) hx hb dF_workOut_13 hl (by decide) rfl (fun ls hl => ?_)
  refine lv_aload_n hx hb dF_workOut_15 rfl (lv_at hl 3 rfl) ?_
  refine dw_get hx hb hts inUc hown hG 3 3 rfl rfl (by decide) hw48 rfl rfl dF_workOut_16 ?_
  refine lv_iload_n hx hb dF_workOut_19 rfl (lv_at hl 4 rfl) ?_
  refine dw_ia (x := (Nf) (v)) hx hb hG 7 0 rfl rfl (v) rfl (by omega) (by decide) rfl dF_workOut_20 ?_
  refine lv_istore (lv' := [(5, .int ((Nf) (v))), (4, .int (nI (y))), (3, .int (nI (x))), (0, .ref f0), (1, .ref u0), (2, .int (nI (v)))]) hx hb dF_workOut_21 hl (by decide) rfl (fun ls hl => ?_)
  refine lv_aload_n hx hb dF_workOut_23 rfl (lv_at hl 4 rfl) ?_
  refine dw_get hx hb hts inUc hown hG 3 0 rfl rfl (by decide) hw32 rfl rfl dF_workOut_24 ?_
  refine lv_iload_n hx hb dF_workOut_27 rfl (lv_at hl 5 rfl) ?_
  refine dw_ia (x := 1) hx hb hG 4 0 rfl rfl (v) rfl (by omega) (by decide) ek dF_workOut_28 ?_
  refine lv_tableIn (tgt := 138) hx hb dF_workOut_29 (by decide) (by decide) rfl (by decide) ?_
  refine lv_aload_n hx hb dF_workOut_138 rfl (lv_at hl 3 rfl) ?_
  refine lv_iload_n hx hb dF_workOut_139 rfl (lv_at hl 5 rfl) ?_
  refine lv_iload_n hx hb dF_workOut_140 rfl (lv_at hl 2 rfl) ?_
  refine lv_aload_n hx hb dF_workOut_141 rfl (lv_at hl 3 rfl) ?_
  refine dw_get hx hb hts inFc hown hG 0 1 rfl rfl (by decide) hw92 rfl rfl dF_workOut_142 ?_
  refine lv_iload hx hb dF_workOut_145 (lv_at hl 1 rfl) ?_
  refine dw_ia (x := (On) (y)) hx hb hG 2 0 rfl rfl (y) rfl (by omega) (by decide) rfl dF_workOut_147 ?_
  refine lv_aload_n hx hb dF_workOut_148 rfl (lv_at hl 3 rfl) ?_
  refine dw_get hx hb hts inFc hown hG 0 0 rfl rfl (by decide) hw89 rfl rfl dF_workOut_149 ?_
  refine lv_iload hx hb dF_workOut_152 (lv_at hl 1 rfl) ?_
  refine dw_ia (x := (Zs) (y)) hx hb hG 1 0 rfl rfl (y) rfl (by omega) (by decide) rfl dF_workOut_154 ?_
  refine lv_iconst (v := 1) hx hb dF_workOut_155 (by decide) ?_
  refine dw_callv (wc := [(f0, .inr (2, [.ref aZ, .ref aO, .int (ch)])), (aZ, .inl (cI, 24, .inl (Zs))), (aO, .inl (cI, 24, .inl (On)))]) (wr := [(u0, .inr (1, [.ref aK, .ref aX, .ref aY, .ref aN, .ref aV, .ref aM, .int (nI (n)), .int (nI (R))])), (aK, .inl (cI, 24, .inl (Kf))), (aX, .inl (cI, 24, .inl (Xf))), (aY, .inl (cI, 24, .inl (Yf))), (aN, .inl (cI, 24, .inl (Nf)))]) hG [0, 1, 2] [3, 4, 5, 6, 7] rfl rfl (by decide) (by decide) (va_runV (As := [.int (nI (v)), .int (nI (x)), .int ((On) (y)), .int ((Zs) (y)), .int (1)]) (rest := []) ⟨hx, hb, hml, hown, hts⟩ (cf_learnSum l dC dI cI cZ f0 aZ aO ch Zs On v x ((On) (y)) ((Zs) (y)) (1) H.size (by omega) (by omega)) (dc_V 5 hts tw_189 tw_191 tp_F_learnSum tw_3 tw_192 rfl rfl (by decide +kernel) ⟨Nat.le_of_ble_eq_true rfl, Nat.le_of_ble_eq_true rfl⟩) (dw_preV (ci := 2) hG [0, 1, 2] [0, 1] rfl rfl (by decide) rfl rfl (q0 := 0) rfl) rfl rfl hl.1 rfl (lv_room (Nat.le_of_ble_eq_true rfl)) dF_workOut_156 ⟨Nat.le_refl _, Nat.le_refl _⟩) (fun u H locs hp hG => ?_)
  have hG : dw_G (dC, dI) vwCl [(cI, .int), (cZ, .boolean)] A s.heap s [(u0, .inr (1, [.ref aK, .ref aX, .ref aY, .ref aN, .ref aV, .ref aM, .int (nI (n)), .int (nI (R))])), (aK, .inl (cI, 24, .inl (Kf))), (aX, .inl (cI, 24, .inl (Xf))), (aY, .inl (cI, 24, .inl (Yf))), (aN, .inl (cI, 24, .inl (Nf))), (f0, .inr (2, [.ref aZ, .ref aO, .int (u)])), (aZ, .inl (cI, 24, .inl (upd Zs v (db_sumZ (Zs x) (On x) ((On) (y)) ((Zs) (y)) (1))))), (aO, .inl (cI, 24, .inl (upd On v (db_sumO (Zs x) (On x) ((On) (y)) ((Zs) (y)) (1)))))] H locs := hG
  refine lv_goto (tgt := 375) hx hb dF_workOut_159 (by decide) ?_
  subst hQ
  exact dw_vret hx hb hr (dw_perm hG [5, 6, 7, 0, 1, 2, 3, 4] (by decide) rfl rfl) (u) rfl hp dF_workOut_375 hlocks

set_option maxRecDepth 100000 in
set_option maxHeartbeats 4000000 in
theorem cf_work2 (l : Launch) (dC : Nat → ClassId) (dI : Nat → Nat → Nat) (cI cZ : ClassId) (f0 aZ aO : Nat) (ch : Int32) (Zs On : Nat → Int32) (u0 aK aX aY aN aV aM n R : Nat) (Kf Xf Yf Nf : Nat → Int32) (v x y : Nat) (sz : Nat) (hv : v < 24) (hx9 : x < 24) (hy9 : y < 24) (ex : Xf v = nI x) (ey : Yf v = nI y) (ek : Kf v = nI 2) : Met l yF_workOut wsF_workOut { frames := 2, cells := 0, slots := 0, locals := 60 } (va_Pc [.ref f0, .ref u0, .int (nI (v))] (dw_pre (dC, dI) vwCl [(f0, .inr (2, [.ref aZ, .ref aO, .int (ch)])), (aZ, .inl (cI, 24, .inl (Zs))), (aO, .inl (cI, 24, .inl (On))), (u0, .inr (1, [.ref aK, .ref aX, .ref aY, .ref aN, .ref aV, .ref aM, .int (nI (n)), .int (nI (R))])), (aK, .inl (cI, 24, .inl (Kf))), (aX, .inl (cI, 24, .inl (Xf))), (aY, .inl (cI, 24, .inl (Yf))), (aN, .inl (cI, 24, .inl (Nf)))] [(cI, .int), (cZ, .boolean)] sz)) (va_Qv (fun (u : Int32) => db_lrn ch u Zs On v (db_F 2 (Nf v) (Zs x) (On x) (Zs y) (On y) (Zs v) (On v)).1 (db_F 2 (Nf v) (Zs x) (On x) (Zs y) (On y) (Zs v) (On v)).2) (fun u t => dw_post (dC, dI) vwCl [(f0, .inr (2, [.ref aZ, .ref aO, .int (u)])), (aZ, .inl (cI, 24, .inl (upd Zs v (db_F 2 (Nf v) (Zs x) (On x) (Zs y) (On y) (Zs v) (On v)).1))), (aO, .inl (cI, 24, .inl (upd On v (db_F 2 (Nf v) (Zs x) (On x) (Zs y) (On y) (Zs v) (On v)).2))), (u0, .inr (1, [.ref aK, .ref aX, .ref aY, .ref aN, .ref aV, .ref aM, .int (nI (n)), .int (nI (R))])), (aK, .inl (cI, 24, .inl (Kf))), (aX, .inl (cI, 24, .inl (Xf))), (aY, .inl (cI, 24, .inl (Yf))), (aN, .inl (cI, 24, .inl (Nf)))] [(cI, .int), (cZ, .boolean)] (va_A [(f0, .inr (2, [.ref aZ, .ref aO, .int (ch)])), (aZ, .inl (cI, 24, .inl (Zs))), (aO, .inl (cI, 24, .inl (On))), (u0, .inr (1, [.ref aK, .ref aX, .ref aY, .ref aN, .ref aV, .ref aM, .int (nI (n)), .int (nI (R))])), (aK, .inl (cI, 24, .inl (Kf))), (aX, .inl (cI, 24, .inl (Xf))), (aY, .inl (cI, 24, .inl (Yf))), (aN, .inl (cI, 24, .inl (Nf)))] sz) t) (va_A [(f0, .inr (2, [.ref aZ, .ref aO, .int (ch)])), (aZ, .inl (cI, 24, .inl (Zs))), (aO, .inl (cI, 24, .inl (On))), (u0, .inr (1, [.ref aK, .ref aX, .ref aY, .ref aN, .ref aV, .ref aM, .int (nI (n)), .int (nI (R))])), (aK, .inl (cI, 24, .inl (Kf))), (aX, .inl (cI, 24, .inl (Xf))), (aY, .inl (cI, 24, .inl (Yf))), (aN, .inl (cI, 24, .inl (Nf)))] sz)) 0 0 (va_A [(f0, .inr (2, [.ref aZ, .ref aO, .int (ch)])), (aZ, .inl (cI, 24, .inl (Zs))), (aO, .inl (cI, 24, .inl (On))), (u0, .inr (1, [.ref aK, .ref aX, .ref aY, .ref aN, .ref aV, .ref aM, .int (nI (n)), .int (nI (R))])), (aK, .inl (cI, 24, .inl (Kf))), (aX, .inl (cI, 24, .inl (Xf))), (aY, .inl (cI, 24, .inl (Yf))), (aN, .inl (cI, 24, .inl (Nf)))] sz) := by
  refine Met.ofW (cc := cF_workOut) (maxL := 6) (ret := none) (by decide) rfl ?_
  intro p e s m args below meth c s₁ B hml hv0
  have hx := B.exec
  have hb := B.bytes
  have hr := B.returns
  have hts := atoms_spec (ws := wsF_workOut) B.pre
  have hown : s.vm.findClass RF = some m.cls := findClass_of_methodNamed B.named
  have hlocks := B.notSynchronized
  obtain ⟨rfl, hsz, hG⟩ := dw_enter hv0
  generalize va_A [(f0, .inr (2, [.ref aZ, .ref aO, .int (ch)])), (aZ, .inl (cI, 24, .inl (Zs))), (aO, .inl (cI, 24, .inl (On))), (u0, .inr (1, [.ref aK, .ref aX, .ref aY, .ref aN, .ref aV, .ref aM, .int (nI (n)), .int (nI (R))])), (aK, .inl (cI, 24, .inl (Kf))), (aX, .inl (cI, 24, .inl (Xf))), (aY, .inl (cI, 24, .inl (Yf))), (aN, .inl (cI, 24, .inl (Nf)))] sz = A at hG ⊢
  have hl := lv_entry ([.ref f0, .ref u0, .int (nI (v))]) (n := 6) (Nat.le_of_ble_eq_true rfl)
  rw [lg_entry_eq]
  generalize (lg_sl ([.ref f0, .ref u0, .int (nI (v))]) ++ List.replicate (6 - (lg_sl ([.ref f0, .ref u0, .int (nI (v))])).length) Slot.unset).toArray = ls at hl ⊢
  have hl : lv_has ls 6 [(0, .ref f0), (1, .ref u0), (2, .int (nI (v)))] := hl
  have hw37 := hts _ (List.mem_cons_of_mem _ tw_37)
  have hw43 := hts _ (List.mem_cons_of_mem _ tw_43)
  have hw48 := hts _ (List.mem_cons_of_mem _ tw_48)
  have hw32 := hts _ (List.mem_cons_of_mem _ tw_32)
  refine dw_Q (fun Q hQ => ?_)
  suffices hgo : ∀ (H : Heap) (locs : List Loc), dw_G (dC, dI) vwCl [(cI, .int), (cZ, .boolean)] A s.heap s [(f0, .inr (2, [.ref aZ, .ref aO, .int (ch)])), (aZ, .inl (cI, 24, .inl (Zs))), (aO, .inl (cI, 24, .inl (On))), (u0, .inr (1, [.ref aK, .ref aX, .ref aY, .ref aN, .ref aV, .ref aM, .int (nI (n)), .int (nI (R))])), (aK, .inl (cI, 24, .inl (Kf))), (aX, .inl (cI, 24, .inl (Xf))), (aY, .inl (cI, 24, .inl (Yf))), (aN, .inl (cI, 24, .inl (Nf)))] H locs → W p l e (headSpec wsF_workOut { frames := 2, cells := 0, slots := 0, locals := 60 }).room s m [.ref f0, .ref u0, .int (nI (v))].toArray below meth c H locs 0 0 Q (F0 m 0 ls []) from hgo _ _ hG
  clear hG
  intro H locs hG
  refine lv_aload_n hx hb dF_workOut_0 rfl (lv_at hl 1 rfl) ?_
  refine dw_get hx hb hts inUc hown hG 3 1 rfl rfl (by decide) hw37 rfl rfl dF_workOut_1 ?_
  refine lv_iload_n hx hb dF_workOut_4 rfl (lv_at hl 2 rfl) ?_
  refine dw_ia (x := nI (x)) hx hb hG 5 0 rfl rfl (v) rfl (by omega) (by decide) ex dF_workOut_5 ?_
  refine lv_istore_n (lv' := [(3, .int (nI (x))), (0, .ref f0), (1, .ref u0), (2, .int (nI (v)))]) hx hb dF_workOut_6 rfl hl (by decide) rfl (fun ls hl => ?_)
  refine lv_aload_n hx hb dF_workOut_7 rfl (lv_at hl 2 rfl) ?_
  refine dw_get hx hb hts inUc hown hG 3 2 rfl rfl (by decide) hw43 rfl rfl dF_workOut_8 ?_
  refine lv_iload_n hx hb dF_workOut_11 rfl (lv_at hl 3 rfl) ?_
  refine dw_ia (x := nI (y)) hx hb hG 6 0 rfl rfl (v) rfl (by omega) (by decide) ey dF_workOut_12 ?_
  refine lv_istore (lv' := [(4, .int (nI (y))), (3, .int (nI (x))), (0, .ref f0), (1, .ref u0), (2, .int (nI (v)))]) hx hb dF_workOut_13 hl (by decide) rfl (fun ls hl => ?_)
  refine lv_aload_n hx hb dF_workOut_15 rfl (lv_at hl 3 rfl) ?_
  refine dw_get hx hb hts inUc hown hG 3 3 rfl rfl (by decide) hw48 rfl rfl dF_workOut_16 ?_
  refine lv_iload_n hx hb dF_workOut_19 rfl (lv_at hl 4 rfl) ?_
  refine dw_ia (x := (Nf) (v)) hx hb hG 7 0 rfl rfl (v) rfl (by omega) (by decide) rfl dF_workOut_20 ?_
  refine lv_istore (lv' := [(5, .int ((Nf) (v))), (4, .int (nI (y))), (3, .int (nI (x))), (0, .ref f0), (1, .ref u0), (2, .int (nI (v)))]) hx hb dF_workOut_21 hl (by decide) rfl (fun ls hl => ?_)
  refine lv_aload_n hx hb dF_workOut_23 rfl (lv_at hl 4 rfl) ?_
  refine dw_get hx hb hts inUc hown hG 3 0 rfl rfl (by decide) hw32 rfl rfl dF_workOut_24 ?_
  refine lv_iload_n hx hb dF_workOut_27 rfl (lv_at hl 5 rfl) ?_
  refine dw_ia (x := 2) hx hb hG 4 0 rfl rfl (v) rfl (by omega) (by decide) ek dF_workOut_28 ?_
  refine lv_tableIn (tgt := 162) hx hb dF_workOut_29 (by decide) (by decide) rfl (by decide) ?_
  refine lv_aload_n hx hb dF_workOut_162 rfl (lv_at hl 3 rfl) ?_
  refine lv_iload_n hx hb dF_workOut_163 rfl (lv_at hl 5 rfl) ?_
  refine lv_iload_n hx hb dF_workOut_164 rfl (lv_at hl 2 rfl) ?_
  refine lv_iload hx hb dF_workOut_165 (lv_at hl 1 rfl) ?_
  refine dw_callv (wc := [(f0, .inr (2, [.ref aZ, .ref aO, .int (ch)])), (aZ, .inl (cI, 24, .inl (Zs))), (aO, .inl (cI, 24, .inl (On)))]) (wr := [(u0, .inr (1, [.ref aK, .ref aX, .ref aY, .ref aN, .ref aV, .ref aM, .int (nI (n)), .int (nI (R))])), (aK, .inl (cI, 24, .inl (Kf))), (aX, .inl (cI, 24, .inl (Xf))), (aY, .inl (cI, 24, .inl (Yf))), (aN, .inl (cI, 24, .inl (Nf)))]) hG [0, 1, 2] [3, 4, 5, 6, 7] rfl rfl (by decide) (by decide) (va_runV (As := [.int (nI (v)), .int (nI (x)), .int (nI (y))]) (rest := []) ⟨hx, hb, hml, hown, hts⟩ (cf_learnProduct l dC dI cI cZ f0 aZ aO ch Zs On v x y H.size hv hx9 hy9) (dc_V 3 hts tw_197 tw_199 tp_F_learnProduct tw_3 tw_200 rfl rfl (by decide +kernel) ⟨Nat.le_of_ble_eq_true rfl, Nat.le_of_ble_eq_true rfl⟩) (dw_preV (ci := 2) hG [0, 1, 2] [0, 1] rfl rfl (by decide) rfl rfl (q0 := 0) rfl) rfl rfl hl.1 rfl (lv_room (Nat.le_of_ble_eq_true rfl)) dF_workOut_167 ⟨Nat.le_refl _, Nat.le_refl _⟩) (fun u H locs hp hG => ?_)
  have hG : dw_G (dC, dI) vwCl [(cI, .int), (cZ, .boolean)] A s.heap s [(u0, .inr (1, [.ref aK, .ref aX, .ref aY, .ref aN, .ref aV, .ref aM, .int (nI (n)), .int (nI (R))])), (aK, .inl (cI, 24, .inl (Kf))), (aX, .inl (cI, 24, .inl (Xf))), (aY, .inl (cI, 24, .inl (Yf))), (aN, .inl (cI, 24, .inl (Nf))), (f0, .inr (2, [.ref aZ, .ref aO, .int (u)])), (aZ, .inl (cI, 24, .inl (upd Zs v (db_mulZ (Zs x) (On x) (Zs y) (On y))))), (aO, .inl (cI, 24, .inl (upd On v (db_mulO (Zs x) (On x) (Zs y) (On y)))))] H locs := hG
  refine lv_goto (tgt := 375) hx hb dF_workOut_170 (by decide) ?_
  subst hQ
  exact dw_vret hx hb hr (dw_perm hG [5, 6, 7, 0, 1, 2, 3, 4] (by decide) rfl rfl) (u) rfl hp dF_workOut_375 hlocks

set_option maxRecDepth 100000 in
set_option maxHeartbeats 4000000 in
theorem cf_work3 (l : Launch) (dC : Nat → ClassId) (dI : Nat → Nat → Nat) (cI cZ : ClassId) (f0 aZ aO : Nat) (ch : Int32) (Zs On : Nat → Int32) (u0 aK aX aY aN aV aM n R : Nat) (Kf Xf Yf Nf : Nat → Int32) (v x y : Nat) (sz : Nat) (hv : v < 24) (hx9 : x < 24) (hy9 : y < 24) (ex : Xf v = nI x) (ey : Yf v = nI y) (ek : Kf v = nI 3) : Met l yF_workOut wsF_workOut { frames := 2, cells := 0, slots := 0, locals := 60 } (va_Pc [.ref f0, .ref u0, .int (nI (v))] (dw_pre (dC, dI) vwCl [(f0, .inr (2, [.ref aZ, .ref aO, .int (ch)])), (aZ, .inl (cI, 24, .inl (Zs))), (aO, .inl (cI, 24, .inl (On))), (u0, .inr (1, [.ref aK, .ref aX, .ref aY, .ref aN, .ref aV, .ref aM, .int (nI (n)), .int (nI (R))])), (aK, .inl (cI, 24, .inl (Kf))), (aX, .inl (cI, 24, .inl (Xf))), (aY, .inl (cI, 24, .inl (Yf))), (aN, .inl (cI, 24, .inl (Nf)))] [(cI, .int), (cZ, .boolean)] sz)) (va_Qv (fun (u : Int32) => db_lrn ch u Zs On v (db_F 3 (Nf v) (Zs x) (On x) (Zs y) (On y) (Zs v) (On v)).1 (db_F 3 (Nf v) (Zs x) (On x) (Zs y) (On y) (Zs v) (On v)).2) (fun u t => dw_post (dC, dI) vwCl [(f0, .inr (2, [.ref aZ, .ref aO, .int (u)])), (aZ, .inl (cI, 24, .inl (upd Zs v (db_F 3 (Nf v) (Zs x) (On x) (Zs y) (On y) (Zs v) (On v)).1))), (aO, .inl (cI, 24, .inl (upd On v (db_F 3 (Nf v) (Zs x) (On x) (Zs y) (On y) (Zs v) (On v)).2))), (u0, .inr (1, [.ref aK, .ref aX, .ref aY, .ref aN, .ref aV, .ref aM, .int (nI (n)), .int (nI (R))])), (aK, .inl (cI, 24, .inl (Kf))), (aX, .inl (cI, 24, .inl (Xf))), (aY, .inl (cI, 24, .inl (Yf))), (aN, .inl (cI, 24, .inl (Nf)))] [(cI, .int), (cZ, .boolean)] (va_A [(f0, .inr (2, [.ref aZ, .ref aO, .int (ch)])), (aZ, .inl (cI, 24, .inl (Zs))), (aO, .inl (cI, 24, .inl (On))), (u0, .inr (1, [.ref aK, .ref aX, .ref aY, .ref aN, .ref aV, .ref aM, .int (nI (n)), .int (nI (R))])), (aK, .inl (cI, 24, .inl (Kf))), (aX, .inl (cI, 24, .inl (Xf))), (aY, .inl (cI, 24, .inl (Yf))), (aN, .inl (cI, 24, .inl (Nf)))] sz) t) (va_A [(f0, .inr (2, [.ref aZ, .ref aO, .int (ch)])), (aZ, .inl (cI, 24, .inl (Zs))), (aO, .inl (cI, 24, .inl (On))), (u0, .inr (1, [.ref aK, .ref aX, .ref aY, .ref aN, .ref aV, .ref aM, .int (nI (n)), .int (nI (R))])), (aK, .inl (cI, 24, .inl (Kf))), (aX, .inl (cI, 24, .inl (Xf))), (aY, .inl (cI, 24, .inl (Yf))), (aN, .inl (cI, 24, .inl (Nf)))] sz)) 0 0 (va_A [(f0, .inr (2, [.ref aZ, .ref aO, .int (ch)])), (aZ, .inl (cI, 24, .inl (Zs))), (aO, .inl (cI, 24, .inl (On))), (u0, .inr (1, [.ref aK, .ref aX, .ref aY, .ref aN, .ref aV, .ref aM, .int (nI (n)), .int (nI (R))])), (aK, .inl (cI, 24, .inl (Kf))), (aX, .inl (cI, 24, .inl (Xf))), (aY, .inl (cI, 24, .inl (Yf))), (aN, .inl (cI, 24, .inl (Nf)))] sz) := by
  refine Met.ofW (cc := cF_workOut) (maxL := 6) (ret := none) (by decide) rfl ?_
  intro p e s m args below meth c s₁ B hml hv0
  have hx := B.exec
  have hb := B.bytes
  have hr := B.returns
  have hts := atoms_spec (ws := wsF_workOut) B.pre
  have hown : s.vm.findClass RF = some m.cls := findClass_of_methodNamed B.named
  have hlocks := B.notSynchronized
  obtain ⟨rfl, hsz, hG⟩ := dw_enter hv0
  generalize va_A [(f0, .inr (2, [.ref aZ, .ref aO, .int (ch)])), (aZ, .inl (cI, 24, .inl (Zs))), (aO, .inl (cI, 24, .inl (On))), (u0, .inr (1, [.ref aK, .ref aX, .ref aY, .ref aN, .ref aV, .ref aM, .int (nI (n)), .int (nI (R))])), (aK, .inl (cI, 24, .inl (Kf))), (aX, .inl (cI, 24, .inl (Xf))), (aY, .inl (cI, 24, .inl (Yf))), (aN, .inl (cI, 24, .inl (Nf)))] sz = A at hG ⊢
  have hl := lv_entry ([.ref f0, .ref u0, .int (nI (v))]) (n := 6) (Nat.le_of_ble_eq_true rfl)
  rw [lg_entry_eq]
  generalize (lg_sl ([.ref f0, .ref u0, .int (nI (v))]) ++ List.replicate (6 - (lg_sl ([.ref f0, .ref u0, .int (nI (v))])).length) Slot.unset).toArray = ls at hl ⊢
  have hl : lv_has ls 6 [(0, .ref f0), (1, .ref u0), (2, .int (nI (v)))] := hl
  have hw37 := hts _ (List.mem_cons_of_mem _ tw_37)
  have hw43 := hts _ (List.mem_cons_of_mem _ tw_43)
  have hw48 := hts _ (List.mem_cons_of_mem _ tw_48)
  have hw32 := hts _ (List.mem_cons_of_mem _ tw_32)
  have hw89 := hts _ (List.mem_cons_of_mem _ tw_89)
  have hw92 := hts _ (List.mem_cons_of_mem _ tw_92)
  refine dw_Q (fun Q hQ => ?_)
  suffices hgo : ∀ (H : Heap) (locs : List Loc), dw_G (dC, dI) vwCl [(cI, .int), (cZ, .boolean)] A s.heap s [(f0, .inr (2, [.ref aZ, .ref aO, .int (ch)])), (aZ, .inl (cI, 24, .inl (Zs))), (aO, .inl (cI, 24, .inl (On))), (u0, .inr (1, [.ref aK, .ref aX, .ref aY, .ref aN, .ref aV, .ref aM, .int (nI (n)), .int (nI (R))])), (aK, .inl (cI, 24, .inl (Kf))), (aX, .inl (cI, 24, .inl (Xf))), (aY, .inl (cI, 24, .inl (Yf))), (aN, .inl (cI, 24, .inl (Nf)))] H locs → W p l e (headSpec wsF_workOut { frames := 2, cells := 0, slots := 0, locals := 60 }).room s m [.ref f0, .ref u0, .int (nI (v))].toArray below meth c H locs 0 0 Q (F0 m 0 ls []) from hgo _ _ hG
  clear hG
  intro H locs hG
  refine lv_aload_n hx hb dF_workOut_0 rfl (lv_at hl 1 rfl) ?_
  refine dw_get hx hb hts inUc hown hG 3 1 rfl rfl (by decide) hw37 rfl rfl dF_workOut_1 ?_
  refine lv_iload_n hx hb dF_workOut_4 rfl (lv_at hl 2 rfl) ?_
  refine dw_ia (x := nI (x)) hx hb hG 5 0 rfl rfl (v) rfl (by omega) (by decide) ex dF_workOut_5 ?_
  refine lv_istore_n (lv' := [(3, .int (nI (x))), (0, .ref f0), (1, .ref u0), (2, .int (nI (v)))]) hx hb dF_workOut_6 rfl hl (by decide) rfl (fun ls hl => ?_)
  refine lv_aload_n hx hb dF_workOut_7 rfl (lv_at hl 2 rfl) ?_
  refine dw_get hx hb hts inUc hown hG 3 2 rfl rfl (by decide) hw43 rfl rfl dF_workOut_8 ?_
  refine lv_iload_n hx hb dF_workOut_11 rfl (lv_at hl 3 rfl) ?_
  refine dw_ia (x := nI (y)) hx hb hG 6 0 rfl rfl (v) rfl (by omega) (by decide) ey dF_workOut_12 ?_
  refine lv_istore (lv' := [(4, .int (nI (y))), (3, .int (nI (x))), (0, .ref f0), (1, .ref u0), (2, .int (nI (v)))]) hx hb dF_workOut_13 hl (by decide) rfl (fun ls hl => ?_)
  refine lv_aload_n hx hb dF_workOut_15 rfl (lv_at hl 3 rfl) ?_
  refine dw_get hx hb hts inUc hown hG 3 3 rfl rfl (by decide) hw48 rfl rfl dF_workOut_16 ?_
  refine lv_iload_n hx hb dF_workOut_19 rfl (lv_at hl 4 rfl) ?_
  refine dw_ia (x := (Nf) (v)) hx hb hG 7 0 rfl rfl (v) rfl (by omega) (by decide) rfl dF_workOut_20 ?_
  refine lv_istore (lv' := [(5, .int ((Nf) (v))), (4, .int (nI (y))), (3, .int (nI (x))), (0, .ref f0), (1, .ref u0), (2, .int (nI (v)))]) hx hb dF_workOut_21 hl (by decide) rfl (fun ls hl => ?_)
  refine lv_aload_n hx hb dF_workOut_23 rfl (lv_at hl 4 rfl) ?_
  refine dw_get hx hb hts inUc hown hG 3 0 rfl rfl (by decide) hw32 rfl rfl dF_workOut_24 ?_
  refine lv_iload_n hx hb dF_workOut_27 rfl (lv_at hl 5 rfl) ?_
  refine dw_ia (x := 3) hx hb hG 4 0 rfl rfl (v) rfl (by omega) (by decide) ek dF_workOut_28 ?_
  refine lv_tableIn (tgt := 173) hx hb dF_workOut_29 (by decide) (by decide) rfl (by decide) ?_
  refine lv_aload_n hx hb dF_workOut_173 rfl (lv_at hl 3 rfl) ?_
  refine lv_iload_n hx hb dF_workOut_174 rfl (lv_at hl 5 rfl) ?_
  refine lv_aload_n hx hb dF_workOut_175 rfl (lv_at hl 3 rfl) ?_
  refine dw_get hx hb hts inFc hown hG 0 0 rfl rfl (by decide) hw89 rfl rfl dF_workOut_176 ?_
  refine lv_iload_n hx hb dF_workOut_179 rfl (lv_at hl 2 rfl) ?_
  refine dw_ia (x := (Zs) (x)) hx hb hG 1 0 rfl rfl (x) rfl (by omega) (by decide) rfl dF_workOut_180 ?_
  refine lv_aload_n hx hb dF_workOut_181 rfl (lv_at hl 3 rfl) ?_
  refine dw_get hx hb hts inFc hown hG 0 0 rfl rfl (by decide) hw89 rfl rfl dF_workOut_182 ?_
  refine lv_iload hx hb dF_workOut_185 (lv_at hl 1 rfl) ?_
  refine dw_ia (x := (Zs) (y)) hx hb hG 1 0 rfl rfl (y) rfl (by omega) (by decide) rfl dF_workOut_187 ?_
  refine lv_ior hx hb dF_workOut_188 ?_
  refine lv_aload_n hx hb dF_workOut_189 rfl (lv_at hl 3 rfl) ?_
  refine dw_get hx hb hts inFc hown hG 0 1 rfl rfl (by decide) hw92 rfl rfl dF_workOut_190 ?_
  refine lv_iload_n hx hb dF_workOut_193 rfl (lv_at hl 2 rfl) ?_
  refine dw_ia (x := (On) (x)) hx hb hG 2 0 rfl rfl (x) rfl (by omega) (by decide) rfl dF_workOut_194 ?_
  refine lv_aload_n hx hb dF_workOut_195 rfl (lv_at hl 3 rfl) ?_
  refine dw_get hx hb hts inFc hown hG 0 1 rfl rfl (by decide) hw92 rfl rfl dF_workOut_196 ?_
  refine lv_iload hx hb dF_workOut_199 (lv_at hl 1 rfl) ?_
  refine dw_ia (x := (On) (y)) hx hb hG 2 0 rfl rfl (y) rfl (by omega) (by decide) rfl dF_workOut_201 ?_
  refine lv_iand hx hb dF_workOut_202 ?_
  refine dw_callv (wc := [(f0, .inr (2, [.ref aZ, .ref aO, .int (ch)])), (aZ, .inl (cI, 24, .inl (Zs))), (aO, .inl (cI, 24, .inl (On)))]) (wr := [(u0, .inr (1, [.ref aK, .ref aX, .ref aY, .ref aN, .ref aV, .ref aM, .int (nI (n)), .int (nI (R))])), (aK, .inl (cI, 24, .inl (Kf))), (aX, .inl (cI, 24, .inl (Xf))), (aY, .inl (cI, 24, .inl (Yf))), (aN, .inl (cI, 24, .inl (Nf)))]) hG [0, 1, 2] [3, 4, 5, 6, 7] rfl rfl (by decide) (by decide) (va_runV (As := [.int (nI (v)), .int (((Zs) (x)) ||| ((Zs) (y))), .int (((On) (x)) &&& ((On) (y)))]) (rest := []) ⟨hx, hb, hml, hown, hts⟩ (cf_learn l dC dI cI cZ f0 aZ aO ch Zs On (v) (((Zs) (x)) ||| ((Zs) (y))) (((On) (x)) &&& ((On) (y))) H.size (by omega)) (dc_V 3 hts tw_181 tw_183 tp_F_learn tw_3 tw_184 rfl rfl (by decide +kernel) ⟨Nat.le_of_ble_eq_true rfl, Nat.le_of_ble_eq_true rfl⟩) (dw_preV (ci := 2) hG [0, 1, 2] [0, 1] rfl rfl (by decide) rfl rfl (q0 := 0) rfl) rfl rfl hl.1 rfl (lv_room (Nat.le_of_ble_eq_true rfl)) dF_workOut_203 ⟨Nat.le_refl _, Nat.le_refl _⟩) (fun u H locs hp hG => ?_)
  have hG : dw_G (dC, dI) vwCl [(cI, .int), (cZ, .boolean)] A s.heap s [(u0, .inr (1, [.ref aK, .ref aX, .ref aY, .ref aN, .ref aV, .ref aM, .int (nI (n)), .int (nI (R))])), (aK, .inl (cI, 24, .inl (Kf))), (aX, .inl (cI, 24, .inl (Xf))), (aY, .inl (cI, 24, .inl (Yf))), (aN, .inl (cI, 24, .inl (Nf))), (f0, .inr (2, [.ref aZ, .ref aO, .int (u)])), (aZ, .inl (cI, 24, .inl (upd Zs (v) (((Zs) (x)) ||| ((Zs) (y)))))), (aO, .inl (cI, 24, .inl (upd On (v) (((On) (x)) &&& ((On) (y))))))] H locs := hG
  refine lv_goto (tgt := 375) hx hb dF_workOut_206 (by decide) ?_
  subst hQ
  exact dw_vret hx hb hr (dw_perm hG [5, 6, 7, 0, 1, 2, 3, 4] (by decide) rfl rfl) (u) rfl hp dF_workOut_375 hlocks

set_option maxRecDepth 100000 in
set_option maxHeartbeats 4000000 in
theorem cf_work4 (l : Launch) (dC : Nat → ClassId) (dI : Nat → Nat → Nat) (cI cZ : ClassId) (f0 aZ aO : Nat) (ch : Int32) (Zs On : Nat → Int32) (u0 aK aX aY aN aV aM n R : Nat) (Kf Xf Yf Nf : Nat → Int32) (v x y : Nat) (sz : Nat) (hv : v < 24) (hx9 : x < 24) (hy9 : y < 24) (ex : Xf v = nI x) (ey : Yf v = nI y) (ek : Kf v = nI 4) : Met l yF_workOut wsF_workOut { frames := 2, cells := 0, slots := 0, locals := 60 } (va_Pc [.ref f0, .ref u0, .int (nI (v))] (dw_pre (dC, dI) vwCl [(f0, .inr (2, [.ref aZ, .ref aO, .int (ch)])), (aZ, .inl (cI, 24, .inl (Zs))), (aO, .inl (cI, 24, .inl (On))), (u0, .inr (1, [.ref aK, .ref aX, .ref aY, .ref aN, .ref aV, .ref aM, .int (nI (n)), .int (nI (R))])), (aK, .inl (cI, 24, .inl (Kf))), (aX, .inl (cI, 24, .inl (Xf))), (aY, .inl (cI, 24, .inl (Yf))), (aN, .inl (cI, 24, .inl (Nf)))] [(cI, .int), (cZ, .boolean)] sz)) (va_Qv (fun (u : Int32) => db_lrn ch u Zs On v (db_F 4 (Nf v) (Zs x) (On x) (Zs y) (On y) (Zs v) (On v)).1 (db_F 4 (Nf v) (Zs x) (On x) (Zs y) (On y) (Zs v) (On v)).2) (fun u t => dw_post (dC, dI) vwCl [(f0, .inr (2, [.ref aZ, .ref aO, .int (u)])), (aZ, .inl (cI, 24, .inl (upd Zs v (db_F 4 (Nf v) (Zs x) (On x) (Zs y) (On y) (Zs v) (On v)).1))), (aO, .inl (cI, 24, .inl (upd On v (db_F 4 (Nf v) (Zs x) (On x) (Zs y) (On y) (Zs v) (On v)).2))), (u0, .inr (1, [.ref aK, .ref aX, .ref aY, .ref aN, .ref aV, .ref aM, .int (nI (n)), .int (nI (R))])), (aK, .inl (cI, 24, .inl (Kf))), (aX, .inl (cI, 24, .inl (Xf))), (aY, .inl (cI, 24, .inl (Yf))), (aN, .inl (cI, 24, .inl (Nf)))] [(cI, .int), (cZ, .boolean)] (va_A [(f0, .inr (2, [.ref aZ, .ref aO, .int (ch)])), (aZ, .inl (cI, 24, .inl (Zs))), (aO, .inl (cI, 24, .inl (On))), (u0, .inr (1, [.ref aK, .ref aX, .ref aY, .ref aN, .ref aV, .ref aM, .int (nI (n)), .int (nI (R))])), (aK, .inl (cI, 24, .inl (Kf))), (aX, .inl (cI, 24, .inl (Xf))), (aY, .inl (cI, 24, .inl (Yf))), (aN, .inl (cI, 24, .inl (Nf)))] sz) t) (va_A [(f0, .inr (2, [.ref aZ, .ref aO, .int (ch)])), (aZ, .inl (cI, 24, .inl (Zs))), (aO, .inl (cI, 24, .inl (On))), (u0, .inr (1, [.ref aK, .ref aX, .ref aY, .ref aN, .ref aV, .ref aM, .int (nI (n)), .int (nI (R))])), (aK, .inl (cI, 24, .inl (Kf))), (aX, .inl (cI, 24, .inl (Xf))), (aY, .inl (cI, 24, .inl (Yf))), (aN, .inl (cI, 24, .inl (Nf)))] sz)) 0 0 (va_A [(f0, .inr (2, [.ref aZ, .ref aO, .int (ch)])), (aZ, .inl (cI, 24, .inl (Zs))), (aO, .inl (cI, 24, .inl (On))), (u0, .inr (1, [.ref aK, .ref aX, .ref aY, .ref aN, .ref aV, .ref aM, .int (nI (n)), .int (nI (R))])), (aK, .inl (cI, 24, .inl (Kf))), (aX, .inl (cI, 24, .inl (Xf))), (aY, .inl (cI, 24, .inl (Yf))), (aN, .inl (cI, 24, .inl (Nf)))] sz) := by
  refine Met.ofW (cc := cF_workOut) (maxL := 6) (ret := none) (by decide) rfl ?_
  intro p e s m args below meth c s₁ B hml hv0
  have hx := B.exec
  have hb := B.bytes
  have hr := B.returns
  have hts := atoms_spec (ws := wsF_workOut) B.pre
  have hown : s.vm.findClass RF = some m.cls := findClass_of_methodNamed B.named
  have hlocks := B.notSynchronized
  obtain ⟨rfl, hsz, hG⟩ := dw_enter hv0
  generalize va_A [(f0, .inr (2, [.ref aZ, .ref aO, .int (ch)])), (aZ, .inl (cI, 24, .inl (Zs))), (aO, .inl (cI, 24, .inl (On))), (u0, .inr (1, [.ref aK, .ref aX, .ref aY, .ref aN, .ref aV, .ref aM, .int (nI (n)), .int (nI (R))])), (aK, .inl (cI, 24, .inl (Kf))), (aX, .inl (cI, 24, .inl (Xf))), (aY, .inl (cI, 24, .inl (Yf))), (aN, .inl (cI, 24, .inl (Nf)))] sz = A at hG ⊢
  have hl := lv_entry ([.ref f0, .ref u0, .int (nI (v))]) (n := 6) (Nat.le_of_ble_eq_true rfl)
  rw [lg_entry_eq]
  generalize (lg_sl ([.ref f0, .ref u0, .int (nI (v))]) ++ List.replicate (6 - (lg_sl ([.ref f0, .ref u0, .int (nI (v))])).length) Slot.unset).toArray = ls at hl ⊢
  have hl : lv_has ls 6 [(0, .ref f0), (1, .ref u0), (2, .int (nI (v)))] := hl
  have hw37 := hts _ (List.mem_cons_of_mem _ tw_37)
  have hw43 := hts _ (List.mem_cons_of_mem _ tw_43)
  have hw48 := hts _ (List.mem_cons_of_mem _ tw_48)
  have hw32 := hts _ (List.mem_cons_of_mem _ tw_32)
  have hw89 := hts _ (List.mem_cons_of_mem _ tw_89)
  have hw92 := hts _ (List.mem_cons_of_mem _ tw_92)
  refine dw_Q (fun Q hQ => ?_)
  suffices hgo : ∀ (H : Heap) (locs : List Loc), dw_G (dC, dI) vwCl [(cI, .int), (cZ, .boolean)] A s.heap s [(f0, .inr (2, [.ref aZ, .ref aO, .int (ch)])), (aZ, .inl (cI, 24, .inl (Zs))), (aO, .inl (cI, 24, .inl (On))), (u0, .inr (1, [.ref aK, .ref aX, .ref aY, .ref aN, .ref aV, .ref aM, .int (nI (n)), .int (nI (R))])), (aK, .inl (cI, 24, .inl (Kf))), (aX, .inl (cI, 24, .inl (Xf))), (aY, .inl (cI, 24, .inl (Yf))), (aN, .inl (cI, 24, .inl (Nf)))] H locs → W p l e (headSpec wsF_workOut { frames := 2, cells := 0, slots := 0, locals := 60 }).room s m [.ref f0, .ref u0, .int (nI (v))].toArray below meth c H locs 0 0 Q (F0 m 0 ls []) from hgo _ _ hG
  clear hG
  intro H locs hG
  refine lv_aload_n hx hb dF_workOut_0 rfl (lv_at hl 1 rfl) ?_
  refine dw_get hx hb hts inUc hown hG 3 1 rfl rfl (by decide) hw37 rfl rfl dF_workOut_1 ?_
  refine lv_iload_n hx hb dF_workOut_4 rfl (lv_at hl 2 rfl) ?_
  refine dw_ia (x := nI (x)) hx hb hG 5 0 rfl rfl (v) rfl (by omega) (by decide) ex dF_workOut_5 ?_
  refine lv_istore_n (lv' := [(3, .int (nI (x))), (0, .ref f0), (1, .ref u0), (2, .int (nI (v)))]) hx hb dF_workOut_6 rfl hl (by decide) rfl (fun ls hl => ?_)
  refine lv_aload_n hx hb dF_workOut_7 rfl (lv_at hl 2 rfl) ?_
  refine dw_get hx hb hts inUc hown hG 3 2 rfl rfl (by decide) hw43 rfl rfl dF_workOut_8 ?_
  refine lv_iload_n hx hb dF_workOut_11 rfl (lv_at hl 3 rfl) ?_
  refine dw_ia (x := nI (y)) hx hb hG 6 0 rfl rfl (v) rfl (by omega) (by decide) ey dF_workOut_12 ?_
  refine lv_istore (lv' := [(4, .int (nI (y))), (3, .int (nI (x))), (0, .ref f0), (1, .ref u0), (2, .int (nI (v)))]) hx hb dF_workOut_13 hl (by decide) rfl (fun ls hl => ?_)
  refine lv_aload_n hx hb dF_workOut_15 rfl (lv_at hl 3 rfl) ?_
  refine dw_get hx hb hts inUc hown hG 3 3 rfl rfl (by decide) hw48 rfl rfl dF_workOut_16 ?_
  refine lv_iload_n hx hb dF_workOut_19 rfl (lv_at hl 4 rfl) ?_
  refine dw_ia (x := (Nf) (v)) hx hb hG 7 0 rfl rfl (v) rfl (by omega) (by decide) rfl dF_workOut_20 ?_
  refine lv_istore (lv' := [(5, .int ((Nf) (v))), (4, .int (nI (y))), (3, .int (nI (x))), (0, .ref f0), (1, .ref u0), (2, .int (nI (v)))]) hx hb dF_workOut_21 hl (by decide) rfl (fun ls hl => ?_)
  refine lv_aload_n hx hb dF_workOut_23 rfl (lv_at hl 4 rfl) ?_
  refine dw_get hx hb hts inUc hown hG 3 0 rfl rfl (by decide) hw32 rfl rfl dF_workOut_24 ?_
  refine lv_iload_n hx hb dF_workOut_27 rfl (lv_at hl 5 rfl) ?_
  refine dw_ia (x := 4) hx hb hG 4 0 rfl rfl (v) rfl (by omega) (by decide) ek dF_workOut_28 ?_
  refine lv_tableIn (tgt := 209) hx hb dF_workOut_29 (by decide) (by decide) rfl (by decide) ?_
  refine lv_aload_n hx hb dF_workOut_209 rfl (lv_at hl 3 rfl) ?_
  refine lv_iload_n hx hb dF_workOut_210 rfl (lv_at hl 5 rfl) ?_
  refine lv_aload_n hx hb dF_workOut_211 rfl (lv_at hl 3 rfl) ?_
  refine dw_get hx hb hts inFc hown hG 0 0 rfl rfl (by decide) hw89 rfl rfl dF_workOut_212 ?_
  refine lv_iload_n hx hb dF_workOut_215 rfl (lv_at hl 2 rfl) ?_
  refine dw_ia (x := (Zs) (x)) hx hb hG 1 0 rfl rfl (x) rfl (by omega) (by decide) rfl dF_workOut_216 ?_
  refine lv_aload_n hx hb dF_workOut_217 rfl (lv_at hl 3 rfl) ?_
  refine dw_get hx hb hts inFc hown hG 0 0 rfl rfl (by decide) hw89 rfl rfl dF_workOut_218 ?_
  refine lv_iload hx hb dF_workOut_221 (lv_at hl 1 rfl) ?_
  refine dw_ia (x := (Zs) (y)) hx hb hG 1 0 rfl rfl (y) rfl (by omega) (by decide) rfl dF_workOut_223 ?_
  refine lv_iand hx hb dF_workOut_224 ?_
  refine lv_aload_n hx hb dF_workOut_225 rfl (lv_at hl 3 rfl) ?_
  refine dw_get hx hb hts inFc hown hG 0 1 rfl rfl (by decide) hw92 rfl rfl dF_workOut_226 ?_
  refine lv_iload_n hx hb dF_workOut_229 rfl (lv_at hl 2 rfl) ?_
  refine dw_ia (x := (On) (x)) hx hb hG 2 0 rfl rfl (x) rfl (by omega) (by decide) rfl dF_workOut_230 ?_
  refine lv_aload_n hx hb dF_workOut_231 rfl (lv_at hl 3 rfl) ?_
  refine dw_get hx hb hts inFc hown hG 0 1 rfl rfl (by decide) hw92 rfl rfl dF_workOut_232 ?_
  refine lv_iload hx hb dF_workOut_235 (lv_at hl 1 rfl) ?_
  refine dw_ia (x := (On) (y)) hx hb hG 2 0 rfl rfl (y) rfl (by omega) (by decide) rfl dF_workOut_237 ?_
  refine lv_ior hx hb dF_workOut_238 ?_
  refine dw_callv (wc := [(f0, .inr (2, [.ref aZ, .ref aO, .int (ch)])), (aZ, .inl (cI, 24, .inl (Zs))), (aO, .inl (cI, 24, .inl (On)))]) (wr := [(u0, .inr (1, [.ref aK, .ref aX, .ref aY, .ref aN, .ref aV, .ref aM, .int (nI (n)), .int (nI (R))])), (aK, .inl (cI, 24, .inl (Kf))), (aX, .inl (cI, 24, .inl (Xf))), (aY, .inl (cI, 24, .inl (Yf))), (aN, .inl (cI, 24, .inl (Nf)))]) hG [0, 1, 2] [3, 4, 5, 6, 7] rfl rfl (by decide) (by decide) (va_runV (As := [.int (nI (v)), .int (((Zs) (x)) &&& ((Zs) (y))), .int (((On) (x)) ||| ((On) (y)))]) (rest := []) ⟨hx, hb, hml, hown, hts⟩ (cf_learn l dC dI cI cZ f0 aZ aO ch Zs On (v) (((Zs) (x)) &&& ((Zs) (y))) (((On) (x)) ||| ((On) (y))) H.size (by omega)) (dc_V 3 hts tw_181 tw_183 tp_F_learn tw_3 tw_184 rfl rfl (by decide +kernel) ⟨Nat.le_of_ble_eq_true rfl, Nat.le_of_ble_eq_true rfl⟩) (dw_preV (ci := 2) hG [0, 1, 2] [0, 1] rfl rfl (by decide) rfl rfl (q0 := 0) rfl) rfl rfl hl.1 rfl (lv_room (Nat.le_of_ble_eq_true rfl)) dF_workOut_239 ⟨Nat.le_refl _, Nat.le_refl _⟩) (fun u H locs hp hG => ?_)
  have hG : dw_G (dC, dI) vwCl [(cI, .int), (cZ, .boolean)] A s.heap s [(u0, .inr (1, [.ref aK, .ref aX, .ref aY, .ref aN, .ref aV, .ref aM, .int (nI (n)), .int (nI (R))])), (aK, .inl (cI, 24, .inl (Kf))), (aX, .inl (cI, 24, .inl (Xf))), (aY, .inl (cI, 24, .inl (Yf))), (aN, .inl (cI, 24, .inl (Nf))), (f0, .inr (2, [.ref aZ, .ref aO, .int (u)])), (aZ, .inl (cI, 24, .inl (upd Zs (v) (((Zs) (x)) &&& ((Zs) (y)))))), (aO, .inl (cI, 24, .inl (upd On (v) (((On) (x)) ||| ((On) (y))))))] H locs := hG
  refine lv_goto (tgt := 375) hx hb dF_workOut_242 (by decide) ?_
  subst hQ
  exact dw_vret hx hb hr (dw_perm hG [5, 6, 7, 0, 1, 2, 3, 4] (by decide) rfl rfl) (u) rfl hp dF_workOut_375 hlocks

set_option maxRecDepth 100000 in
set_option maxHeartbeats 4000000 in
theorem cf_work5 (l : Launch) (dC : Nat → ClassId) (dI : Nat → Nat → Nat) (cI cZ : ClassId) (f0 aZ aO : Nat) (ch : Int32) (Zs On : Nat → Int32) (u0 aK aX aY aN aV aM n R : Nat) (Kf Xf Yf Nf : Nat → Int32) (v x y : Nat) (sz : Nat) (hv : v < 24) (hx9 : x < 24) (hy9 : y < 24) (ex : Xf v = nI x) (ey : Yf v = nI y) (ek : Kf v = nI 5) : Met l yF_workOut wsF_workOut { frames := 2, cells := 0, slots := 0, locals := 60 } (va_Pc [.ref f0, .ref u0, .int (nI (v))] (dw_pre (dC, dI) vwCl [(f0, .inr (2, [.ref aZ, .ref aO, .int (ch)])), (aZ, .inl (cI, 24, .inl (Zs))), (aO, .inl (cI, 24, .inl (On))), (u0, .inr (1, [.ref aK, .ref aX, .ref aY, .ref aN, .ref aV, .ref aM, .int (nI (n)), .int (nI (R))])), (aK, .inl (cI, 24, .inl (Kf))), (aX, .inl (cI, 24, .inl (Xf))), (aY, .inl (cI, 24, .inl (Yf))), (aN, .inl (cI, 24, .inl (Nf)))] [(cI, .int), (cZ, .boolean)] sz)) (va_Qv (fun (u : Int32) => db_lrn ch u Zs On v (db_F 5 (Nf v) (Zs x) (On x) (Zs y) (On y) (Zs v) (On v)).1 (db_F 5 (Nf v) (Zs x) (On x) (Zs y) (On y) (Zs v) (On v)).2) (fun u t => dw_post (dC, dI) vwCl [(f0, .inr (2, [.ref aZ, .ref aO, .int (u)])), (aZ, .inl (cI, 24, .inl (upd Zs v (db_F 5 (Nf v) (Zs x) (On x) (Zs y) (On y) (Zs v) (On v)).1))), (aO, .inl (cI, 24, .inl (upd On v (db_F 5 (Nf v) (Zs x) (On x) (Zs y) (On y) (Zs v) (On v)).2))), (u0, .inr (1, [.ref aK, .ref aX, .ref aY, .ref aN, .ref aV, .ref aM, .int (nI (n)), .int (nI (R))])), (aK, .inl (cI, 24, .inl (Kf))), (aX, .inl (cI, 24, .inl (Xf))), (aY, .inl (cI, 24, .inl (Yf))), (aN, .inl (cI, 24, .inl (Nf)))] [(cI, .int), (cZ, .boolean)] (va_A [(f0, .inr (2, [.ref aZ, .ref aO, .int (ch)])), (aZ, .inl (cI, 24, .inl (Zs))), (aO, .inl (cI, 24, .inl (On))), (u0, .inr (1, [.ref aK, .ref aX, .ref aY, .ref aN, .ref aV, .ref aM, .int (nI (n)), .int (nI (R))])), (aK, .inl (cI, 24, .inl (Kf))), (aX, .inl (cI, 24, .inl (Xf))), (aY, .inl (cI, 24, .inl (Yf))), (aN, .inl (cI, 24, .inl (Nf)))] sz) t) (va_A [(f0, .inr (2, [.ref aZ, .ref aO, .int (ch)])), (aZ, .inl (cI, 24, .inl (Zs))), (aO, .inl (cI, 24, .inl (On))), (u0, .inr (1, [.ref aK, .ref aX, .ref aY, .ref aN, .ref aV, .ref aM, .int (nI (n)), .int (nI (R))])), (aK, .inl (cI, 24, .inl (Kf))), (aX, .inl (cI, 24, .inl (Xf))), (aY, .inl (cI, 24, .inl (Yf))), (aN, .inl (cI, 24, .inl (Nf)))] sz)) 0 0 (va_A [(f0, .inr (2, [.ref aZ, .ref aO, .int (ch)])), (aZ, .inl (cI, 24, .inl (Zs))), (aO, .inl (cI, 24, .inl (On))), (u0, .inr (1, [.ref aK, .ref aX, .ref aY, .ref aN, .ref aV, .ref aM, .int (nI (n)), .int (nI (R))])), (aK, .inl (cI, 24, .inl (Kf))), (aX, .inl (cI, 24, .inl (Xf))), (aY, .inl (cI, 24, .inl (Yf))), (aN, .inl (cI, 24, .inl (Nf)))] sz) := by
  refine Met.ofW (cc := cF_workOut) (maxL := 6) (ret := none) (by decide) rfl ?_
  intro p e s m args below meth c s₁ B hml hv0
  have hx := B.exec
  have hb := B.bytes
  have hr := B.returns
  have hts := atoms_spec (ws := wsF_workOut) B.pre
  have hown : s.vm.findClass RF = some m.cls := findClass_of_methodNamed B.named
  have hlocks := B.notSynchronized
  obtain ⟨rfl, hsz, hG⟩ := dw_enter hv0
  generalize va_A [(f0, .inr (2, [.ref aZ, .ref aO, .int (ch)])), (aZ, .inl (cI, 24, .inl (Zs))), (aO, .inl (cI, 24, .inl (On))), (u0, .inr (1, [.ref aK, .ref aX, .ref aY, .ref aN, .ref aV, .ref aM, .int (nI (n)), .int (nI (R))])), (aK, .inl (cI, 24, .inl (Kf))), (aX, .inl (cI, 24, .inl (Xf))), (aY, .inl (cI, 24, .inl (Yf))), (aN, .inl (cI, 24, .inl (Nf)))] sz = A at hG ⊢
  have hl := lv_entry ([.ref f0, .ref u0, .int (nI (v))]) (n := 6) (Nat.le_of_ble_eq_true rfl)
  rw [lg_entry_eq]
  generalize (lg_sl ([.ref f0, .ref u0, .int (nI (v))]) ++ List.replicate (6 - (lg_sl ([.ref f0, .ref u0, .int (nI (v))])).length) Slot.unset).toArray = ls at hl ⊢
  have hl : lv_has ls 6 [(0, .ref f0), (1, .ref u0), (2, .int (nI (v)))] := hl
  have hw37 := hts _ (List.mem_cons_of_mem _ tw_37)
  have hw43 := hts _ (List.mem_cons_of_mem _ tw_43)
  have hw48 := hts _ (List.mem_cons_of_mem _ tw_48)
  have hw32 := hts _ (List.mem_cons_of_mem _ tw_32)
  have hw89 := hts _ (List.mem_cons_of_mem _ tw_89)
  have hw92 := hts _ (List.mem_cons_of_mem _ tw_92)
  refine dw_Q (fun Q hQ => ?_)
  suffices hgo : ∀ (H : Heap) (locs : List Loc), dw_G (dC, dI) vwCl [(cI, .int), (cZ, .boolean)] A s.heap s [(f0, .inr (2, [.ref aZ, .ref aO, .int (ch)])), (aZ, .inl (cI, 24, .inl (Zs))), (aO, .inl (cI, 24, .inl (On))), (u0, .inr (1, [.ref aK, .ref aX, .ref aY, .ref aN, .ref aV, .ref aM, .int (nI (n)), .int (nI (R))])), (aK, .inl (cI, 24, .inl (Kf))), (aX, .inl (cI, 24, .inl (Xf))), (aY, .inl (cI, 24, .inl (Yf))), (aN, .inl (cI, 24, .inl (Nf)))] H locs → W p l e (headSpec wsF_workOut { frames := 2, cells := 0, slots := 0, locals := 60 }).room s m [.ref f0, .ref u0, .int (nI (v))].toArray below meth c H locs 0 0 Q (F0 m 0 ls []) from hgo _ _ hG
  clear hG
  intro H locs hG
  refine lv_aload_n hx hb dF_workOut_0 rfl (lv_at hl 1 rfl) ?_
  refine dw_get hx hb hts inUc hown hG 3 1 rfl rfl (by decide) hw37 rfl rfl dF_workOut_1 ?_
  refine lv_iload_n hx hb dF_workOut_4 rfl (lv_at hl 2 rfl) ?_
  refine dw_ia (x := nI (x)) hx hb hG 5 0 rfl rfl (v) rfl (by omega) (by decide) ex dF_workOut_5 ?_
  refine lv_istore_n (lv' := [(3, .int (nI (x))), (0, .ref f0), (1, .ref u0), (2, .int (nI (v)))]) hx hb dF_workOut_6 rfl hl (by decide) rfl (fun ls hl => ?_)
  refine lv_aload_n hx hb dF_workOut_7 rfl (lv_at hl 2 rfl) ?_
  refine dw_get hx hb hts inUc hown hG 3 2 rfl rfl (by decide) hw43 rfl rfl dF_workOut_8 ?_
  refine lv_iload_n hx hb dF_workOut_11 rfl (lv_at hl 3 rfl) ?_
  refine dw_ia (x := nI (y)) hx hb hG 6 0 rfl rfl (v) rfl (by omega) (by decide) ey dF_workOut_12 ?_
  refine lv_istore (lv' := [(4, .int (nI (y))), (3, .int (nI (x))), (0, .ref f0), (1, .ref u0), (2, .int (nI (v)))]) hx hb dF_workOut_13 hl (by decide) rfl (fun ls hl => ?_)
  refine lv_aload_n hx hb dF_workOut_15 rfl (lv_at hl 3 rfl) ?_
  refine dw_get hx hb hts inUc hown hG 3 3 rfl rfl (by decide) hw48 rfl rfl dF_workOut_16 ?_
  refine lv_iload_n hx hb dF_workOut_19 rfl (lv_at hl 4 rfl) ?_
  refine dw_ia (x := (Nf) (v)) hx hb hG 7 0 rfl rfl (v) rfl (by omega) (by decide) rfl dF_workOut_20 ?_
  refine lv_istore (lv' := [(5, .int ((Nf) (v))), (4, .int (nI (y))), (3, .int (nI (x))), (0, .ref f0), (1, .ref u0), (2, .int (nI (v)))]) hx hb dF_workOut_21 hl (by decide) rfl (fun ls hl => ?_)
  refine lv_aload_n hx hb dF_workOut_23 rfl (lv_at hl 4 rfl) ?_
  refine dw_get hx hb hts inUc hown hG 3 0 rfl rfl (by decide) hw32 rfl rfl dF_workOut_24 ?_
  refine lv_iload_n hx hb dF_workOut_27 rfl (lv_at hl 5 rfl) ?_
  refine dw_ia (x := 5) hx hb hG 4 0 rfl rfl (v) rfl (by omega) (by decide) ek dF_workOut_28 ?_
  refine lv_tableIn (tgt := 245) hx hb dF_workOut_29 (by decide) (by decide) rfl (by decide) ?_
  refine lv_aload_n hx hb dF_workOut_245 rfl (lv_at hl 3 rfl) ?_
  refine lv_iload_n hx hb dF_workOut_246 rfl (lv_at hl 5 rfl) ?_
  refine lv_aload_n hx hb dF_workOut_247 rfl (lv_at hl 3 rfl) ?_
  refine dw_get hx hb hts inFc hown hG 0 0 rfl rfl (by decide) hw89 rfl rfl dF_workOut_248 ?_
  refine lv_iload_n hx hb dF_workOut_251 rfl (lv_at hl 2 rfl) ?_
  refine dw_ia (x := (Zs) (x)) hx hb hG 1 0 rfl rfl (x) rfl (by omega) (by decide) rfl dF_workOut_252 ?_
  refine lv_aload_n hx hb dF_workOut_253 rfl (lv_at hl 3 rfl) ?_
  refine dw_get hx hb hts inFc hown hG 0 0 rfl rfl (by decide) hw89 rfl rfl dF_workOut_254 ?_
  refine lv_iload hx hb dF_workOut_257 (lv_at hl 1 rfl) ?_
  refine dw_ia (x := (Zs) (y)) hx hb hG 1 0 rfl rfl (y) rfl (by omega) (by decide) rfl dF_workOut_259 ?_
  refine lv_iand hx hb dF_workOut_260 ?_
  refine lv_aload_n hx hb dF_workOut_261 rfl (lv_at hl 3 rfl) ?_
  refine dw_get hx hb hts inFc hown hG 0 1 rfl rfl (by decide) hw92 rfl rfl dF_workOut_262 ?_
  refine lv_iload_n hx hb dF_workOut_265 rfl (lv_at hl 2 rfl) ?_
  refine dw_ia (x := (On) (x)) hx hb hG 2 0 rfl rfl (x) rfl (by omega) (by decide) rfl dF_workOut_266 ?_
  refine lv_aload_n hx hb dF_workOut_267 rfl (lv_at hl 3 rfl) ?_
  refine dw_get hx hb hts inFc hown hG 0 1 rfl rfl (by decide) hw92 rfl rfl dF_workOut_268 ?_
  refine lv_iload hx hb dF_workOut_271 (lv_at hl 1 rfl) ?_
  refine dw_ia (x := (On) (y)) hx hb hG 2 0 rfl rfl (y) rfl (by omega) (by decide) rfl dF_workOut_273 ?_
  refine lv_iand hx hb dF_workOut_274 ?_
  refine lv_ior hx hb dF_workOut_275 ?_
  refine lv_aload_n hx hb dF_workOut_276 rfl (lv_at hl 3 rfl) ?_
  refine dw_get hx hb hts inFc hown hG 0 0 rfl rfl (by decide) hw89 rfl rfl dF_workOut_277 ?_
  refine lv_iload_n hx hb dF_workOut_280 rfl (lv_at hl 2 rfl) ?_
  refine dw_ia (x := (Zs) (x)) hx hb hG 1 0 rfl rfl (x) rfl (by omega) (by decide) rfl dF_workOut_281 ?_
  refine lv_aload_n hx hb dF_workOut_282 rfl (lv_at hl 3 rfl) ?_
  refine dw_get hx hb hts inFc hown hG 0 1 rfl rfl (by decide) hw92 rfl rfl dF_workOut_283 ?_
  refine lv_iload hx hb dF_workOut_286 (lv_at hl 1 rfl) ?_
  refine dw_ia (x := (On) (y)) hx hb hG 2 0 rfl rfl (y) rfl (by omega) (by decide) rfl dF_workOut_288 ?_
  refine lv_iand hx hb dF_workOut_289 ?_
  refine lv_aload_n hx hb dF_workOut_290 rfl (lv_at hl 3 rfl) ?_
  refine dw_get hx hb hts inFc hown hG 0 1 rfl rfl (by decide) hw92 rfl rfl dF_workOut_291 ?_
  refine lv_iload_n hx hb dF_workOut_294 rfl (lv_at hl 2 rfl) ?_
  refine dw_ia (x := (On) (x)) hx hb hG 2 0 rfl rfl (x) rfl (by omega) (by decide) rfl dF_workOut_295 ?_
  refine lv_aload_n hx hb dF_workOut_296 rfl (lv_at hl 3 rfl) ?_
  refine dw_get hx hb hts inFc hown hG 0 0 rfl rfl (by decide) hw89 rfl rfl dF_workOut_297 ?_
  refine lv_iload hx hb dF_workOut_300 (lv_at hl 1 rfl) ?_
  refine dw_ia (x := (Zs) (y)) hx hb hG 1 0 rfl rfl (y) rfl (by omega) (by decide) rfl dF_workOut_302 ?_
  refine lv_iand hx hb dF_workOut_303 ?_
  refine lv_ior hx hb dF_workOut_304 ?_
  refine dw_callv (wc := [(f0, .inr (2, [.ref aZ, .ref aO, .int (ch)])), (aZ, .inl (cI, 24, .inl (Zs))), (aO, .inl (cI, 24, .inl (On)))]) (wr := [(u0, .inr (1, [.ref aK, .ref aX, .ref aY, .ref aN, .ref aV, .ref aM, .int (nI (n)), .int (nI (R))])), (aK, .inl (cI, 24, .inl (Kf))), (aX, .inl (cI, 24, .inl (Xf))), (aY, .inl (cI, 24, .inl (Yf))), (aN, .inl (cI, 24, .inl (Nf)))]) hG [0, 1, 2] [3, 4, 5, 6, 7] rfl rfl (by decide) (by decide) (va_runV (As := [.int (nI (v)), .int ((((Zs) (x)) &&& ((Zs) (y))) ||| (((On) (x)) &&& ((On) (y)))), .int ((((Zs) (x)) &&& ((On) (y))) ||| (((On) (x)) &&& ((Zs) (y))))]) (rest := []) ⟨hx, hb, hml, hown, hts⟩ (cf_learn l dC dI cI cZ f0 aZ aO ch Zs On (v) ((((Zs) (x)) &&& ((Zs) (y))) ||| (((On) (x)) &&& ((On) (y)))) ((((Zs) (x)) &&& ((On) (y))) ||| (((On) (x)) &&& ((Zs) (y)))) H.size (by omega)) (dc_V 3 hts tw_181 tw_183 tp_F_learn tw_3 tw_184 rfl rfl (by decide +kernel) ⟨Nat.le_of_ble_eq_true rfl, Nat.le_of_ble_eq_true rfl⟩) (dw_preV (ci := 2) hG [0, 1, 2] [0, 1] rfl rfl (by decide) rfl rfl (q0 := 0) rfl) rfl rfl hl.1 rfl (lv_room (Nat.le_of_ble_eq_true rfl)) dF_workOut_305 ⟨Nat.le_refl _, Nat.le_refl _⟩) (fun u H locs hp hG => ?_)
  have hG : dw_G (dC, dI) vwCl [(cI, .int), (cZ, .boolean)] A s.heap s [(u0, .inr (1, [.ref aK, .ref aX, .ref aY, .ref aN, .ref aV, .ref aM, .int (nI (n)), .int (nI (R))])), (aK, .inl (cI, 24, .inl (Kf))), (aX, .inl (cI, 24, .inl (Xf))), (aY, .inl (cI, 24, .inl (Yf))), (aN, .inl (cI, 24, .inl (Nf))), (f0, .inr (2, [.ref aZ, .ref aO, .int (u)])), (aZ, .inl (cI, 24, .inl (upd Zs (v) ((((Zs) (x)) &&& ((Zs) (y))) ||| (((On) (x)) &&& ((On) (y))))))), (aO, .inl (cI, 24, .inl (upd On (v) ((((Zs) (x)) &&& ((On) (y))) ||| (((On) (x)) &&& ((Zs) (y)))))))] H locs := hG
  refine lv_goto (tgt := 375) hx hb dF_workOut_308 (by decide) ?_
  subst hQ
  exact dw_vret hx hb hr (dw_perm hG [5, 6, 7, 0, 1, 2, 3, 4] (by decide) rfl rfl) (u) rfl hp dF_workOut_375 hlocks

set_option maxRecDepth 100000 in
set_option maxHeartbeats 4000000 in
theorem cf_work6 (l : Launch) (dC : Nat → ClassId) (dI : Nat → Nat → Nat) (cI cZ : ClassId) (f0 aZ aO : Nat) (ch : Int32) (Zs On : Nat → Int32) (u0 aK aX aY aN aV aM n R : Nat) (Kf Xf Yf Nf : Nat → Int32) (v x y : Nat) (sz : Nat) (hv : v < 24) (hx9 : x < 24) (hy9 : y < 24) (ex : Xf v = nI x) (ey : Yf v = nI y) (ek : Kf v = nI 6) : Met l yF_workOut wsF_workOut { frames := 2, cells := 0, slots := 0, locals := 60 } (va_Pc [.ref f0, .ref u0, .int (nI (v))] (dw_pre (dC, dI) vwCl [(f0, .inr (2, [.ref aZ, .ref aO, .int (ch)])), (aZ, .inl (cI, 24, .inl (Zs))), (aO, .inl (cI, 24, .inl (On))), (u0, .inr (1, [.ref aK, .ref aX, .ref aY, .ref aN, .ref aV, .ref aM, .int (nI (n)), .int (nI (R))])), (aK, .inl (cI, 24, .inl (Kf))), (aX, .inl (cI, 24, .inl (Xf))), (aY, .inl (cI, 24, .inl (Yf))), (aN, .inl (cI, 24, .inl (Nf)))] [(cI, .int), (cZ, .boolean)] sz)) (va_Qv (fun (u : Int32) => db_lrn ch u Zs On v (db_F 6 (Nf v) (Zs x) (On x) (Zs y) (On y) (Zs v) (On v)).1 (db_F 6 (Nf v) (Zs x) (On x) (Zs y) (On y) (Zs v) (On v)).2) (fun u t => dw_post (dC, dI) vwCl [(f0, .inr (2, [.ref aZ, .ref aO, .int (u)])), (aZ, .inl (cI, 24, .inl (upd Zs v (db_F 6 (Nf v) (Zs x) (On x) (Zs y) (On y) (Zs v) (On v)).1))), (aO, .inl (cI, 24, .inl (upd On v (db_F 6 (Nf v) (Zs x) (On x) (Zs y) (On y) (Zs v) (On v)).2))), (u0, .inr (1, [.ref aK, .ref aX, .ref aY, .ref aN, .ref aV, .ref aM, .int (nI (n)), .int (nI (R))])), (aK, .inl (cI, 24, .inl (Kf))), (aX, .inl (cI, 24, .inl (Xf))), (aY, .inl (cI, 24, .inl (Yf))), (aN, .inl (cI, 24, .inl (Nf)))] [(cI, .int), (cZ, .boolean)] (va_A [(f0, .inr (2, [.ref aZ, .ref aO, .int (ch)])), (aZ, .inl (cI, 24, .inl (Zs))), (aO, .inl (cI, 24, .inl (On))), (u0, .inr (1, [.ref aK, .ref aX, .ref aY, .ref aN, .ref aV, .ref aM, .int (nI (n)), .int (nI (R))])), (aK, .inl (cI, 24, .inl (Kf))), (aX, .inl (cI, 24, .inl (Xf))), (aY, .inl (cI, 24, .inl (Yf))), (aN, .inl (cI, 24, .inl (Nf)))] sz) t) (va_A [(f0, .inr (2, [.ref aZ, .ref aO, .int (ch)])), (aZ, .inl (cI, 24, .inl (Zs))), (aO, .inl (cI, 24, .inl (On))), (u0, .inr (1, [.ref aK, .ref aX, .ref aY, .ref aN, .ref aV, .ref aM, .int (nI (n)), .int (nI (R))])), (aK, .inl (cI, 24, .inl (Kf))), (aX, .inl (cI, 24, .inl (Xf))), (aY, .inl (cI, 24, .inl (Yf))), (aN, .inl (cI, 24, .inl (Nf)))] sz)) 0 0 (va_A [(f0, .inr (2, [.ref aZ, .ref aO, .int (ch)])), (aZ, .inl (cI, 24, .inl (Zs))), (aO, .inl (cI, 24, .inl (On))), (u0, .inr (1, [.ref aK, .ref aX, .ref aY, .ref aN, .ref aV, .ref aM, .int (nI (n)), .int (nI (R))])), (aK, .inl (cI, 24, .inl (Kf))), (aX, .inl (cI, 24, .inl (Xf))), (aY, .inl (cI, 24, .inl (Yf))), (aN, .inl (cI, 24, .inl (Nf)))] sz) := by
  refine Met.ofW (cc := cF_workOut) (maxL := 6) (ret := none) (by decide) rfl ?_
  intro p e s m args below meth c s₁ B hml hv0
  have hx := B.exec
  have hb := B.bytes
  have hr := B.returns
  have hts := atoms_spec (ws := wsF_workOut) B.pre
  have hown : s.vm.findClass RF = some m.cls := findClass_of_methodNamed B.named
  have hlocks := B.notSynchronized
  obtain ⟨rfl, hsz, hG⟩ := dw_enter hv0
  generalize va_A [(f0, .inr (2, [.ref aZ, .ref aO, .int (ch)])), (aZ, .inl (cI, 24, .inl (Zs))), (aO, .inl (cI, 24, .inl (On))), (u0, .inr (1, [.ref aK, .ref aX, .ref aY, .ref aN, .ref aV, .ref aM, .int (nI (n)), .int (nI (R))])), (aK, .inl (cI, 24, .inl (Kf))), (aX, .inl (cI, 24, .inl (Xf))), (aY, .inl (cI, 24, .inl (Yf))), (aN, .inl (cI, 24, .inl (Nf)))] sz = A at hG ⊢
  have hl := lv_entry ([.ref f0, .ref u0, .int (nI (v))]) (n := 6) (Nat.le_of_ble_eq_true rfl)
  rw [lg_entry_eq]
  generalize (lg_sl ([.ref f0, .ref u0, .int (nI (v))]) ++ List.replicate (6 - (lg_sl ([.ref f0, .ref u0, .int (nI (v))])).length) Slot.unset).toArray = ls at hl ⊢
  have hl : lv_has ls 6 [(0, .ref f0), (1, .ref u0), (2, .int (nI (v)))] := hl
  have hw37 := hts _ (List.mem_cons_of_mem _ tw_37)
  have hw43 := hts _ (List.mem_cons_of_mem _ tw_43)
  have hw48 := hts _ (List.mem_cons_of_mem _ tw_48)
  have hw32 := hts _ (List.mem_cons_of_mem _ tw_32)
  refine dw_Q (fun Q hQ => ?_)
  suffices hgo : ∀ (H : Heap) (locs : List Loc), dw_G (dC, dI) vwCl [(cI, .int), (cZ, .boolean)] A s.heap s [(f0, .inr (2, [.ref aZ, .ref aO, .int (ch)])), (aZ, .inl (cI, 24, .inl (Zs))), (aO, .inl (cI, 24, .inl (On))), (u0, .inr (1, [.ref aK, .ref aX, .ref aY, .ref aN, .ref aV, .ref aM, .int (nI (n)), .int (nI (R))])), (aK, .inl (cI, 24, .inl (Kf))), (aX, .inl (cI, 24, .inl (Xf))), (aY, .inl (cI, 24, .inl (Yf))), (aN, .inl (cI, 24, .inl (Nf)))] H locs → W p l e (headSpec wsF_workOut { frames := 2, cells := 0, slots := 0, locals := 60 }).room s m [.ref f0, .ref u0, .int (nI (v))].toArray below meth c H locs 0 0 Q (F0 m 0 ls []) from hgo _ _ hG
  clear hG
  intro H locs hG
  refine lv_aload_n hx hb dF_workOut_0 rfl (lv_at hl 1 rfl) ?_
  refine dw_get hx hb hts inUc hown hG 3 1 rfl rfl (by decide) hw37 rfl rfl dF_workOut_1 ?_
  refine lv_iload_n hx hb dF_workOut_4 rfl (lv_at hl 2 rfl) ?_
  refine dw_ia (x := nI (x)) hx hb hG 5 0 rfl rfl (v) rfl (by omega) (by decide) ex dF_workOut_5 ?_
  refine lv_istore_n (lv' := [(3, .int (nI (x))), (0, .ref f0), (1, .ref u0), (2, .int (nI (v)))]) hx hb dF_workOut_6 rfl hl (by decide) rfl (fun ls hl => ?_)
  refine lv_aload_n hx hb dF_workOut_7 rfl (lv_at hl 2 rfl) ?_
  refine dw_get hx hb hts inUc hown hG 3 2 rfl rfl (by decide) hw43 rfl rfl dF_workOut_8 ?_
  refine lv_iload_n hx hb dF_workOut_11 rfl (lv_at hl 3 rfl) ?_
  refine dw_ia (x := nI (y)) hx hb hG 6 0 rfl rfl (v) rfl (by omega) (by decide) ey dF_workOut_12 ?_
  refine lv_istore (lv' := [(4, .int (nI (y))), (3, .int (nI (x))), (0, .ref f0), (1, .ref u0), (2, .int (nI (v)))]) hx hb dF_workOut_13 hl (by decide) rfl (fun ls hl => ?_)
  refine lv_aload_n hx hb dF_workOut_15 rfl (lv_at hl 3 rfl) ?_
  refine dw_get hx hb hts inUc hown hG 3 3 rfl rfl (by decide) hw48 rfl rfl dF_workOut_16 ?_
  refine lv_iload_n hx hb dF_workOut_19 rfl (lv_at hl 4 rfl) ?_
  refine dw_ia (x := (Nf) (v)) hx hb hG 7 0 rfl rfl (v) rfl (by omega) (by decide) rfl dF_workOut_20 ?_
  refine lv_istore (lv' := [(5, .int ((Nf) (v))), (4, .int (nI (y))), (3, .int (nI (x))), (0, .ref f0), (1, .ref u0), (2, .int (nI (v)))]) hx hb dF_workOut_21 hl (by decide) rfl (fun ls hl => ?_)
  refine lv_aload_n hx hb dF_workOut_23 rfl (lv_at hl 4 rfl) ?_
  refine dw_get hx hb hts inUc hown hG 3 0 rfl rfl (by decide) hw32 rfl rfl dF_workOut_24 ?_
  refine lv_iload_n hx hb dF_workOut_27 rfl (lv_at hl 5 rfl) ?_
  refine dw_ia (x := 6) hx hb hG 4 0 rfl rfl (v) rfl (by omega) (by decide) ek dF_workOut_28 ?_
  refine lv_tableIn (tgt := 361) hx hb dF_workOut_29 (by decide) (by decide) rfl (by decide) ?_
  refine lv_aload_n hx hb dF_workOut_361 rfl (lv_at hl 3 rfl) ?_
  refine lv_aload_n hx hb dF_workOut_362 rfl (lv_at hl 4 rfl) ?_
  refine dw_get hx hb hts inUc hown hG 3 0 rfl rfl (by decide) hw32 rfl rfl dF_workOut_363 ?_
  refine lv_iload_n hx hb dF_workOut_366 rfl (lv_at hl 5 rfl) ?_
  refine dw_ia (x := 6) hx hb hG 4 0 rfl rfl (v) rfl (by omega) (by decide) ek dF_workOut_367 ?_
  refine lv_iload_n hx hb dF_workOut_368 rfl (lv_at hl 5 rfl) ?_
  refine lv_iload_n hx hb dF_workOut_369 rfl (lv_at hl 2 rfl) ?_
  refine lv_iload hx hb dF_workOut_370 (lv_at hl 0 rfl) ?_
  refine dw_callv (wc := [(f0, .inr (2, [.ref aZ, .ref aO, .int (ch)])), (aZ, .inl (cI, 24, .inl (Zs))), (aO, .inl (cI, 24, .inl (On)))]) (wr := [(u0, .inr (1, [.ref aK, .ref aX, .ref aY, .ref aN, .ref aV, .ref aM, .int (nI (n)), .int (nI (R))])), (aK, .inl (cI, 24, .inl (Kf))), (aX, .inl (cI, 24, .inl (Xf))), (aY, .inl (cI, 24, .inl (Yf))), (aN, .inl (cI, 24, .inl (Nf)))]) hG [0, 1, 2] [3, 4, 5, 6, 7] rfl rfl (by decide) (by decide) (va_runV (As := [.int (6), .int (nI (v)), .int (nI (x)), .int ((Nf) (v))]) (rest := []) ⟨hx, hb, hml, hown, hts⟩ (cf_moved6 l dC dI cI cZ f0 aZ aO ch Zs On v x (Nf v) (Zs y) (On y) (Zs v) (On v) H.size hv hx9) (dc_V 4 hts tw_208 tw_210 tp_F_workOutMoved tw_3 tw_211 rfl rfl (by decide +kernel) ⟨Nat.le_of_ble_eq_true rfl, Nat.le_of_ble_eq_true rfl⟩) (dw_preV (ci := 2) hG [0, 1, 2] [0, 1] rfl rfl (by decide) rfl rfl (q0 := 0) rfl) rfl rfl hl.1 rfl (lv_room (Nat.le_of_ble_eq_true rfl)) dF_workOut_372 ⟨Nat.le_refl _, Nat.le_refl _⟩) (fun u H locs hp hG => ?_)
  have hG : dw_G (dC, dI) vwCl [(cI, .int), (cZ, .boolean)] A s.heap s [(u0, .inr (1, [.ref aK, .ref aX, .ref aY, .ref aN, .ref aV, .ref aM, .int (nI (n)), .int (nI (R))])), (aK, .inl (cI, 24, .inl (Kf))), (aX, .inl (cI, 24, .inl (Xf))), (aY, .inl (cI, 24, .inl (Yf))), (aN, .inl (cI, 24, .inl (Nf))), (f0, .inr (2, [.ref aZ, .ref aO, .int (u)])), (aZ, .inl (cI, 24, .inl (upd Zs v (db_F 6 (Nf v) (Zs x) (On x) (Zs y) (On y) (Zs v) (On v)).1))), (aO, .inl (cI, 24, .inl (upd On v (db_F 6 (Nf v) (Zs x) (On x) (Zs y) (On y) (Zs v) (On v)).2)))] H locs := hG
  subst hQ
  exact dw_vret hx hb hr (dw_perm hG [5, 6, 7, 0, 1, 2, 3, 4] (by decide) rfl rfl) (u) rfl hp dF_workOut_375 hlocks

set_option maxRecDepth 100000 in
set_option maxHeartbeats 4000000 in
theorem cf_work7 (l : Launch) (dC : Nat → ClassId) (dI : Nat → Nat → Nat) (cI cZ : ClassId) (f0 aZ aO : Nat) (ch : Int32) (Zs On : Nat → Int32) (u0 aK aX aY aN aV aM n R : Nat) (Kf Xf Yf Nf : Nat → Int32) (v x y : Nat) (sz : Nat) (hv : v < 24) (hx9 : x < 24) (hy9 : y < 24) (ex : Xf v = nI x) (ey : Yf v = nI y) (ek : Kf v = nI 7) : Met l yF_workOut wsF_workOut { frames := 2, cells := 0, slots := 0, locals := 60 } (va_Pc [.ref f0, .ref u0, .int (nI (v))] (dw_pre (dC, dI) vwCl [(f0, .inr (2, [.ref aZ, .ref aO, .int (ch)])), (aZ, .inl (cI, 24, .inl (Zs))), (aO, .inl (cI, 24, .inl (On))), (u0, .inr (1, [.ref aK, .ref aX, .ref aY, .ref aN, .ref aV, .ref aM, .int (nI (n)), .int (nI (R))])), (aK, .inl (cI, 24, .inl (Kf))), (aX, .inl (cI, 24, .inl (Xf))), (aY, .inl (cI, 24, .inl (Yf))), (aN, .inl (cI, 24, .inl (Nf)))] [(cI, .int), (cZ, .boolean)] sz)) (va_Qv (fun (u : Int32) => db_lrn ch u Zs On v (db_F 7 (Nf v) (Zs x) (On x) (Zs y) (On y) (Zs v) (On v)).1 (db_F 7 (Nf v) (Zs x) (On x) (Zs y) (On y) (Zs v) (On v)).2) (fun u t => dw_post (dC, dI) vwCl [(f0, .inr (2, [.ref aZ, .ref aO, .int (u)])), (aZ, .inl (cI, 24, .inl (upd Zs v (db_F 7 (Nf v) (Zs x) (On x) (Zs y) (On y) (Zs v) (On v)).1))), (aO, .inl (cI, 24, .inl (upd On v (db_F 7 (Nf v) (Zs x) (On x) (Zs y) (On y) (Zs v) (On v)).2))), (u0, .inr (1, [.ref aK, .ref aX, .ref aY, .ref aN, .ref aV, .ref aM, .int (nI (n)), .int (nI (R))])), (aK, .inl (cI, 24, .inl (Kf))), (aX, .inl (cI, 24, .inl (Xf))), (aY, .inl (cI, 24, .inl (Yf))), (aN, .inl (cI, 24, .inl (Nf)))] [(cI, .int), (cZ, .boolean)] (va_A [(f0, .inr (2, [.ref aZ, .ref aO, .int (ch)])), (aZ, .inl (cI, 24, .inl (Zs))), (aO, .inl (cI, 24, .inl (On))), (u0, .inr (1, [.ref aK, .ref aX, .ref aY, .ref aN, .ref aV, .ref aM, .int (nI (n)), .int (nI (R))])), (aK, .inl (cI, 24, .inl (Kf))), (aX, .inl (cI, 24, .inl (Xf))), (aY, .inl (cI, 24, .inl (Yf))), (aN, .inl (cI, 24, .inl (Nf)))] sz) t) (va_A [(f0, .inr (2, [.ref aZ, .ref aO, .int (ch)])), (aZ, .inl (cI, 24, .inl (Zs))), (aO, .inl (cI, 24, .inl (On))), (u0, .inr (1, [.ref aK, .ref aX, .ref aY, .ref aN, .ref aV, .ref aM, .int (nI (n)), .int (nI (R))])), (aK, .inl (cI, 24, .inl (Kf))), (aX, .inl (cI, 24, .inl (Xf))), (aY, .inl (cI, 24, .inl (Yf))), (aN, .inl (cI, 24, .inl (Nf)))] sz)) 0 0 (va_A [(f0, .inr (2, [.ref aZ, .ref aO, .int (ch)])), (aZ, .inl (cI, 24, .inl (Zs))), (aO, .inl (cI, 24, .inl (On))), (u0, .inr (1, [.ref aK, .ref aX, .ref aY, .ref aN, .ref aV, .ref aM, .int (nI (n)), .int (nI (R))])), (aK, .inl (cI, 24, .inl (Kf))), (aX, .inl (cI, 24, .inl (Xf))), (aY, .inl (cI, 24, .inl (Yf))), (aN, .inl (cI, 24, .inl (Nf)))] sz) := by
  refine Met.ofW (cc := cF_workOut) (maxL := 6) (ret := none) (by decide) rfl ?_
  intro p e s m args below meth c s₁ B hml hv0
  have hx := B.exec
  have hb := B.bytes
  have hr := B.returns
  have hts := atoms_spec (ws := wsF_workOut) B.pre
  have hown : s.vm.findClass RF = some m.cls := findClass_of_methodNamed B.named
  have hlocks := B.notSynchronized
  obtain ⟨rfl, hsz, hG⟩ := dw_enter hv0
  generalize va_A [(f0, .inr (2, [.ref aZ, .ref aO, .int (ch)])), (aZ, .inl (cI, 24, .inl (Zs))), (aO, .inl (cI, 24, .inl (On))), (u0, .inr (1, [.ref aK, .ref aX, .ref aY, .ref aN, .ref aV, .ref aM, .int (nI (n)), .int (nI (R))])), (aK, .inl (cI, 24, .inl (Kf))), (aX, .inl (cI, 24, .inl (Xf))), (aY, .inl (cI, 24, .inl (Yf))), (aN, .inl (cI, 24, .inl (Nf)))] sz = A at hG ⊢
  have hl := lv_entry ([.ref f0, .ref u0, .int (nI (v))]) (n := 6) (Nat.le_of_ble_eq_true rfl)
  rw [lg_entry_eq]
  generalize (lg_sl ([.ref f0, .ref u0, .int (nI (v))]) ++ List.replicate (6 - (lg_sl ([.ref f0, .ref u0, .int (nI (v))])).length) Slot.unset).toArray = ls at hl ⊢
  have hl : lv_has ls 6 [(0, .ref f0), (1, .ref u0), (2, .int (nI (v)))] := hl
  have hw37 := hts _ (List.mem_cons_of_mem _ tw_37)
  have hw43 := hts _ (List.mem_cons_of_mem _ tw_43)
  have hw48 := hts _ (List.mem_cons_of_mem _ tw_48)
  have hw32 := hts _ (List.mem_cons_of_mem _ tw_32)
  refine dw_Q (fun Q hQ => ?_)
  suffices hgo : ∀ (H : Heap) (locs : List Loc), dw_G (dC, dI) vwCl [(cI, .int), (cZ, .boolean)] A s.heap s [(f0, .inr (2, [.ref aZ, .ref aO, .int (ch)])), (aZ, .inl (cI, 24, .inl (Zs))), (aO, .inl (cI, 24, .inl (On))), (u0, .inr (1, [.ref aK, .ref aX, .ref aY, .ref aN, .ref aV, .ref aM, .int (nI (n)), .int (nI (R))])), (aK, .inl (cI, 24, .inl (Kf))), (aX, .inl (cI, 24, .inl (Xf))), (aY, .inl (cI, 24, .inl (Yf))), (aN, .inl (cI, 24, .inl (Nf)))] H locs → W p l e (headSpec wsF_workOut { frames := 2, cells := 0, slots := 0, locals := 60 }).room s m [.ref f0, .ref u0, .int (nI (v))].toArray below meth c H locs 0 0 Q (F0 m 0 ls []) from hgo _ _ hG
  clear hG
  intro H locs hG
  refine lv_aload_n hx hb dF_workOut_0 rfl (lv_at hl 1 rfl) ?_
  refine dw_get hx hb hts inUc hown hG 3 1 rfl rfl (by decide) hw37 rfl rfl dF_workOut_1 ?_
  refine lv_iload_n hx hb dF_workOut_4 rfl (lv_at hl 2 rfl) ?_
  refine dw_ia (x := nI (x)) hx hb hG 5 0 rfl rfl (v) rfl (by omega) (by decide) ex dF_workOut_5 ?_
  refine lv_istore_n (lv' := [(3, .int (nI (x))), (0, .ref f0), (1, .ref u0), (2, .int (nI (v)))]) hx hb dF_workOut_6 rfl hl (by decide) rfl (fun ls hl => ?_)
  refine lv_aload_n hx hb dF_workOut_7 rfl (lv_at hl 2 rfl) ?_
  refine dw_get hx hb hts inUc hown hG 3 2 rfl rfl (by decide) hw43 rfl rfl dF_workOut_8 ?_
  refine lv_iload_n hx hb dF_workOut_11 rfl (lv_at hl 3 rfl) ?_
  refine dw_ia (x := nI (y)) hx hb hG 6 0 rfl rfl (v) rfl (by omega) (by decide) ey dF_workOut_12 ?_
  refine lv_istore (lv' := [(4, .int (nI (y))), (3, .int (nI (x))), (0, .ref f0), (1, .ref u0), (2, .int (nI (v)))]) hx hb dF_workOut_13 hl (by decide) rfl (fun ls hl => ?_)
  refine lv_aload_n hx hb dF_workOut_15 rfl (lv_at hl 3 rfl) ?_
  refine dw_get hx hb hts inUc hown hG 3 3 rfl rfl (by decide) hw48 rfl rfl dF_workOut_16 ?_
  refine lv_iload_n hx hb dF_workOut_19 rfl (lv_at hl 4 rfl) ?_
  refine dw_ia (x := (Nf) (v)) hx hb hG 7 0 rfl rfl (v) rfl (by omega) (by decide) rfl dF_workOut_20 ?_
  refine lv_istore (lv' := [(5, .int ((Nf) (v))), (4, .int (nI (y))), (3, .int (nI (x))), (0, .ref f0), (1, .ref u0), (2, .int (nI (v)))]) hx hb dF_workOut_21 hl (by decide) rfl (fun ls hl => ?_)
  refine lv_aload_n hx hb dF_workOut_23 rfl (lv_at hl 4 rfl) ?_
  refine dw_get hx hb hts inUc hown hG 3 0 rfl rfl (by decide) hw32 rfl rfl dF_workOut_24 ?_
  refine lv_iload_n hx hb dF_workOut_27 rfl (lv_at hl 5 rfl) ?_
  refine dw_ia (x := 7) hx hb hG 4 0 rfl rfl (v) rfl (by omega) (by decide) ek dF_workOut_28 ?_
  refine lv_tableIn (tgt := 361) hx hb dF_workOut_29 (by decide) (by decide) rfl (by decide) ?_
  refine lv_aload_n hx hb dF_workOut_361 rfl (lv_at hl 3 rfl) ?_
  refine lv_aload_n hx hb dF_workOut_362 rfl (lv_at hl 4 rfl) ?_
  refine dw_get hx hb hts inUc hown hG 3 0 rfl rfl (by decide) hw32 rfl rfl dF_workOut_363 ?_
  refine lv_iload_n hx hb dF_workOut_366 rfl (lv_at hl 5 rfl) ?_
  refine dw_ia (x := 7) hx hb hG 4 0 rfl rfl (v) rfl (by omega) (by decide) ek dF_workOut_367 ?_
  refine lv_iload_n hx hb dF_workOut_368 rfl (lv_at hl 5 rfl) ?_
  refine lv_iload_n hx hb dF_workOut_369 rfl (lv_at hl 2 rfl) ?_
  refine lv_iload hx hb dF_workOut_370 (lv_at hl 0 rfl) ?_
  refine dw_callv (wc := [(f0, .inr (2, [.ref aZ, .ref aO, .int (ch)])), (aZ, .inl (cI, 24, .inl (Zs))), (aO, .inl (cI, 24, .inl (On)))]) (wr := [(u0, .inr (1, [.ref aK, .ref aX, .ref aY, .ref aN, .ref aV, .ref aM, .int (nI (n)), .int (nI (R))])), (aK, .inl (cI, 24, .inl (Kf))), (aX, .inl (cI, 24, .inl (Xf))), (aY, .inl (cI, 24, .inl (Yf))), (aN, .inl (cI, 24, .inl (Nf)))]) hG [0, 1, 2] [3, 4, 5, 6, 7] rfl rfl (by decide) (by decide) (va_runV (As := [.int (7), .int (nI (v)), .int (nI (x)), .int ((Nf) (v))]) (rest := []) ⟨hx, hb, hml, hown, hts⟩ (cf_moved7 l dC dI cI cZ f0 aZ aO ch Zs On v x (Nf v) (Zs y) (On y) (Zs v) (On v) H.size hv hx9) (dc_V 4 hts tw_208 tw_210 tp_F_workOutMoved tw_3 tw_211 rfl rfl (by decide +kernel) ⟨Nat.le_of_ble_eq_true rfl, Nat.le_of_ble_eq_true rfl⟩) (dw_preV (ci := 2) hG [0, 1, 2] [0, 1] rfl rfl (by decide) rfl rfl (q0 := 0) rfl) rfl rfl hl.1 rfl (lv_room (Nat.le_of_ble_eq_true rfl)) dF_workOut_372 ⟨Nat.le_refl _, Nat.le_refl _⟩) (fun u H locs hp hG => ?_)
  have hG : dw_G (dC, dI) vwCl [(cI, .int), (cZ, .boolean)] A s.heap s [(u0, .inr (1, [.ref aK, .ref aX, .ref aY, .ref aN, .ref aV, .ref aM, .int (nI (n)), .int (nI (R))])), (aK, .inl (cI, 24, .inl (Kf))), (aX, .inl (cI, 24, .inl (Xf))), (aY, .inl (cI, 24, .inl (Yf))), (aN, .inl (cI, 24, .inl (Nf))), (f0, .inr (2, [.ref aZ, .ref aO, .int (u)])), (aZ, .inl (cI, 24, .inl (upd Zs v (db_F 7 (Nf v) (Zs x) (On x) (Zs y) (On y) (Zs v) (On v)).1))), (aO, .inl (cI, 24, .inl (upd On v (db_F 7 (Nf v) (Zs x) (On x) (Zs y) (On y) (Zs v) (On v)).2)))] H locs := hG
  subst hQ
  exact dw_vret hx hb hr (dw_perm hG [5, 6, 7, 0, 1, 2, 3, 4] (by decide) rfl rfl) (u) rfl hp dF_workOut_375 hlocks

set_option maxRecDepth 100000 in
set_option maxHeartbeats 4000000 in
theorem cf_work8 (l : Launch) (dC : Nat → ClassId) (dI : Nat → Nat → Nat) (cI cZ : ClassId) (f0 aZ aO : Nat) (ch : Int32) (Zs On : Nat → Int32) (u0 aK aX aY aN aV aM n R : Nat) (Kf Xf Yf Nf : Nat → Int32) (v x y : Nat) (sz : Nat) (hv : v < 24) (hx9 : x < 24) (hy9 : y < 24) (ex : Xf v = nI x) (ey : Yf v = nI y) (ek : Kf v = nI 8) : Met l yF_workOut wsF_workOut { frames := 2, cells := 0, slots := 0, locals := 60 } (va_Pc [.ref f0, .ref u0, .int (nI (v))] (dw_pre (dC, dI) vwCl [(f0, .inr (2, [.ref aZ, .ref aO, .int (ch)])), (aZ, .inl (cI, 24, .inl (Zs))), (aO, .inl (cI, 24, .inl (On))), (u0, .inr (1, [.ref aK, .ref aX, .ref aY, .ref aN, .ref aV, .ref aM, .int (nI (n)), .int (nI (R))])), (aK, .inl (cI, 24, .inl (Kf))), (aX, .inl (cI, 24, .inl (Xf))), (aY, .inl (cI, 24, .inl (Yf))), (aN, .inl (cI, 24, .inl (Nf)))] [(cI, .int), (cZ, .boolean)] sz)) (va_Qv (fun (u : Int32) => db_lrn ch u Zs On v (db_F 8 (Nf v) (Zs x) (On x) (Zs y) (On y) (Zs v) (On v)).1 (db_F 8 (Nf v) (Zs x) (On x) (Zs y) (On y) (Zs v) (On v)).2) (fun u t => dw_post (dC, dI) vwCl [(f0, .inr (2, [.ref aZ, .ref aO, .int (u)])), (aZ, .inl (cI, 24, .inl (upd Zs v (db_F 8 (Nf v) (Zs x) (On x) (Zs y) (On y) (Zs v) (On v)).1))), (aO, .inl (cI, 24, .inl (upd On v (db_F 8 (Nf v) (Zs x) (On x) (Zs y) (On y) (Zs v) (On v)).2))), (u0, .inr (1, [.ref aK, .ref aX, .ref aY, .ref aN, .ref aV, .ref aM, .int (nI (n)), .int (nI (R))])), (aK, .inl (cI, 24, .inl (Kf))), (aX, .inl (cI, 24, .inl (Xf))), (aY, .inl (cI, 24, .inl (Yf))), (aN, .inl (cI, 24, .inl (Nf)))] [(cI, .int), (cZ, .boolean)] (va_A [(f0, .inr (2, [.ref aZ, .ref aO, .int (ch)])), (aZ, .inl (cI, 24, .inl (Zs))), (aO, .inl (cI, 24, .inl (On))), (u0, .inr (1, [.ref aK, .ref aX, .ref aY, .ref aN, .ref aV, .ref aM, .int (nI (n)), .int (nI (R))])), (aK, .inl (cI, 24, .inl (Kf))), (aX, .inl (cI, 24, .inl (Xf))), (aY, .inl (cI, 24, .inl (Yf))), (aN, .inl (cI, 24, .inl (Nf)))] sz) t) (va_A [(f0, .inr (2, [.ref aZ, .ref aO, .int (ch)])), (aZ, .inl (cI, 24, .inl (Zs))), (aO, .inl (cI, 24, .inl (On))), (u0, .inr (1, [.ref aK, .ref aX, .ref aY, .ref aN, .ref aV, .ref aM, .int (nI (n)), .int (nI (R))])), (aK, .inl (cI, 24, .inl (Kf))), (aX, .inl (cI, 24, .inl (Xf))), (aY, .inl (cI, 24, .inl (Yf))), (aN, .inl (cI, 24, .inl (Nf)))] sz)) 0 0 (va_A [(f0, .inr (2, [.ref aZ, .ref aO, .int (ch)])), (aZ, .inl (cI, 24, .inl (Zs))), (aO, .inl (cI, 24, .inl (On))), (u0, .inr (1, [.ref aK, .ref aX, .ref aY, .ref aN, .ref aV, .ref aM, .int (nI (n)), .int (nI (R))])), (aK, .inl (cI, 24, .inl (Kf))), (aX, .inl (cI, 24, .inl (Xf))), (aY, .inl (cI, 24, .inl (Yf))), (aN, .inl (cI, 24, .inl (Nf)))] sz) := by
  refine Met.ofW (cc := cF_workOut) (maxL := 6) (ret := none) (by decide) rfl ?_
  intro p e s m args below meth c s₁ B hml hv0
  have hx := B.exec
  have hb := B.bytes
  have hr := B.returns
  have hts := atoms_spec (ws := wsF_workOut) B.pre
  have hown : s.vm.findClass RF = some m.cls := findClass_of_methodNamed B.named
  have hlocks := B.notSynchronized
  obtain ⟨rfl, hsz, hG⟩ := dw_enter hv0
  generalize va_A [(f0, .inr (2, [.ref aZ, .ref aO, .int (ch)])), (aZ, .inl (cI, 24, .inl (Zs))), (aO, .inl (cI, 24, .inl (On))), (u0, .inr (1, [.ref aK, .ref aX, .ref aY, .ref aN, .ref aV, .ref aM, .int (nI (n)), .int (nI (R))])), (aK, .inl (cI, 24, .inl (Kf))), (aX, .inl (cI, 24, .inl (Xf))), (aY, .inl (cI, 24, .inl (Yf))), (aN, .inl (cI, 24, .inl (Nf)))] sz = A at hG ⊢
  have hl := lv_entry ([.ref f0, .ref u0, .int (nI (v))]) (n := 6) (Nat.le_of_ble_eq_true rfl)
  rw [lg_entry_eq]
  generalize (lg_sl ([.ref f0, .ref u0, .int (nI (v))]) ++ List.replicate (6 - (lg_sl ([.ref f0, .ref u0, .int (nI (v))])).length) Slot.unset).toArray = ls at hl ⊢
  have hl : lv_has ls 6 [(0, .ref f0), (1, .ref u0), (2, .int (nI (v)))] := hl
  have hw37 := hts _ (List.mem_cons_of_mem _ tw_37)
  have hw43 := hts _ (List.mem_cons_of_mem _ tw_43)
  have hw48 := hts _ (List.mem_cons_of_mem _ tw_48)
  have hw32 := hts _ (List.mem_cons_of_mem _ tw_32)
  refine dw_Q (fun Q hQ => ?_)
  suffices hgo : ∀ (H : Heap) (locs : List Loc), dw_G (dC, dI) vwCl [(cI, .int), (cZ, .boolean)] A s.heap s [(f0, .inr (2, [.ref aZ, .ref aO, .int (ch)])), (aZ, .inl (cI, 24, .inl (Zs))), (aO, .inl (cI, 24, .inl (On))), (u0, .inr (1, [.ref aK, .ref aX, .ref aY, .ref aN, .ref aV, .ref aM, .int (nI (n)), .int (nI (R))])), (aK, .inl (cI, 24, .inl (Kf))), (aX, .inl (cI, 24, .inl (Xf))), (aY, .inl (cI, 24, .inl (Yf))), (aN, .inl (cI, 24, .inl (Nf)))] H locs → W p l e (headSpec wsF_workOut { frames := 2, cells := 0, slots := 0, locals := 60 }).room s m [.ref f0, .ref u0, .int (nI (v))].toArray below meth c H locs 0 0 Q (F0 m 0 ls []) from hgo _ _ hG
  clear hG
  intro H locs hG
  refine lv_aload_n hx hb dF_workOut_0 rfl (lv_at hl 1 rfl) ?_
  refine dw_get hx hb hts inUc hown hG 3 1 rfl rfl (by decide) hw37 rfl rfl dF_workOut_1 ?_
  refine lv_iload_n hx hb dF_workOut_4 rfl (lv_at hl 2 rfl) ?_
  refine dw_ia (x := nI (x)) hx hb hG 5 0 rfl rfl (v) rfl (by omega) (by decide) ex dF_workOut_5 ?_
  refine lv_istore_n (lv' := [(3, .int (nI (x))), (0, .ref f0), (1, .ref u0), (2, .int (nI (v)))]) hx hb dF_workOut_6 rfl hl (by decide) rfl (fun ls hl => ?_)
  refine lv_aload_n hx hb dF_workOut_7 rfl (lv_at hl 2 rfl) ?_
  refine dw_get hx hb hts inUc hown hG 3 2 rfl rfl (by decide) hw43 rfl rfl dF_workOut_8 ?_
  refine lv_iload_n hx hb dF_workOut_11 rfl (lv_at hl 3 rfl) ?_
  refine dw_ia (x := nI (y)) hx hb hG 6 0 rfl rfl (v) rfl (by omega) (by decide) ey dF_workOut_12 ?_
  refine lv_istore (lv' := [(4, .int (nI (y))), (3, .int (nI (x))), (0, .ref f0), (1, .ref u0), (2, .int (nI (v)))]) hx hb dF_workOut_13 hl (by decide) rfl (fun ls hl => ?_)
  refine lv_aload_n hx hb dF_workOut_15 rfl (lv_at hl 3 rfl) ?_
  refine dw_get hx hb hts inUc hown hG 3 3 rfl rfl (by decide) hw48 rfl rfl dF_workOut_16 ?_
  refine lv_iload_n hx hb dF_workOut_19 rfl (lv_at hl 4 rfl) ?_
  refine dw_ia (x := (Nf) (v)) hx hb hG 7 0 rfl rfl (v) rfl (by omega) (by decide) rfl dF_workOut_20 ?_
  refine lv_istore (lv' := [(5, .int ((Nf) (v))), (4, .int (nI (y))), (3, .int (nI (x))), (0, .ref f0), (1, .ref u0), (2, .int (nI (v)))]) hx hb dF_workOut_21 hl (by decide) rfl (fun ls hl => ?_)
  refine lv_aload_n hx hb dF_workOut_23 rfl (lv_at hl 4 rfl) ?_
  refine dw_get hx hb hts inUc hown hG 3 0 rfl rfl (by decide) hw32 rfl rfl dF_workOut_24 ?_
  refine lv_iload_n hx hb dF_workOut_27 rfl (lv_at hl 5 rfl) ?_
  refine dw_ia (x := 8) hx hb hG 4 0 rfl rfl (v) rfl (by omega) (by decide) ek dF_workOut_28 ?_
  refine lv_tableIn (tgt := 361) hx hb dF_workOut_29 (by decide) (by decide) rfl (by decide) ?_
  refine lv_aload_n hx hb dF_workOut_361 rfl (lv_at hl 3 rfl) ?_
  refine lv_aload_n hx hb dF_workOut_362 rfl (lv_at hl 4 rfl) ?_
  refine dw_get hx hb hts inUc hown hG 3 0 rfl rfl (by decide) hw32 rfl rfl dF_workOut_363 ?_
  refine lv_iload_n hx hb dF_workOut_366 rfl (lv_at hl 5 rfl) ?_
  refine dw_ia (x := 8) hx hb hG 4 0 rfl rfl (v) rfl (by omega) (by decide) ek dF_workOut_367 ?_
  refine lv_iload_n hx hb dF_workOut_368 rfl (lv_at hl 5 rfl) ?_
  refine lv_iload_n hx hb dF_workOut_369 rfl (lv_at hl 2 rfl) ?_
  refine lv_iload hx hb dF_workOut_370 (lv_at hl 0 rfl) ?_
  refine dw_callv (wc := [(f0, .inr (2, [.ref aZ, .ref aO, .int (ch)])), (aZ, .inl (cI, 24, .inl (Zs))), (aO, .inl (cI, 24, .inl (On)))]) (wr := [(u0, .inr (1, [.ref aK, .ref aX, .ref aY, .ref aN, .ref aV, .ref aM, .int (nI (n)), .int (nI (R))])), (aK, .inl (cI, 24, .inl (Kf))), (aX, .inl (cI, 24, .inl (Xf))), (aY, .inl (cI, 24, .inl (Yf))), (aN, .inl (cI, 24, .inl (Nf)))]) hG [0, 1, 2] [3, 4, 5, 6, 7] rfl rfl (by decide) (by decide) (va_runV (As := [.int (8), .int (nI (v)), .int (nI (x)), .int ((Nf) (v))]) (rest := []) ⟨hx, hb, hml, hown, hts⟩ (cf_moved8 l dC dI cI cZ f0 aZ aO ch Zs On v x (Nf v) (Zs y) (On y) (Zs v) (On v) H.size hv hx9) (dc_V 4 hts tw_208 tw_210 tp_F_workOutMoved tw_3 tw_211 rfl rfl (by decide +kernel) ⟨Nat.le_of_ble_eq_true rfl, Nat.le_of_ble_eq_true rfl⟩) (dw_preV (ci := 2) hG [0, 1, 2] [0, 1] rfl rfl (by decide) rfl rfl (q0 := 0) rfl) rfl rfl hl.1 rfl (lv_room (Nat.le_of_ble_eq_true rfl)) dF_workOut_372 ⟨Nat.le_refl _, Nat.le_refl _⟩) (fun u H locs hp hG => ?_)
  have hG : dw_G (dC, dI) vwCl [(cI, .int), (cZ, .boolean)] A s.heap s [(u0, .inr (1, [.ref aK, .ref aX, .ref aY, .ref aN, .ref aV, .ref aM, .int (nI (n)), .int (nI (R))])), (aK, .inl (cI, 24, .inl (Kf))), (aX, .inl (cI, 24, .inl (Xf))), (aY, .inl (cI, 24, .inl (Yf))), (aN, .inl (cI, 24, .inl (Nf))), (f0, .inr (2, [.ref aZ, .ref aO, .int (u)])), (aZ, .inl (cI, 24, .inl (upd Zs v (db_F 8 (Nf v) (Zs x) (On x) (Zs y) (On y) (Zs v) (On v)).1))), (aO, .inl (cI, 24, .inl (upd On v (db_F 8 (Nf v) (Zs x) (On x) (Zs y) (On y) (Zs v) (On v)).2)))] H locs := hG
  subst hQ
  exact dw_vret hx hb hr (dw_perm hG [5, 6, 7, 0, 1, 2, 3, 4] (by decide) rfl rfl) (u) rfl hp dF_workOut_375 hlocks

set_option maxRecDepth 100000 in
set_option maxHeartbeats 4000000 in
theorem cf_work9 (l : Launch) (dC : Nat → ClassId) (dI : Nat → Nat → Nat) (cI cZ : ClassId) (f0 aZ aO : Nat) (ch : Int32) (Zs On : Nat → Int32) (u0 aK aX aY aN aV aM n R : Nat) (Kf Xf Yf Nf : Nat → Int32) (v x y : Nat) (sz : Nat) (hv : v < 24) (hx9 : x < 24) (hy9 : y < 24) (ex : Xf v = nI x) (ey : Yf v = nI y) (ek : Kf v = nI 9) : Met l yF_workOut wsF_workOut { frames := 2, cells := 0, slots := 0, locals := 60 } (va_Pc [.ref f0, .ref u0, .int (nI (v))] (dw_pre (dC, dI) vwCl [(f0, .inr (2, [.ref aZ, .ref aO, .int (ch)])), (aZ, .inl (cI, 24, .inl (Zs))), (aO, .inl (cI, 24, .inl (On))), (u0, .inr (1, [.ref aK, .ref aX, .ref aY, .ref aN, .ref aV, .ref aM, .int (nI (n)), .int (nI (R))])), (aK, .inl (cI, 24, .inl (Kf))), (aX, .inl (cI, 24, .inl (Xf))), (aY, .inl (cI, 24, .inl (Yf))), (aN, .inl (cI, 24, .inl (Nf)))] [(cI, .int), (cZ, .boolean)] sz)) (va_Qv (fun (u : Int32) => db_lrn ch u Zs On v (db_F 9 (Nf v) (Zs x) (On x) (Zs y) (On y) (Zs v) (On v)).1 (db_F 9 (Nf v) (Zs x) (On x) (Zs y) (On y) (Zs v) (On v)).2) (fun u t => dw_post (dC, dI) vwCl [(f0, .inr (2, [.ref aZ, .ref aO, .int (u)])), (aZ, .inl (cI, 24, .inl (upd Zs v (db_F 9 (Nf v) (Zs x) (On x) (Zs y) (On y) (Zs v) (On v)).1))), (aO, .inl (cI, 24, .inl (upd On v (db_F 9 (Nf v) (Zs x) (On x) (Zs y) (On y) (Zs v) (On v)).2))), (u0, .inr (1, [.ref aK, .ref aX, .ref aY, .ref aN, .ref aV, .ref aM, .int (nI (n)), .int (nI (R))])), (aK, .inl (cI, 24, .inl (Kf))), (aX, .inl (cI, 24, .inl (Xf))), (aY, .inl (cI, 24, .inl (Yf))), (aN, .inl (cI, 24, .inl (Nf)))] [(cI, .int), (cZ, .boolean)] (va_A [(f0, .inr (2, [.ref aZ, .ref aO, .int (ch)])), (aZ, .inl (cI, 24, .inl (Zs))), (aO, .inl (cI, 24, .inl (On))), (u0, .inr (1, [.ref aK, .ref aX, .ref aY, .ref aN, .ref aV, .ref aM, .int (nI (n)), .int (nI (R))])), (aK, .inl (cI, 24, .inl (Kf))), (aX, .inl (cI, 24, .inl (Xf))), (aY, .inl (cI, 24, .inl (Yf))), (aN, .inl (cI, 24, .inl (Nf)))] sz) t) (va_A [(f0, .inr (2, [.ref aZ, .ref aO, .int (ch)])), (aZ, .inl (cI, 24, .inl (Zs))), (aO, .inl (cI, 24, .inl (On))), (u0, .inr (1, [.ref aK, .ref aX, .ref aY, .ref aN, .ref aV, .ref aM, .int (nI (n)), .int (nI (R))])), (aK, .inl (cI, 24, .inl (Kf))), (aX, .inl (cI, 24, .inl (Xf))), (aY, .inl (cI, 24, .inl (Yf))), (aN, .inl (cI, 24, .inl (Nf)))] sz)) 0 0 (va_A [(f0, .inr (2, [.ref aZ, .ref aO, .int (ch)])), (aZ, .inl (cI, 24, .inl (Zs))), (aO, .inl (cI, 24, .inl (On))), (u0, .inr (1, [.ref aK, .ref aX, .ref aY, .ref aN, .ref aV, .ref aM, .int (nI (n)), .int (nI (R))])), (aK, .inl (cI, 24, .inl (Kf))), (aX, .inl (cI, 24, .inl (Xf))), (aY, .inl (cI, 24, .inl (Yf))), (aN, .inl (cI, 24, .inl (Nf)))] sz) := by
  refine Met.ofW (cc := cF_workOut) (maxL := 6) (ret := none) (by decide) rfl ?_
  intro p e s m args below meth c s₁ B hml hv0
  have hx := B.exec
  have hb := B.bytes
  have hr := B.returns
  have hts := atoms_spec (ws := wsF_workOut) B.pre
  have hown : s.vm.findClass RF = some m.cls := findClass_of_methodNamed B.named
  have hlocks := B.notSynchronized
  obtain ⟨rfl, hsz, hG⟩ := dw_enter hv0
  generalize va_A [(f0, .inr (2, [.ref aZ, .ref aO, .int (ch)])), (aZ, .inl (cI, 24, .inl (Zs))), (aO, .inl (cI, 24, .inl (On))), (u0, .inr (1, [.ref aK, .ref aX, .ref aY, .ref aN, .ref aV, .ref aM, .int (nI (n)), .int (nI (R))])), (aK, .inl (cI, 24, .inl (Kf))), (aX, .inl (cI, 24, .inl (Xf))), (aY, .inl (cI, 24, .inl (Yf))), (aN, .inl (cI, 24, .inl (Nf)))] sz = A at hG ⊢
  have hl := lv_entry ([.ref f0, .ref u0, .int (nI (v))]) (n := 6) (Nat.le_of_ble_eq_true rfl)
  rw [lg_entry_eq]
  generalize (lg_sl ([.ref f0, .ref u0, .int (nI (v))]) ++ List.replicate (6 - (lg_sl ([.ref f0, .ref u0, .int (nI (v))])).length) Slot.unset).toArray = ls at hl ⊢
  have hl : lv_has ls 6 [(0, .ref f0), (1, .ref u0), (2, .int (nI (v)))] := hl
  have hw37 := hts _ (List.mem_cons_of_mem _ tw_37)
  have hw43 := hts _ (List.mem_cons_of_mem _ tw_43)
  have hw48 := hts _ (List.mem_cons_of_mem _ tw_48)
  have hw32 := hts _ (List.mem_cons_of_mem _ tw_32)
  refine dw_Q (fun Q hQ => ?_)
  suffices hgo : ∀ (H : Heap) (locs : List Loc), dw_G (dC, dI) vwCl [(cI, .int), (cZ, .boolean)] A s.heap s [(f0, .inr (2, [.ref aZ, .ref aO, .int (ch)])), (aZ, .inl (cI, 24, .inl (Zs))), (aO, .inl (cI, 24, .inl (On))), (u0, .inr (1, [.ref aK, .ref aX, .ref aY, .ref aN, .ref aV, .ref aM, .int (nI (n)), .int (nI (R))])), (aK, .inl (cI, 24, .inl (Kf))), (aX, .inl (cI, 24, .inl (Xf))), (aY, .inl (cI, 24, .inl (Yf))), (aN, .inl (cI, 24, .inl (Nf)))] H locs → W p l e (headSpec wsF_workOut { frames := 2, cells := 0, slots := 0, locals := 60 }).room s m [.ref f0, .ref u0, .int (nI (v))].toArray below meth c H locs 0 0 Q (F0 m 0 ls []) from hgo _ _ hG
  clear hG
  intro H locs hG
  refine lv_aload_n hx hb dF_workOut_0 rfl (lv_at hl 1 rfl) ?_
  refine dw_get hx hb hts inUc hown hG 3 1 rfl rfl (by decide) hw37 rfl rfl dF_workOut_1 ?_
  refine lv_iload_n hx hb dF_workOut_4 rfl (lv_at hl 2 rfl) ?_
  refine dw_ia (x := nI (x)) hx hb hG 5 0 rfl rfl (v) rfl (by omega) (by decide) ex dF_workOut_5 ?_
  refine lv_istore_n (lv' := [(3, .int (nI (x))), (0, .ref f0), (1, .ref u0), (2, .int (nI (v)))]) hx hb dF_workOut_6 rfl hl (by decide) rfl (fun ls hl => ?_)
  refine lv_aload_n hx hb dF_workOut_7 rfl (lv_at hl 2 rfl) ?_
  refine dw_get hx hb hts inUc hown hG 3 2 rfl rfl (by decide) hw43 rfl rfl dF_workOut_8 ?_
  refine lv_iload_n hx hb dF_workOut_11 rfl (lv_at hl 3 rfl) ?_
  refine dw_ia (x := nI (y)) hx hb hG 6 0 rfl rfl (v) rfl (by omega) (by decide) ey dF_workOut_12 ?_
  refine lv_istore (lv' := [(4, .int (nI (y))), (3, .int (nI (x))), (0, .ref f0), (1, .ref u0), (2, .int (nI (v)))]) hx hb dF_workOut_13 hl (by decide) rfl (fun ls hl => ?_)
  refine lv_aload_n hx hb dF_workOut_15 rfl (lv_at hl 3 rfl) ?_
  refine dw_get hx hb hts inUc hown hG 3 3 rfl rfl (by decide) hw48 rfl rfl dF_workOut_16 ?_
  refine lv_iload_n hx hb dF_workOut_19 rfl (lv_at hl 4 rfl) ?_
  refine dw_ia (x := (Nf) (v)) hx hb hG 7 0 rfl rfl (v) rfl (by omega) (by decide) rfl dF_workOut_20 ?_
  refine lv_istore (lv' := [(5, .int ((Nf) (v))), (4, .int (nI (y))), (3, .int (nI (x))), (0, .ref f0), (1, .ref u0), (2, .int (nI (v)))]) hx hb dF_workOut_21 hl (by decide) rfl (fun ls hl => ?_)
  refine lv_aload_n hx hb dF_workOut_23 rfl (lv_at hl 4 rfl) ?_
  refine dw_get hx hb hts inUc hown hG 3 0 rfl rfl (by decide) hw32 rfl rfl dF_workOut_24 ?_
  refine lv_iload_n hx hb dF_workOut_27 rfl (lv_at hl 5 rfl) ?_
  refine dw_ia (x := 9) hx hb hG 4 0 rfl rfl (v) rfl (by omega) (by decide) ek dF_workOut_28 ?_
  refine lv_tableIn (tgt := 361) hx hb dF_workOut_29 (by decide) (by decide) rfl (by decide) ?_
  refine lv_aload_n hx hb dF_workOut_361 rfl (lv_at hl 3 rfl) ?_
  refine lv_aload_n hx hb dF_workOut_362 rfl (lv_at hl 4 rfl) ?_
  refine dw_get hx hb hts inUc hown hG 3 0 rfl rfl (by decide) hw32 rfl rfl dF_workOut_363 ?_
  refine lv_iload_n hx hb dF_workOut_366 rfl (lv_at hl 5 rfl) ?_
  refine dw_ia (x := 9) hx hb hG 4 0 rfl rfl (v) rfl (by omega) (by decide) ek dF_workOut_367 ?_
  refine lv_iload_n hx hb dF_workOut_368 rfl (lv_at hl 5 rfl) ?_
  refine lv_iload_n hx hb dF_workOut_369 rfl (lv_at hl 2 rfl) ?_
  refine lv_iload hx hb dF_workOut_370 (lv_at hl 0 rfl) ?_
  refine dw_callv (wc := [(f0, .inr (2, [.ref aZ, .ref aO, .int (ch)])), (aZ, .inl (cI, 24, .inl (Zs))), (aO, .inl (cI, 24, .inl (On)))]) (wr := [(u0, .inr (1, [.ref aK, .ref aX, .ref aY, .ref aN, .ref aV, .ref aM, .int (nI (n)), .int (nI (R))])), (aK, .inl (cI, 24, .inl (Kf))), (aX, .inl (cI, 24, .inl (Xf))), (aY, .inl (cI, 24, .inl (Yf))), (aN, .inl (cI, 24, .inl (Nf)))]) hG [0, 1, 2] [3, 4, 5, 6, 7] rfl rfl (by decide) (by decide) (va_runV (As := [.int (9), .int (nI (v)), .int (nI (x)), .int ((Nf) (v))]) (rest := []) ⟨hx, hb, hml, hown, hts⟩ (cf_moved9 l dC dI cI cZ f0 aZ aO ch Zs On v x (Nf v) (Zs y) (On y) (Zs v) (On v) H.size hv hx9) (dc_V 4 hts tw_208 tw_210 tp_F_workOutMoved tw_3 tw_211 rfl rfl (by decide +kernel) ⟨Nat.le_of_ble_eq_true rfl, Nat.le_of_ble_eq_true rfl⟩) (dw_preV (ci := 2) hG [0, 1, 2] [0, 1] rfl rfl (by decide) rfl rfl (q0 := 0) rfl) rfl rfl hl.1 rfl (lv_room (Nat.le_of_ble_eq_true rfl)) dF_workOut_372 ⟨Nat.le_refl _, Nat.le_refl _⟩) (fun u H locs hp hG => ?_)
  have hG : dw_G (dC, dI) vwCl [(cI, .int), (cZ, .boolean)] A s.heap s [(u0, .inr (1, [.ref aK, .ref aX, .ref aY, .ref aN, .ref aV, .ref aM, .int (nI (n)), .int (nI (R))])), (aK, .inl (cI, 24, .inl (Kf))), (aX, .inl (cI, 24, .inl (Xf))), (aY, .inl (cI, 24, .inl (Yf))), (aN, .inl (cI, 24, .inl (Nf))), (f0, .inr (2, [.ref aZ, .ref aO, .int (u)])), (aZ, .inl (cI, 24, .inl (upd Zs v (db_F 9 (Nf v) (Zs x) (On x) (Zs y) (On y) (Zs v) (On v)).1))), (aO, .inl (cI, 24, .inl (upd On v (db_F 9 (Nf v) (Zs x) (On x) (Zs y) (On y) (Zs v) (On v)).2)))] H locs := hG
  subst hQ
  exact dw_vret hx hb hr (dw_perm hG [5, 6, 7, 0, 1, 2, 3, 4] (by decide) rfl rfl) (u) rfl hp dF_workOut_375 hlocks

set_option maxRecDepth 100000 in
set_option maxHeartbeats 4000000 in
theorem cf_work10 (l : Launch) (dC : Nat → ClassId) (dI : Nat → Nat → Nat) (cI cZ : ClassId) (f0 aZ aO : Nat) (ch : Int32) (Zs On : Nat → Int32) (u0 aK aX aY aN aV aM n R : Nat) (Kf Xf Yf Nf : Nat → Int32) (v x y : Nat) (sz : Nat) (hv : v < 24) (hx9 : x < 24) (hy9 : y < 24) (ex : Xf v = nI x) (ey : Yf v = nI y) (ek : Kf v = nI 10) : Met l yF_workOut wsF_workOut { frames := 2, cells := 0, slots := 0, locals := 60 } (va_Pc [.ref f0, .ref u0, .int (nI (v))] (dw_pre (dC, dI) vwCl [(f0, .inr (2, [.ref aZ, .ref aO, .int (ch)])), (aZ, .inl (cI, 24, .inl (Zs))), (aO, .inl (cI, 24, .inl (On))), (u0, .inr (1, [.ref aK, .ref aX, .ref aY, .ref aN, .ref aV, .ref aM, .int (nI (n)), .int (nI (R))])), (aK, .inl (cI, 24, .inl (Kf))), (aX, .inl (cI, 24, .inl (Xf))), (aY, .inl (cI, 24, .inl (Yf))), (aN, .inl (cI, 24, .inl (Nf)))] [(cI, .int), (cZ, .boolean)] sz)) (va_Qv (fun (u : Int32) => db_lrn ch u Zs On v (db_F 10 (Nf v) (Zs x) (On x) (Zs y) (On y) (Zs v) (On v)).1 (db_F 10 (Nf v) (Zs x) (On x) (Zs y) (On y) (Zs v) (On v)).2) (fun u t => dw_post (dC, dI) vwCl [(f0, .inr (2, [.ref aZ, .ref aO, .int (u)])), (aZ, .inl (cI, 24, .inl (upd Zs v (db_F 10 (Nf v) (Zs x) (On x) (Zs y) (On y) (Zs v) (On v)).1))), (aO, .inl (cI, 24, .inl (upd On v (db_F 10 (Nf v) (Zs x) (On x) (Zs y) (On y) (Zs v) (On v)).2))), (u0, .inr (1, [.ref aK, .ref aX, .ref aY, .ref aN, .ref aV, .ref aM, .int (nI (n)), .int (nI (R))])), (aK, .inl (cI, 24, .inl (Kf))), (aX, .inl (cI, 24, .inl (Xf))), (aY, .inl (cI, 24, .inl (Yf))), (aN, .inl (cI, 24, .inl (Nf)))] [(cI, .int), (cZ, .boolean)] (va_A [(f0, .inr (2, [.ref aZ, .ref aO, .int (ch)])), (aZ, .inl (cI, 24, .inl (Zs))), (aO, .inl (cI, 24, .inl (On))), (u0, .inr (1, [.ref aK, .ref aX, .ref aY, .ref aN, .ref aV, .ref aM, .int (nI (n)), .int (nI (R))])), (aK, .inl (cI, 24, .inl (Kf))), (aX, .inl (cI, 24, .inl (Xf))), (aY, .inl (cI, 24, .inl (Yf))), (aN, .inl (cI, 24, .inl (Nf)))] sz) t) (va_A [(f0, .inr (2, [.ref aZ, .ref aO, .int (ch)])), (aZ, .inl (cI, 24, .inl (Zs))), (aO, .inl (cI, 24, .inl (On))), (u0, .inr (1, [.ref aK, .ref aX, .ref aY, .ref aN, .ref aV, .ref aM, .int (nI (n)), .int (nI (R))])), (aK, .inl (cI, 24, .inl (Kf))), (aX, .inl (cI, 24, .inl (Xf))), (aY, .inl (cI, 24, .inl (Yf))), (aN, .inl (cI, 24, .inl (Nf)))] sz)) 0 0 (va_A [(f0, .inr (2, [.ref aZ, .ref aO, .int (ch)])), (aZ, .inl (cI, 24, .inl (Zs))), (aO, .inl (cI, 24, .inl (On))), (u0, .inr (1, [.ref aK, .ref aX, .ref aY, .ref aN, .ref aV, .ref aM, .int (nI (n)), .int (nI (R))])), (aK, .inl (cI, 24, .inl (Kf))), (aX, .inl (cI, 24, .inl (Xf))), (aY, .inl (cI, 24, .inl (Yf))), (aN, .inl (cI, 24, .inl (Nf)))] sz) := by
  refine Met.ofW (cc := cF_workOut) (maxL := 6) (ret := none) (by decide) rfl ?_
  intro p e s m args below meth c s₁ B hml hv0
  have hx := B.exec
  have hb := B.bytes
  have hr := B.returns
  have hts := atoms_spec (ws := wsF_workOut) B.pre
  have hown : s.vm.findClass RF = some m.cls := findClass_of_methodNamed B.named
  have hlocks := B.notSynchronized
  obtain ⟨rfl, hsz, hG⟩ := dw_enter hv0
  generalize va_A [(f0, .inr (2, [.ref aZ, .ref aO, .int (ch)])), (aZ, .inl (cI, 24, .inl (Zs))), (aO, .inl (cI, 24, .inl (On))), (u0, .inr (1, [.ref aK, .ref aX, .ref aY, .ref aN, .ref aV, .ref aM, .int (nI (n)), .int (nI (R))])), (aK, .inl (cI, 24, .inl (Kf))), (aX, .inl (cI, 24, .inl (Xf))), (aY, .inl (cI, 24, .inl (Yf))), (aN, .inl (cI, 24, .inl (Nf)))] sz = A at hG ⊢
  have hl := lv_entry ([.ref f0, .ref u0, .int (nI (v))]) (n := 6) (Nat.le_of_ble_eq_true rfl)
  rw [lg_entry_eq]
  generalize (lg_sl ([.ref f0, .ref u0, .int (nI (v))]) ++ List.replicate (6 - (lg_sl ([.ref f0, .ref u0, .int (nI (v))])).length) Slot.unset).toArray = ls at hl ⊢
  have hl : lv_has ls 6 [(0, .ref f0), (1, .ref u0), (2, .int (nI (v)))] := hl
  have hw37 := hts _ (List.mem_cons_of_mem _ tw_37)
  have hw43 := hts _ (List.mem_cons_of_mem _ tw_43)
  have hw48 := hts _ (List.mem_cons_of_mem _ tw_48)
  have hw32 := hts _ (List.mem_cons_of_mem _ tw_32)
  refine dw_Q (fun Q hQ => ?_)
  suffices hgo : ∀ (H : Heap) (locs : List Loc), dw_G (dC, dI) vwCl [(cI, .int), (cZ, .boolean)] A s.heap s [(f0, .inr (2, [.ref aZ, .ref aO, .int (ch)])), (aZ, .inl (cI, 24, .inl (Zs))), (aO, .inl (cI, 24, .inl (On))), (u0, .inr (1, [.ref aK, .ref aX, .ref aY, .ref aN, .ref aV, .ref aM, .int (nI (n)), .int (nI (R))])), (aK, .inl (cI, 24, .inl (Kf))), (aX, .inl (cI, 24, .inl (Xf))), (aY, .inl (cI, 24, .inl (Yf))), (aN, .inl (cI, 24, .inl (Nf)))] H locs → W p l e (headSpec wsF_workOut { frames := 2, cells := 0, slots := 0, locals := 60 }).room s m [.ref f0, .ref u0, .int (nI (v))].toArray below meth c H locs 0 0 Q (F0 m 0 ls []) from hgo _ _ hG
  clear hG
  intro H locs hG
  refine lv_aload_n hx hb dF_workOut_0 rfl (lv_at hl 1 rfl) ?_
  refine dw_get hx hb hts inUc hown hG 3 1 rfl rfl (by decide) hw37 rfl rfl dF_workOut_1 ?_
  refine lv_iload_n hx hb dF_workOut_4 rfl (lv_at hl 2 rfl) ?_
  refine dw_ia (x := nI (x)) hx hb hG 5 0 rfl rfl (v) rfl (by omega) (by decide) ex dF_workOut_5 ?_
  refine lv_istore_n (lv' := [(3, .int (nI (x))), (0, .ref f0), (1, .ref u0), (2, .int (nI (v)))]) hx hb dF_workOut_6 rfl hl (by decide) rfl (fun ls hl => ?_)
  refine lv_aload_n hx hb dF_workOut_7 rfl (lv_at hl 2 rfl) ?_
  refine dw_get hx hb hts inUc hown hG 3 2 rfl rfl (by decide) hw43 rfl rfl dF_workOut_8 ?_
  refine lv_iload_n hx hb dF_workOut_11 rfl (lv_at hl 3 rfl) ?_
  refine dw_ia (x := nI (y)) hx hb hG 6 0 rfl rfl (v) rfl (by omega) (by decide) ey dF_workOut_12 ?_
  refine lv_istore (lv' := [(4, .int (nI (y))), (3, .int (nI (x))), (0, .ref f0), (1, .ref u0), (2, .int (nI (v)))]) hx hb dF_workOut_13 hl (by decide) rfl (fun ls hl => ?_)
  refine lv_aload_n hx hb dF_workOut_15 rfl (lv_at hl 3 rfl) ?_
  refine dw_get hx hb hts inUc hown hG 3 3 rfl rfl (by decide) hw48 rfl rfl dF_workOut_16 ?_
  refine lv_iload_n hx hb dF_workOut_19 rfl (lv_at hl 4 rfl) ?_
  refine dw_ia (x := (Nf) (v)) hx hb hG 7 0 rfl rfl (v) rfl (by omega) (by decide) rfl dF_workOut_20 ?_
  refine lv_istore (lv' := [(5, .int ((Nf) (v))), (4, .int (nI (y))), (3, .int (nI (x))), (0, .ref f0), (1, .ref u0), (2, .int (nI (v)))]) hx hb dF_workOut_21 hl (by decide) rfl (fun ls hl => ?_)
  refine lv_aload_n hx hb dF_workOut_23 rfl (lv_at hl 4 rfl) ?_
  refine dw_get hx hb hts inUc hown hG 3 0 rfl rfl (by decide) hw32 rfl rfl dF_workOut_24 ?_
  refine lv_iload_n hx hb dF_workOut_27 rfl (lv_at hl 5 rfl) ?_
  refine dw_ia (x := 10) hx hb hG 4 0 rfl rfl (v) rfl (by omega) (by decide) ek dF_workOut_28 ?_
  refine lv_tableIn (tgt := 100) hx hb dF_workOut_29 (by decide) (by decide) rfl (by decide) ?_
  refine lv_aload_n hx hb dF_workOut_100 rfl (lv_at hl 3 rfl) ?_
  refine lv_iload_n hx hb dF_workOut_101 rfl (lv_at hl 5 rfl) ?_
  refine lv_iload hx hb dF_workOut_102 (lv_at hl 0 rfl) ?_
  refine lv_iconst (v := -1) hx hb dF_workOut_104 (by decide) ?_
  refine lv_ixor hx hb dF_workOut_105 ?_
  refine lv_iload hx hb dF_workOut_106 (lv_at hl 0 rfl) ?_
  refine dw_callv (wc := [(f0, .inr (2, [.ref aZ, .ref aO, .int (ch)])), (aZ, .inl (cI, 24, .inl (Zs))), (aO, .inl (cI, 24, .inl (On)))]) (wr := [(u0, .inr (1, [.ref aK, .ref aX, .ref aY, .ref aN, .ref aV, .ref aM, .int (nI (n)), .int (nI (R))])), (aK, .inl (cI, 24, .inl (Kf))), (aX, .inl (cI, 24, .inl (Xf))), (aY, .inl (cI, 24, .inl (Yf))), (aN, .inl (cI, 24, .inl (Nf)))]) hG [0, 1, 2] [3, 4, 5, 6, 7] rfl rfl (by decide) (by decide) (va_runV (As := [.int (nI (v)), .int (((Nf) (v)) ^^^ (-1)), .int ((Nf) (v))]) (rest := []) ⟨hx, hb, hml, hown, hts⟩ (cf_learn l dC dI cI cZ f0 aZ aO ch Zs On (v) (((Nf) (v)) ^^^ (-1)) ((Nf) (v)) H.size (by omega)) (dc_V 3 hts tw_181 tw_183 tp_F_learn tw_3 tw_184 rfl rfl (by decide +kernel) ⟨Nat.le_of_ble_eq_true rfl, Nat.le_of_ble_eq_true rfl⟩) (dw_preV (ci := 2) hG [0, 1, 2] [0, 1] rfl rfl (by decide) rfl rfl (q0 := 0) rfl) rfl rfl hl.1 rfl (lv_room (Nat.le_of_ble_eq_true rfl)) dF_workOut_108 ⟨Nat.le_refl _, Nat.le_refl _⟩) (fun u H locs hp hG => ?_)
  have hG : dw_G (dC, dI) vwCl [(cI, .int), (cZ, .boolean)] A s.heap s [(u0, .inr (1, [.ref aK, .ref aX, .ref aY, .ref aN, .ref aV, .ref aM, .int (nI (n)), .int (nI (R))])), (aK, .inl (cI, 24, .inl (Kf))), (aX, .inl (cI, 24, .inl (Xf))), (aY, .inl (cI, 24, .inl (Yf))), (aN, .inl (cI, 24, .inl (Nf))), (f0, .inr (2, [.ref aZ, .ref aO, .int (u)])), (aZ, .inl (cI, 24, .inl (upd Zs (v) (((Nf) (v)) ^^^ (-1))))), (aO, .inl (cI, 24, .inl (upd On (v) ((Nf) (v)))))] H locs := hG
  refine lv_goto (tgt := 375) hx hb dF_workOut_111 (by decide) ?_
  subst hQ
  exact dw_vret hx hb hr (dw_perm hG [5, 6, 7, 0, 1, 2, 3, 4] (by decide) rfl rfl) (u) rfl hp dF_workOut_375 hlocks

set_option maxRecDepth 100000 in
set_option maxHeartbeats 4000000 in
theorem cf_work11 (l : Launch) (dC : Nat → ClassId) (dI : Nat → Nat → Nat) (cI cZ : ClassId) (f0 aZ aO : Nat) (ch : Int32) (Zs On : Nat → Int32) (u0 aK aX aY aN aV aM n R : Nat) (Kf Xf Yf Nf : Nat → Int32) (v x y : Nat) (sz : Nat) (hv : v < 24) (hx9 : x < 24) (hy9 : y < 24) (ex : Xf v = nI x) (ey : Yf v = nI y) (ek : Kf v = nI 11) : Met l yF_workOut wsF_workOut { frames := 2, cells := 0, slots := 0, locals := 60 } (va_Pc [.ref f0, .ref u0, .int (nI (v))] (dw_pre (dC, dI) vwCl [(f0, .inr (2, [.ref aZ, .ref aO, .int (ch)])), (aZ, .inl (cI, 24, .inl (Zs))), (aO, .inl (cI, 24, .inl (On))), (u0, .inr (1, [.ref aK, .ref aX, .ref aY, .ref aN, .ref aV, .ref aM, .int (nI (n)), .int (nI (R))])), (aK, .inl (cI, 24, .inl (Kf))), (aX, .inl (cI, 24, .inl (Xf))), (aY, .inl (cI, 24, .inl (Yf))), (aN, .inl (cI, 24, .inl (Nf)))] [(cI, .int), (cZ, .boolean)] sz)) (va_Qv (fun (u : Int32) => db_lrn ch u Zs On v (db_F 11 (Nf v) (Zs x) (On x) (Zs y) (On y) (Zs v) (On v)).1 (db_F 11 (Nf v) (Zs x) (On x) (Zs y) (On y) (Zs v) (On v)).2) (fun u t => dw_post (dC, dI) vwCl [(f0, .inr (2, [.ref aZ, .ref aO, .int (u)])), (aZ, .inl (cI, 24, .inl (upd Zs v (db_F 11 (Nf v) (Zs x) (On x) (Zs y) (On y) (Zs v) (On v)).1))), (aO, .inl (cI, 24, .inl (upd On v (db_F 11 (Nf v) (Zs x) (On x) (Zs y) (On y) (Zs v) (On v)).2))), (u0, .inr (1, [.ref aK, .ref aX, .ref aY, .ref aN, .ref aV, .ref aM, .int (nI (n)), .int (nI (R))])), (aK, .inl (cI, 24, .inl (Kf))), (aX, .inl (cI, 24, .inl (Xf))), (aY, .inl (cI, 24, .inl (Yf))), (aN, .inl (cI, 24, .inl (Nf)))] [(cI, .int), (cZ, .boolean)] (va_A [(f0, .inr (2, [.ref aZ, .ref aO, .int (ch)])), (aZ, .inl (cI, 24, .inl (Zs))), (aO, .inl (cI, 24, .inl (On))), (u0, .inr (1, [.ref aK, .ref aX, .ref aY, .ref aN, .ref aV, .ref aM, .int (nI (n)), .int (nI (R))])), (aK, .inl (cI, 24, .inl (Kf))), (aX, .inl (cI, 24, .inl (Xf))), (aY, .inl (cI, 24, .inl (Yf))), (aN, .inl (cI, 24, .inl (Nf)))] sz) t) (va_A [(f0, .inr (2, [.ref aZ, .ref aO, .int (ch)])), (aZ, .inl (cI, 24, .inl (Zs))), (aO, .inl (cI, 24, .inl (On))), (u0, .inr (1, [.ref aK, .ref aX, .ref aY, .ref aN, .ref aV, .ref aM, .int (nI (n)), .int (nI (R))])), (aK, .inl (cI, 24, .inl (Kf))), (aX, .inl (cI, 24, .inl (Xf))), (aY, .inl (cI, 24, .inl (Yf))), (aN, .inl (cI, 24, .inl (Nf)))] sz)) 0 0 (va_A [(f0, .inr (2, [.ref aZ, .ref aO, .int (ch)])), (aZ, .inl (cI, 24, .inl (Zs))), (aO, .inl (cI, 24, .inl (On))), (u0, .inr (1, [.ref aK, .ref aX, .ref aY, .ref aN, .ref aV, .ref aM, .int (nI (n)), .int (nI (R))])), (aK, .inl (cI, 24, .inl (Kf))), (aX, .inl (cI, 24, .inl (Xf))), (aY, .inl (cI, 24, .inl (Yf))), (aN, .inl (cI, 24, .inl (Nf)))] sz) := by
  refine Met.ofW (cc := cF_workOut) (maxL := 6) (ret := none) (by decide) rfl ?_
  intro p e s m args below meth c s₁ B hml hv0
  have hx := B.exec
  have hb := B.bytes
  have hr := B.returns
  have hts := atoms_spec (ws := wsF_workOut) B.pre
  have hown : s.vm.findClass RF = some m.cls := findClass_of_methodNamed B.named
  have hlocks := B.notSynchronized
  obtain ⟨rfl, hsz, hG⟩ := dw_enter hv0
  generalize va_A [(f0, .inr (2, [.ref aZ, .ref aO, .int (ch)])), (aZ, .inl (cI, 24, .inl (Zs))), (aO, .inl (cI, 24, .inl (On))), (u0, .inr (1, [.ref aK, .ref aX, .ref aY, .ref aN, .ref aV, .ref aM, .int (nI (n)), .int (nI (R))])), (aK, .inl (cI, 24, .inl (Kf))), (aX, .inl (cI, 24, .inl (Xf))), (aY, .inl (cI, 24, .inl (Yf))), (aN, .inl (cI, 24, .inl (Nf)))] sz = A at hG ⊢
  have hl := lv_entry ([.ref f0, .ref u0, .int (nI (v))]) (n := 6) (Nat.le_of_ble_eq_true rfl)
  rw [lg_entry_eq]
  generalize (lg_sl ([.ref f0, .ref u0, .int (nI (v))]) ++ List.replicate (6 - (lg_sl ([.ref f0, .ref u0, .int (nI (v))])).length) Slot.unset).toArray = ls at hl ⊢
  have hl : lv_has ls 6 [(0, .ref f0), (1, .ref u0), (2, .int (nI (v)))] := hl
  have hw37 := hts _ (List.mem_cons_of_mem _ tw_37)
  have hw43 := hts _ (List.mem_cons_of_mem _ tw_43)
  have hw48 := hts _ (List.mem_cons_of_mem _ tw_48)
  have hw32 := hts _ (List.mem_cons_of_mem _ tw_32)
  refine dw_Q (fun Q hQ => ?_)
  suffices hgo : ∀ (H : Heap) (locs : List Loc), dw_G (dC, dI) vwCl [(cI, .int), (cZ, .boolean)] A s.heap s [(f0, .inr (2, [.ref aZ, .ref aO, .int (ch)])), (aZ, .inl (cI, 24, .inl (Zs))), (aO, .inl (cI, 24, .inl (On))), (u0, .inr (1, [.ref aK, .ref aX, .ref aY, .ref aN, .ref aV, .ref aM, .int (nI (n)), .int (nI (R))])), (aK, .inl (cI, 24, .inl (Kf))), (aX, .inl (cI, 24, .inl (Xf))), (aY, .inl (cI, 24, .inl (Yf))), (aN, .inl (cI, 24, .inl (Nf)))] H locs → W p l e (headSpec wsF_workOut { frames := 2, cells := 0, slots := 0, locals := 60 }).room s m [.ref f0, .ref u0, .int (nI (v))].toArray below meth c H locs 0 0 Q (F0 m 0 ls []) from hgo _ _ hG
  clear hG
  intro H locs hG
  refine lv_aload_n hx hb dF_workOut_0 rfl (lv_at hl 1 rfl) ?_
  refine dw_get hx hb hts inUc hown hG 3 1 rfl rfl (by decide) hw37 rfl rfl dF_workOut_1 ?_
  refine lv_iload_n hx hb dF_workOut_4 rfl (lv_at hl 2 rfl) ?_
  refine dw_ia (x := nI (x)) hx hb hG 5 0 rfl rfl (v) rfl (by omega) (by decide) ex dF_workOut_5 ?_
  refine lv_istore_n (lv' := [(3, .int (nI (x))), (0, .ref f0), (1, .ref u0), (2, .int (nI (v)))]) hx hb dF_workOut_6 rfl hl (by decide) rfl (fun ls hl => ?_)
  refine lv_aload_n hx hb dF_workOut_7 rfl (lv_at hl 2 rfl) ?_
  refine dw_get hx hb hts inUc hown hG 3 2 rfl rfl (by decide) hw43 rfl rfl dF_workOut_8 ?_
  refine lv_iload_n hx hb dF_workOut_11 rfl (lv_at hl 3 rfl) ?_
  refine dw_ia (x := nI (y)) hx hb hG 6 0 rfl rfl (v) rfl (by omega) (by decide) ey dF_workOut_12 ?_
  refine lv_istore (lv' := [(4, .int (nI (y))), (3, .int (nI (x))), (0, .ref f0), (1, .ref u0), (2, .int (nI (v)))]) hx hb dF_workOut_13 hl (by decide) rfl (fun ls hl => ?_)
  refine lv_aload_n hx hb dF_workOut_15 rfl (lv_at hl 3 rfl) ?_
  refine dw_get hx hb hts inUc hown hG 3 3 rfl rfl (by decide) hw48 rfl rfl dF_workOut_16 ?_
  refine lv_iload_n hx hb dF_workOut_19 rfl (lv_at hl 4 rfl) ?_
  refine dw_ia (x := (Nf) (v)) hx hb hG 7 0 rfl rfl (v) rfl (by omega) (by decide) rfl dF_workOut_20 ?_
  refine lv_istore (lv' := [(5, .int ((Nf) (v))), (4, .int (nI (y))), (3, .int (nI (x))), (0, .ref f0), (1, .ref u0), (2, .int (nI (v)))]) hx hb dF_workOut_21 hl (by decide) rfl (fun ls hl => ?_)
  refine lv_aload_n hx hb dF_workOut_23 rfl (lv_at hl 4 rfl) ?_
  refine dw_get hx hb hts inUc hown hG 3 0 rfl rfl (by decide) hw32 rfl rfl dF_workOut_24 ?_
  refine lv_iload_n hx hb dF_workOut_27 rfl (lv_at hl 5 rfl) ?_
  refine dw_ia (x := 11) hx hb hG 4 0 rfl rfl (v) rfl (by omega) (by decide) ek dF_workOut_28 ?_
  refine lv_tableIn (tgt := 361) hx hb dF_workOut_29 (by decide) (by decide) rfl (by decide) ?_
  refine lv_aload_n hx hb dF_workOut_361 rfl (lv_at hl 3 rfl) ?_
  refine lv_aload_n hx hb dF_workOut_362 rfl (lv_at hl 4 rfl) ?_
  refine dw_get hx hb hts inUc hown hG 3 0 rfl rfl (by decide) hw32 rfl rfl dF_workOut_363 ?_
  refine lv_iload_n hx hb dF_workOut_366 rfl (lv_at hl 5 rfl) ?_
  refine dw_ia (x := 11) hx hb hG 4 0 rfl rfl (v) rfl (by omega) (by decide) ek dF_workOut_367 ?_
  refine lv_iload_n hx hb dF_workOut_368 rfl (lv_at hl 5 rfl) ?_
  refine lv_iload_n hx hb dF_workOut_369 rfl (lv_at hl 2 rfl) ?_
  refine lv_iload hx hb dF_workOut_370 (lv_at hl 0 rfl) ?_
  refine dw_callv (wc := [(f0, .inr (2, [.ref aZ, .ref aO, .int (ch)])), (aZ, .inl (cI, 24, .inl (Zs))), (aO, .inl (cI, 24, .inl (On)))]) (wr := [(u0, .inr (1, [.ref aK, .ref aX, .ref aY, .ref aN, .ref aV, .ref aM, .int (nI (n)), .int (nI (R))])), (aK, .inl (cI, 24, .inl (Kf))), (aX, .inl (cI, 24, .inl (Xf))), (aY, .inl (cI, 24, .inl (Yf))), (aN, .inl (cI, 24, .inl (Nf)))]) hG [0, 1, 2] [3, 4, 5, 6, 7] rfl rfl (by decide) (by decide) (va_runV (As := [.int (11), .int (nI (v)), .int (nI (x)), .int ((Nf) (v))]) (rest := []) ⟨hx, hb, hml, hown, hts⟩ (cf_moved11 l dC dI cI cZ f0 aZ aO ch Zs On v x (Nf v) (Zs y) (On y) (Zs v) (On v) H.size hv hx9) (dc_V 4 hts tw_208 tw_210 tp_F_workOutMoved tw_3 tw_211 rfl rfl (by decide +kernel) ⟨Nat.le_of_ble_eq_true rfl, Nat.le_of_ble_eq_true rfl⟩) (dw_preV (ci := 2) hG [0, 1, 2] [0, 1] rfl rfl (by decide) rfl rfl (q0 := 0) rfl) rfl rfl hl.1 rfl (lv_room (Nat.le_of_ble_eq_true rfl)) dF_workOut_372 ⟨Nat.le_refl _, Nat.le_refl _⟩) (fun u H locs hp hG => ?_)
  have hG : dw_G (dC, dI) vwCl [(cI, .int), (cZ, .boolean)] A s.heap s [(u0, .inr (1, [.ref aK, .ref aX, .ref aY, .ref aN, .ref aV, .ref aM, .int (nI (n)), .int (nI (R))])), (aK, .inl (cI, 24, .inl (Kf))), (aX, .inl (cI, 24, .inl (Xf))), (aY, .inl (cI, 24, .inl (Yf))), (aN, .inl (cI, 24, .inl (Nf))), (f0, .inr (2, [.ref aZ, .ref aO, .int (u)])), (aZ, .inl (cI, 24, .inl (upd Zs v (db_F 11 (Nf v) (Zs x) (On x) (Zs y) (On y) (Zs v) (On v)).1))), (aO, .inl (cI, 24, .inl (upd On v (db_F 11 (Nf v) (Zs x) (On x) (Zs y) (On y) (Zs v) (On v)).2)))] H locs := hG
  subst hQ
  exact dw_vret hx hb hr (dw_perm hG [5, 6, 7, 0, 1, 2, 3, 4] (by decide) rfl rfl) (u) rfl hp dF_workOut_375 hlocks

set_option maxRecDepth 100000 in
set_option maxHeartbeats 4000000 in
theorem cf_work12 (l : Launch) (dC : Nat → ClassId) (dI : Nat → Nat → Nat) (cI cZ : ClassId) (f0 aZ aO : Nat) (ch : Int32) (Zs On : Nat → Int32) (u0 aK aX aY aN aV aM n R : Nat) (Kf Xf Yf Nf : Nat → Int32) (v x y : Nat) (sz : Nat) (hv : v < 24) (hx9 : x < 24) (hy9 : y < 24) (ex : Xf v = nI x) (ey : Yf v = nI y) (ek : Kf v = nI 12) : Met l yF_workOut wsF_workOut { frames := 2, cells := 0, slots := 0, locals := 60 } (va_Pc [.ref f0, .ref u0, .int (nI (v))] (dw_pre (dC, dI) vwCl [(f0, .inr (2, [.ref aZ, .ref aO, .int (ch)])), (aZ, .inl (cI, 24, .inl (Zs))), (aO, .inl (cI, 24, .inl (On))), (u0, .inr (1, [.ref aK, .ref aX, .ref aY, .ref aN, .ref aV, .ref aM, .int (nI (n)), .int (nI (R))])), (aK, .inl (cI, 24, .inl (Kf))), (aX, .inl (cI, 24, .inl (Xf))), (aY, .inl (cI, 24, .inl (Yf))), (aN, .inl (cI, 24, .inl (Nf)))] [(cI, .int), (cZ, .boolean)] sz)) (va_Qv (fun (u : Int32) => db_lrn ch u Zs On v (db_F 12 (Nf v) (Zs x) (On x) (Zs y) (On y) (Zs v) (On v)).1 (db_F 12 (Nf v) (Zs x) (On x) (Zs y) (On y) (Zs v) (On v)).2) (fun u t => dw_post (dC, dI) vwCl [(f0, .inr (2, [.ref aZ, .ref aO, .int (u)])), (aZ, .inl (cI, 24, .inl (upd Zs v (db_F 12 (Nf v) (Zs x) (On x) (Zs y) (On y) (Zs v) (On v)).1))), (aO, .inl (cI, 24, .inl (upd On v (db_F 12 (Nf v) (Zs x) (On x) (Zs y) (On y) (Zs v) (On v)).2))), (u0, .inr (1, [.ref aK, .ref aX, .ref aY, .ref aN, .ref aV, .ref aM, .int (nI (n)), .int (nI (R))])), (aK, .inl (cI, 24, .inl (Kf))), (aX, .inl (cI, 24, .inl (Xf))), (aY, .inl (cI, 24, .inl (Yf))), (aN, .inl (cI, 24, .inl (Nf)))] [(cI, .int), (cZ, .boolean)] (va_A [(f0, .inr (2, [.ref aZ, .ref aO, .int (ch)])), (aZ, .inl (cI, 24, .inl (Zs))), (aO, .inl (cI, 24, .inl (On))), (u0, .inr (1, [.ref aK, .ref aX, .ref aY, .ref aN, .ref aV, .ref aM, .int (nI (n)), .int (nI (R))])), (aK, .inl (cI, 24, .inl (Kf))), (aX, .inl (cI, 24, .inl (Xf))), (aY, .inl (cI, 24, .inl (Yf))), (aN, .inl (cI, 24, .inl (Nf)))] sz) t) (va_A [(f0, .inr (2, [.ref aZ, .ref aO, .int (ch)])), (aZ, .inl (cI, 24, .inl (Zs))), (aO, .inl (cI, 24, .inl (On))), (u0, .inr (1, [.ref aK, .ref aX, .ref aY, .ref aN, .ref aV, .ref aM, .int (nI (n)), .int (nI (R))])), (aK, .inl (cI, 24, .inl (Kf))), (aX, .inl (cI, 24, .inl (Xf))), (aY, .inl (cI, 24, .inl (Yf))), (aN, .inl (cI, 24, .inl (Nf)))] sz)) 0 0 (va_A [(f0, .inr (2, [.ref aZ, .ref aO, .int (ch)])), (aZ, .inl (cI, 24, .inl (Zs))), (aO, .inl (cI, 24, .inl (On))), (u0, .inr (1, [.ref aK, .ref aX, .ref aY, .ref aN, .ref aV, .ref aM, .int (nI (n)), .int (nI (R))])), (aK, .inl (cI, 24, .inl (Kf))), (aX, .inl (cI, 24, .inl (Xf))), (aY, .inl (cI, 24, .inl (Yf))), (aN, .inl (cI, 24, .inl (Nf)))] sz) := by
  refine Met.ofW (cc := cF_workOut) (maxL := 6) (ret := none) (by decide) rfl ?_
  intro p e s m args below meth c s₁ B hml hv0
  have hx := B.exec
  have hb := B.bytes
  have hr := B.returns
  have hts := atoms_spec (ws := wsF_workOut) B.pre
  have hown : s.vm.findClass RF = some m.cls := findClass_of_methodNamed B.named
  have hlocks := B.notSynchronized
  obtain ⟨rfl, hsz, hG⟩ := dw_enter hv0
  generalize va_A [(f0, .inr (2, [.ref aZ, .ref aO, .int (ch)])), (aZ, .inl (cI, 24, .inl (Zs))), (aO, .inl (cI, 24, .inl (On))), (u0, .inr (1, [.ref aK, .ref aX, .ref aY, .ref aN, .ref aV, .ref aM, .int (nI (n)), .int (nI (R))])), (aK, .inl (cI, 24, .inl (Kf))), (aX, .inl (cI, 24, .inl (Xf))), (aY, .inl (cI, 24, .inl (Yf))), (aN, .inl (cI, 24, .inl (Nf)))] sz = A at hG ⊢
  have hl := lv_entry ([.ref f0, .ref u0, .int (nI (v))]) (n := 6) (Nat.le_of_ble_eq_true rfl)
  rw [lg_entry_eq]
  generalize (lg_sl ([.ref f0, .ref u0, .int (nI (v))]) ++ List.replicate (6 - (lg_sl ([.ref f0, .ref u0, .int (nI (v))])).length) Slot.unset).toArray = ls at hl ⊢
  have hl : lv_has ls 6 [(0, .ref f0), (1, .ref u0), (2, .int (nI (v)))] := hl
  have hw37 := hts _ (List.mem_cons_of_mem _ tw_37)
  have hw43 := hts _ (List.mem_cons_of_mem _ tw_43)
  have hw48 := hts _ (List.mem_cons_of_mem _ tw_48)
  have hw32 := hts _ (List.mem_cons_of_mem _ tw_32)
  refine dw_Q (fun Q hQ => ?_)
  suffices hgo : ∀ (H : Heap) (locs : List Loc), dw_G (dC, dI) vwCl [(cI, .int), (cZ, .boolean)] A s.heap s [(f0, .inr (2, [.ref aZ, .ref aO, .int (ch)])), (aZ, .inl (cI, 24, .inl (Zs))), (aO, .inl (cI, 24, .inl (On))), (u0, .inr (1, [.ref aK, .ref aX, .ref aY, .ref aN, .ref aV, .ref aM, .int (nI (n)), .int (nI (R))])), (aK, .inl (cI, 24, .inl (Kf))), (aX, .inl (cI, 24, .inl (Xf))), (aY, .inl (cI, 24, .inl (Yf))), (aN, .inl (cI, 24, .inl (Nf)))] H locs → W p l e (headSpec wsF_workOut { frames := 2, cells := 0, slots := 0, locals := 60 }).room s m [.ref f0, .ref u0, .int (nI (v))].toArray below meth c H locs 0 0 Q (F0 m 0 ls []) from hgo _ _ hG
  clear hG
  intro H locs hG
  refine lv_aload_n hx hb dF_workOut_0 rfl (lv_at hl 1 rfl) ?_
  refine dw_get hx hb hts inUc hown hG 3 1 rfl rfl (by decide) hw37 rfl rfl dF_workOut_1 ?_
  refine lv_iload_n hx hb dF_workOut_4 rfl (lv_at hl 2 rfl) ?_
  refine dw_ia (x := nI (x)) hx hb hG 5 0 rfl rfl (v) rfl (by omega) (by decide) ex dF_workOut_5 ?_
  refine lv_istore_n (lv' := [(3, .int (nI (x))), (0, .ref f0), (1, .ref u0), (2, .int (nI (v)))]) hx hb dF_workOut_6 rfl hl (by decide) rfl (fun ls hl => ?_)
  refine lv_aload_n hx hb dF_workOut_7 rfl (lv_at hl 2 rfl) ?_
  refine dw_get hx hb hts inUc hown hG 3 2 rfl rfl (by decide) hw43 rfl rfl dF_workOut_8 ?_
  refine lv_iload_n hx hb dF_workOut_11 rfl (lv_at hl 3 rfl) ?_
  refine dw_ia (x := nI (y)) hx hb hG 6 0 rfl rfl (v) rfl (by omega) (by decide) ey dF_workOut_12 ?_
  refine lv_istore (lv' := [(4, .int (nI (y))), (3, .int (nI (x))), (0, .ref f0), (1, .ref u0), (2, .int (nI (v)))]) hx hb dF_workOut_13 hl (by decide) rfl (fun ls hl => ?_)
  refine lv_aload_n hx hb dF_workOut_15 rfl (lv_at hl 3 rfl) ?_
  refine dw_get hx hb hts inUc hown hG 3 3 rfl rfl (by decide) hw48 rfl rfl dF_workOut_16 ?_
  refine lv_iload_n hx hb dF_workOut_19 rfl (lv_at hl 4 rfl) ?_
  refine dw_ia (x := (Nf) (v)) hx hb hG 7 0 rfl rfl (v) rfl (by omega) (by decide) rfl dF_workOut_20 ?_
  refine lv_istore (lv' := [(5, .int ((Nf) (v))), (4, .int (nI (y))), (3, .int (nI (x))), (0, .ref f0), (1, .ref u0), (2, .int (nI (v)))]) hx hb dF_workOut_21 hl (by decide) rfl (fun ls hl => ?_)
  refine lv_aload_n hx hb dF_workOut_23 rfl (lv_at hl 4 rfl) ?_
  refine dw_get hx hb hts inUc hown hG 3 0 rfl rfl (by decide) hw32 rfl rfl dF_workOut_24 ?_
  refine lv_iload_n hx hb dF_workOut_27 rfl (lv_at hl 5 rfl) ?_
  refine dw_ia (x := 12) hx hb hG 4 0 rfl rfl (v) rfl (by omega) (by decide) ek dF_workOut_28 ?_
  refine lv_tableIn (tgt := 361) hx hb dF_workOut_29 (by decide) (by decide) rfl (by decide) ?_
  refine lv_aload_n hx hb dF_workOut_361 rfl (lv_at hl 3 rfl) ?_
  refine lv_aload_n hx hb dF_workOut_362 rfl (lv_at hl 4 rfl) ?_
  refine dw_get hx hb hts inUc hown hG 3 0 rfl rfl (by decide) hw32 rfl rfl dF_workOut_363 ?_
  refine lv_iload_n hx hb dF_workOut_366 rfl (lv_at hl 5 rfl) ?_
  refine dw_ia (x := 12) hx hb hG 4 0 rfl rfl (v) rfl (by omega) (by decide) ek dF_workOut_367 ?_
  refine lv_iload_n hx hb dF_workOut_368 rfl (lv_at hl 5 rfl) ?_
  refine lv_iload_n hx hb dF_workOut_369 rfl (lv_at hl 2 rfl) ?_
  refine lv_iload hx hb dF_workOut_370 (lv_at hl 0 rfl) ?_
  refine dw_callv (wc := [(f0, .inr (2, [.ref aZ, .ref aO, .int (ch)])), (aZ, .inl (cI, 24, .inl (Zs))), (aO, .inl (cI, 24, .inl (On)))]) (wr := [(u0, .inr (1, [.ref aK, .ref aX, .ref aY, .ref aN, .ref aV, .ref aM, .int (nI (n)), .int (nI (R))])), (aK, .inl (cI, 24, .inl (Kf))), (aX, .inl (cI, 24, .inl (Xf))), (aY, .inl (cI, 24, .inl (Yf))), (aN, .inl (cI, 24, .inl (Nf)))]) hG [0, 1, 2] [3, 4, 5, 6, 7] rfl rfl (by decide) (by decide) (va_runV (As := [.int (12), .int (nI (v)), .int (nI (x)), .int ((Nf) (v))]) (rest := []) ⟨hx, hb, hml, hown, hts⟩ (cf_moved12 l dC dI cI cZ f0 aZ aO ch Zs On v x (Nf v) (Zs y) (On y) (Zs v) (On v) H.size hv hx9) (dc_V 4 hts tw_208 tw_210 tp_F_workOutMoved tw_3 tw_211 rfl rfl (by decide +kernel) ⟨Nat.le_of_ble_eq_true rfl, Nat.le_of_ble_eq_true rfl⟩) (dw_preV (ci := 2) hG [0, 1, 2] [0, 1] rfl rfl (by decide) rfl rfl (q0 := 0) rfl) rfl rfl hl.1 rfl (lv_room (Nat.le_of_ble_eq_true rfl)) dF_workOut_372 ⟨Nat.le_refl _, Nat.le_refl _⟩) (fun u H locs hp hG => ?_)
  have hG : dw_G (dC, dI) vwCl [(cI, .int), (cZ, .boolean)] A s.heap s [(u0, .inr (1, [.ref aK, .ref aX, .ref aY, .ref aN, .ref aV, .ref aM, .int (nI (n)), .int (nI (R))])), (aK, .inl (cI, 24, .inl (Kf))), (aX, .inl (cI, 24, .inl (Xf))), (aY, .inl (cI, 24, .inl (Yf))), (aN, .inl (cI, 24, .inl (Nf))), (f0, .inr (2, [.ref aZ, .ref aO, .int (u)])), (aZ, .inl (cI, 24, .inl (upd Zs v (db_F 12 (Nf v) (Zs x) (On x) (Zs y) (On y) (Zs v) (On v)).1))), (aO, .inl (cI, 24, .inl (upd On v (db_F 12 (Nf v) (Zs x) (On x) (Zs y) (On y) (Zs v) (On v)).2)))] H locs := hG
  subst hQ
  exact dw_vret hx hb hr (dw_perm hG [5, 6, 7, 0, 1, 2, 3, 4] (by decide) rfl rfl) (u) rfl hp dF_workOut_375 hlocks

set_option maxRecDepth 100000 in
set_option maxHeartbeats 4000000 in
theorem cf_work13 (l : Launch) (dC : Nat → ClassId) (dI : Nat → Nat → Nat) (cI cZ : ClassId) (f0 aZ aO : Nat) (ch : Int32) (Zs On : Nat → Int32) (u0 aK aX aY aN aV aM n R : Nat) (Kf Xf Yf Nf : Nat → Int32) (v x y : Nat) (sz : Nat) (hv : v < 24) (hx9 : x < 24) (hy9 : y < 24) (ex : Xf v = nI x) (ey : Yf v = nI y) (ek : Kf v = nI 13) : Met l yF_workOut wsF_workOut { frames := 2, cells := 0, slots := 0, locals := 60 } (va_Pc [.ref f0, .ref u0, .int (nI (v))] (dw_pre (dC, dI) vwCl [(f0, .inr (2, [.ref aZ, .ref aO, .int (ch)])), (aZ, .inl (cI, 24, .inl (Zs))), (aO, .inl (cI, 24, .inl (On))), (u0, .inr (1, [.ref aK, .ref aX, .ref aY, .ref aN, .ref aV, .ref aM, .int (nI (n)), .int (nI (R))])), (aK, .inl (cI, 24, .inl (Kf))), (aX, .inl (cI, 24, .inl (Xf))), (aY, .inl (cI, 24, .inl (Yf))), (aN, .inl (cI, 24, .inl (Nf)))] [(cI, .int), (cZ, .boolean)] sz)) (va_Qv (fun (u : Int32) => db_lrn ch u Zs On v (db_F 13 (Nf v) (Zs x) (On x) (Zs y) (On y) (Zs v) (On v)).1 (db_F 13 (Nf v) (Zs x) (On x) (Zs y) (On y) (Zs v) (On v)).2) (fun u t => dw_post (dC, dI) vwCl [(f0, .inr (2, [.ref aZ, .ref aO, .int (u)])), (aZ, .inl (cI, 24, .inl (upd Zs v (db_F 13 (Nf v) (Zs x) (On x) (Zs y) (On y) (Zs v) (On v)).1))), (aO, .inl (cI, 24, .inl (upd On v (db_F 13 (Nf v) (Zs x) (On x) (Zs y) (On y) (Zs v) (On v)).2))), (u0, .inr (1, [.ref aK, .ref aX, .ref aY, .ref aN, .ref aV, .ref aM, .int (nI (n)), .int (nI (R))])), (aK, .inl (cI, 24, .inl (Kf))), (aX, .inl (cI, 24, .inl (Xf))), (aY, .inl (cI, 24, .inl (Yf))), (aN, .inl (cI, 24, .inl (Nf)))] [(cI, .int), (cZ, .boolean)] (va_A [(f0, .inr (2, [.ref aZ, .ref aO, .int (ch)])), (aZ, .inl (cI, 24, .inl (Zs))), (aO, .inl (cI, 24, .inl (On))), (u0, .inr (1, [.ref aK, .ref aX, .ref aY, .ref aN, .ref aV, .ref aM, .int (nI (n)), .int (nI (R))])), (aK, .inl (cI, 24, .inl (Kf))), (aX, .inl (cI, 24, .inl (Xf))), (aY, .inl (cI, 24, .inl (Yf))), (aN, .inl (cI, 24, .inl (Nf)))] sz) t) (va_A [(f0, .inr (2, [.ref aZ, .ref aO, .int (ch)])), (aZ, .inl (cI, 24, .inl (Zs))), (aO, .inl (cI, 24, .inl (On))), (u0, .inr (1, [.ref aK, .ref aX, .ref aY, .ref aN, .ref aV, .ref aM, .int (nI (n)), .int (nI (R))])), (aK, .inl (cI, 24, .inl (Kf))), (aX, .inl (cI, 24, .inl (Xf))), (aY, .inl (cI, 24, .inl (Yf))), (aN, .inl (cI, 24, .inl (Nf)))] sz)) 0 0 (va_A [(f0, .inr (2, [.ref aZ, .ref aO, .int (ch)])), (aZ, .inl (cI, 24, .inl (Zs))), (aO, .inl (cI, 24, .inl (On))), (u0, .inr (1, [.ref aK, .ref aX, .ref aY, .ref aN, .ref aV, .ref aM, .int (nI (n)), .int (nI (R))])), (aK, .inl (cI, 24, .inl (Kf))), (aX, .inl (cI, 24, .inl (Xf))), (aY, .inl (cI, 24, .inl (Yf))), (aN, .inl (cI, 24, .inl (Nf)))] sz) := by
  refine Met.ofW (cc := cF_workOut) (maxL := 6) (ret := none) (by decide) rfl ?_
  intro p e s m args below meth c s₁ B hml hv0
  have hx := B.exec
  have hb := B.bytes
  have hr := B.returns
  have hts := atoms_spec (ws := wsF_workOut) B.pre
  have hown : s.vm.findClass RF = some m.cls := findClass_of_methodNamed B.named
  have hlocks := B.notSynchronized
  obtain ⟨rfl, hsz, hG⟩ := dw_enter hv0
  generalize va_A [(f0, .inr (2, [.ref aZ, .ref aO, .int (ch)])), (aZ, .inl (cI, 24, .inl (Zs))), (aO, .inl (cI, 24, .inl (On))), (u0, .inr (1, [.ref aK, .ref aX, .ref aY, .ref aN, .ref aV, .ref aM, .int (nI (n)), .int (nI (R))])), (aK, .inl (cI, 24, .inl (Kf))), (aX, .inl (cI, 24, .inl (Xf))), (aY, .inl (cI, 24, .inl (Yf))), (aN, .inl (cI, 24, .inl (Nf)))] sz = A at hG ⊢
  have hl := lv_entry ([.ref f0, .ref u0, .int (nI (v))]) (n := 6) (Nat.le_of_ble_eq_true rfl)
  rw [lg_entry_eq]
  generalize (lg_sl ([.ref f0, .ref u0, .int (nI (v))]) ++ List.replicate (6 - (lg_sl ([.ref f0, .ref u0, .int (nI (v))])).length) Slot.unset).toArray = ls at hl ⊢
  have hl : lv_has ls 6 [(0, .ref f0), (1, .ref u0), (2, .int (nI (v)))] := hl
  have hw37 := hts _ (List.mem_cons_of_mem _ tw_37)
  have hw43 := hts _ (List.mem_cons_of_mem _ tw_43)
  have hw48 := hts _ (List.mem_cons_of_mem _ tw_48)
  have hw32 := hts _ (List.mem_cons_of_mem _ tw_32)
  have hw89 := hts _ (List.mem_cons_of_mem _ tw_89)
  have hw92 := hts _ (List.mem_cons_of_mem _ tw_92)
  refine dw_Q (fun Q hQ => ?_)
  suffices hgo : ∀ (H : Heap) (locs : List Loc), dw_G (dC, dI) vwCl [(cI, .int), (cZ, .boolean)] A s.heap s [(f0, .inr (2, [.ref aZ, .ref aO, .int (ch)])), (aZ, .inl (cI, 24, .inl (Zs))), (aO, .inl (cI, 24, .inl (On))), (u0, .inr (1, [.ref aK, .ref aX, .ref aY, .ref aN, .ref aV, .ref aM, .int (nI (n)), .int (nI (R))])), (aK, .inl (cI, 24, .inl (Kf))), (aX, .inl (cI, 24, .inl (Xf))), (aY, .inl (cI, 24, .inl (Yf))), (aN, .inl (cI, 24, .inl (Nf)))] H locs → W p l e (headSpec wsF_workOut { frames := 2, cells := 0, slots := 0, locals := 60 }).room s m [.ref f0, .ref u0, .int (nI (v))].toArray below meth c H locs 0 0 Q (F0 m 0 ls []) from hgo _ _ hG
  clear hG
  intro H locs hG
  refine lv_aload_n hx hb dF_workOut_0 rfl (lv_at hl 1 rfl) ?_
  refine dw_get hx hb hts inUc hown hG 3 1 rfl rfl (by decide) hw37 rfl rfl dF_workOut_1 ?_
  refine lv_iload_n hx hb dF_workOut_4 rfl (lv_at hl 2 rfl) ?_
  refine dw_ia (x := nI (x)) hx hb hG 5 0 rfl rfl (v) rfl (by omega) (by decide) ex dF_workOut_5 ?_
  refine lv_istore_n (lv' := [(3, .int (nI (x))), (0, .ref f0), (1, .ref u0), (2, .int (nI (v)))]) hx hb dF_workOut_6 rfl hl (by decide) rfl (fun ls hl => ?_)
  refine lv_aload_n hx hb dF_workOut_7 rfl (lv_at hl 2 rfl) ?_
  refine dw_get hx hb hts inUc hown hG 3 2 rfl rfl (by decide) hw43 rfl rfl dF_workOut_8 ?_
  refine lv_iload_n hx hb dF_workOut_11 rfl (lv_at hl 3 rfl) ?_
  refine dw_ia (x := nI (y)) hx hb hG 6 0 rfl rfl (v) rfl (by omega) (by decide) ey dF_workOut_12 ?_
  refine lv_istore (lv' := [(4, .int (nI (y))), (3, .int (nI (x))), (0, .ref f0), (1, .ref u0), (2, .int (nI (v)))]) hx hb dF_workOut_13 hl (by decide) rfl (fun ls hl => ?_)
  refine lv_aload_n hx hb dF_workOut_15 rfl (lv_at hl 3 rfl) ?_
  refine dw_get hx hb hts inUc hown hG 3 3 rfl rfl (by decide) hw48 rfl rfl dF_workOut_16 ?_
  refine lv_iload_n hx hb dF_workOut_19 rfl (lv_at hl 4 rfl) ?_
  refine dw_ia (x := (Nf) (v)) hx hb hG 7 0 rfl rfl (v) rfl (by omega) (by decide) rfl dF_workOut_20 ?_
  refine lv_istore (lv' := [(5, .int ((Nf) (v))), (4, .int (nI (y))), (3, .int (nI (x))), (0, .ref f0), (1, .ref u0), (2, .int (nI (v)))]) hx hb dF_workOut_21 hl (by decide) rfl (fun ls hl => ?_)
  refine lv_aload_n hx hb dF_workOut_23 rfl (lv_at hl 4 rfl) ?_
  refine dw_get hx hb hts inUc hown hG 3 0 rfl rfl (by decide) hw32 rfl rfl dF_workOut_24 ?_
  refine lv_iload_n hx hb dF_workOut_27 rfl (lv_at hl 5 rfl) ?_
  refine dw_ia (x := 13) hx hb hG 4 0 rfl rfl (v) rfl (by omega) (by decide) ek dF_workOut_28 ?_
  refine lv_tableIn (tgt := 311) hx hb dF_workOut_29 (by decide) (by decide) rfl (by decide) ?_
  refine lv_aload_n hx hb dF_workOut_311 rfl (lv_at hl 3 rfl) ?_
  refine lv_iload_n hx hb dF_workOut_312 rfl (lv_at hl 5 rfl) ?_
  refine lv_aload_n hx hb dF_workOut_313 rfl (lv_at hl 3 rfl) ?_
  refine dw_get hx hb hts inFc hown hG 0 0 rfl rfl (by decide) hw89 rfl rfl dF_workOut_314 ?_
  refine lv_iload_n hx hb dF_workOut_317 rfl (lv_at hl 5 rfl) ?_
  refine dw_ia (x := (Zs) (v)) hx hb hG 1 0 rfl rfl (v) rfl (by omega) (by decide) rfl dF_workOut_318 ?_
  refine lv_aload_n hx hb dF_workOut_319 rfl (lv_at hl 3 rfl) ?_
  refine dw_get hx hb hts inFc hown hG 0 0 rfl rfl (by decide) hw89 rfl rfl dF_workOut_320 ?_
  refine lv_iload_n hx hb dF_workOut_323 rfl (lv_at hl 2 rfl) ?_
  refine dw_ia (x := (Zs) (x)) hx hb hG 1 0 rfl rfl (x) rfl (by omega) (by decide) rfl dF_workOut_324 ?_
  refine lv_iand hx hb dF_workOut_325 ?_
  refine lv_aload_n hx hb dF_workOut_326 rfl (lv_at hl 3 rfl) ?_
  refine dw_get hx hb hts inFc hown hG 0 0 rfl rfl (by decide) hw89 rfl rfl dF_workOut_327 ?_
  refine lv_iload hx hb dF_workOut_330 (lv_at hl 1 rfl) ?_
  refine dw_ia (x := (Zs) (y)) hx hb hG 1 0 rfl rfl (y) rfl (by omega) (by decide) rfl dF_workOut_332 ?_
  refine lv_iand hx hb dF_workOut_333 ?_
  refine lv_aload_n hx hb dF_workOut_334 rfl (lv_at hl 3 rfl) ?_
  refine dw_get hx hb hts inFc hown hG 0 1 rfl rfl (by decide) hw92 rfl rfl dF_workOut_335 ?_
  refine lv_iload_n hx hb dF_workOut_338 rfl (lv_at hl 5 rfl) ?_
  refine dw_ia (x := (On) (v)) hx hb hG 2 0 rfl rfl (v) rfl (by omega) (by decide) rfl dF_workOut_339 ?_
  refine lv_aload_n hx hb dF_workOut_340 rfl (lv_at hl 3 rfl) ?_
  refine dw_get hx hb hts inFc hown hG 0 1 rfl rfl (by decide) hw92 rfl rfl dF_workOut_341 ?_
  refine lv_iload_n hx hb dF_workOut_344 rfl (lv_at hl 2 rfl) ?_
  refine dw_ia (x := (On) (x)) hx hb hG 2 0 rfl rfl (x) rfl (by omega) (by decide) rfl dF_workOut_345 ?_
  refine lv_iand hx hb dF_workOut_346 ?_
  refine lv_aload_n hx hb dF_workOut_347 rfl (lv_at hl 3 rfl) ?_
  refine dw_get hx hb hts inFc hown hG 0 1 rfl rfl (by decide) hw92 rfl rfl dF_workOut_348 ?_
  refine lv_iload hx hb dF_workOut_351 (lv_at hl 1 rfl) ?_
  refine dw_ia (x := (On) (y)) hx hb hG 2 0 rfl rfl (y) rfl (by omega) (by decide) rfl dF_workOut_353 ?_
  refine lv_iand hx hb dF_workOut_354 ?_
  refine dw_callv (wc := [(f0, .inr (2, [.ref aZ, .ref aO, .int (ch)])), (aZ, .inl (cI, 24, .inl (Zs))), (aO, .inl (cI, 24, .inl (On)))]) (wr := [(u0, .inr (1, [.ref aK, .ref aX, .ref aY, .ref aN, .ref aV, .ref aM, .int (nI (n)), .int (nI (R))])), (aK, .inl (cI, 24, .inl (Kf))), (aX, .inl (cI, 24, .inl (Xf))), (aY, .inl (cI, 24, .inl (Yf))), (aN, .inl (cI, 24, .inl (Nf)))]) hG [0, 1, 2] [3, 4, 5, 6, 7] rfl rfl (by decide) (by decide) (va_runV (As := [.int (nI (v)), .int ((((Zs) (v)) &&& ((Zs) (x))) &&& ((Zs) (y))), .int ((((On) (v)) &&& ((On) (x))) &&& ((On) (y)))]) (rest := []) ⟨hx, hb, hml, hown, hts⟩ (cf_learn l dC dI cI cZ f0 aZ aO ch Zs On (v) ((((Zs) (v)) &&& ((Zs) (x))) &&& ((Zs) (y))) ((((On) (v)) &&& ((On) (x))) &&& ((On) (y))) H.size (by omega)) (dc_V 3 hts tw_181 tw_183 tp_F_learn tw_3 tw_184 rfl rfl (by decide +kernel) ⟨Nat.le_of_ble_eq_true rfl, Nat.le_of_ble_eq_true rfl⟩) (dw_preV (ci := 2) hG [0, 1, 2] [0, 1] rfl rfl (by decide) rfl rfl (q0 := 0) rfl) rfl rfl hl.1 rfl (lv_room (Nat.le_of_ble_eq_true rfl)) dF_workOut_355 ⟨Nat.le_refl _, Nat.le_refl _⟩) (fun u H locs hp hG => ?_)
  have hG : dw_G (dC, dI) vwCl [(cI, .int), (cZ, .boolean)] A s.heap s [(u0, .inr (1, [.ref aK, .ref aX, .ref aY, .ref aN, .ref aV, .ref aM, .int (nI (n)), .int (nI (R))])), (aK, .inl (cI, 24, .inl (Kf))), (aX, .inl (cI, 24, .inl (Xf))), (aY, .inl (cI, 24, .inl (Yf))), (aN, .inl (cI, 24, .inl (Nf))), (f0, .inr (2, [.ref aZ, .ref aO, .int (u)])), (aZ, .inl (cI, 24, .inl (upd Zs (v) ((((Zs) (v)) &&& ((Zs) (x))) &&& ((Zs) (y)))))), (aO, .inl (cI, 24, .inl (upd On (v) ((((On) (v)) &&& ((On) (x))) &&& ((On) (y))))))] H locs := hG
  refine lv_goto (tgt := 375) hx hb dF_workOut_358 (by decide) ?_
  subst hQ
  exact dw_vret hx hb hr (dw_perm hG [5, 6, 7, 0, 1, 2, 3, 4] (by decide) rfl rfl) (u) rfl hp dF_workOut_375 hlocks

set_option maxRecDepth 100000 in
theorem cf_workOut (l : Launch) (dC : Nat → ClassId) (dI : Nat → Nat → Nat) (cI cZ : ClassId) (f0 aZ aO : Nat) (ch : Int32) (Zs On : Nat → Int32) (u0 aK aX aY aN aV aM n R : Nat) (Kf Xf Yf Nf : Nat → Int32) (v x y : Nat) (kd : Nat) (sz : Nat) (hv : v < 24) (hx9 : x < 24) (hy9 : y < 24) (ex : Xf v = nI x) (ey : Yf v = nI y) (hkd : kd ≤ 13) (ek : Kf v = nI kd) : Met l yF_workOut wsF_workOut { frames := 2, cells := 0, slots := 0, locals := 60 } (va_Pc [.ref f0, .ref u0, .int (nI (v))] (dw_pre (dC, dI) vwCl [(f0, .inr (2, [.ref aZ, .ref aO, .int (ch)])), (aZ, .inl (cI, 24, .inl (Zs))), (aO, .inl (cI, 24, .inl (On))), (u0, .inr (1, [.ref aK, .ref aX, .ref aY, .ref aN, .ref aV, .ref aM, .int (nI (n)), .int (nI (R))])), (aK, .inl (cI, 24, .inl (Kf))), (aX, .inl (cI, 24, .inl (Xf))), (aY, .inl (cI, 24, .inl (Yf))), (aN, .inl (cI, 24, .inl (Nf)))] [(cI, .int), (cZ, .boolean)] sz)) (va_Qv (fun (u : Int32) => db_lrn ch u Zs On v (db_F kd (Nf v) (Zs x) (On x) (Zs y) (On y) (Zs v) (On v)).1 (db_F kd (Nf v) (Zs x) (On x) (Zs y) (On y) (Zs v) (On v)).2) (fun u t => dw_post (dC, dI) vwCl [(f0, .inr (2, [.ref aZ, .ref aO, .int (u)])), (aZ, .inl (cI, 24, .inl (upd Zs v (db_F kd (Nf v) (Zs x) (On x) (Zs y) (On y) (Zs v) (On v)).1))), (aO, .inl (cI, 24, .inl (upd On v (db_F kd (Nf v) (Zs x) (On x) (Zs y) (On y) (Zs v) (On v)).2))), (u0, .inr (1, [.ref aK, .ref aX, .ref aY, .ref aN, .ref aV, .ref aM, .int (nI (n)), .int (nI (R))])), (aK, .inl (cI, 24, .inl (Kf))), (aX, .inl (cI, 24, .inl (Xf))), (aY, .inl (cI, 24, .inl (Yf))), (aN, .inl (cI, 24, .inl (Nf)))] [(cI, .int), (cZ, .boolean)] (va_A [(f0, .inr (2, [.ref aZ, .ref aO, .int (ch)])), (aZ, .inl (cI, 24, .inl (Zs))), (aO, .inl (cI, 24, .inl (On))), (u0, .inr (1, [.ref aK, .ref aX, .ref aY, .ref aN, .ref aV, .ref aM, .int (nI (n)), .int (nI (R))])), (aK, .inl (cI, 24, .inl (Kf))), (aX, .inl (cI, 24, .inl (Xf))), (aY, .inl (cI, 24, .inl (Yf))), (aN, .inl (cI, 24, .inl (Nf)))] sz) t) (va_A [(f0, .inr (2, [.ref aZ, .ref aO, .int (ch)])), (aZ, .inl (cI, 24, .inl (Zs))), (aO, .inl (cI, 24, .inl (On))), (u0, .inr (1, [.ref aK, .ref aX, .ref aY, .ref aN, .ref aV, .ref aM, .int (nI (n)), .int (nI (R))])), (aK, .inl (cI, 24, .inl (Kf))), (aX, .inl (cI, 24, .inl (Xf))), (aY, .inl (cI, 24, .inl (Yf))), (aN, .inl (cI, 24, .inl (Nf)))] sz)) 0 0 (va_A [(f0, .inr (2, [.ref aZ, .ref aO, .int (ch)])), (aZ, .inl (cI, 24, .inl (Zs))), (aO, .inl (cI, 24, .inl (On))), (u0, .inr (1, [.ref aK, .ref aX, .ref aY, .ref aN, .ref aV, .ref aM, .int (nI (n)), .int (nI (R))])), (aK, .inl (cI, 24, .inl (Kf))), (aX, .inl (cI, 24, .inl (Xf))), (aY, .inl (cI, 24, .inl (Yf))), (aN, .inl (cI, 24, .inl (Nf)))] sz) := by
  rcases (by omega : kd = 0 ∨ kd = 1 ∨ kd = 2 ∨ kd = 3 ∨ kd = 4 ∨ kd = 5 ∨ kd = 6 ∨ kd = 7 ∨ kd = 8 ∨ kd = 9 ∨ kd = 10 ∨ kd = 11 ∨ kd = 12 ∨ kd = 13) with e | e | e | e | e | e | e | e | e | e | e | e | e | e
  · subst e
    exact cf_work0 l dC dI cI cZ f0 aZ aO ch Zs On u0 aK aX aY aN aV aM n R Kf Xf Yf Nf v x y sz hv hx9 hy9 ex ey ek
  · subst e
    exact cf_work1 l dC dI cI cZ f0 aZ aO ch Zs On u0 aK aX aY aN aV aM n R Kf Xf Yf Nf v x y sz hv hx9 hy9 ex ey ek
  · subst e
    exact cf_work2 l dC dI cI cZ f0 aZ aO ch Zs On u0 aK aX aY aN aV aM n R Kf Xf Yf Nf v x y sz hv hx9 hy9 ex ey ek
  · subst e
    exact cf_work3 l dC dI cI cZ f0 aZ aO ch Zs On u0 aK aX aY aN aV aM n R Kf Xf Yf Nf v x y sz hv hx9 hy9 ex ey ek
  · subst e
    exact cf_work4 l dC dI cI cZ f0 aZ aO ch Zs On u0 aK aX aY aN aV aM n R Kf Xf Yf Nf v x y sz hv hx9 hy9 ex ey ek
  · subst e
    exact cf_work5 l dC dI cI cZ f0 aZ aO ch Zs On u0 aK aX aY aN aV aM n R Kf Xf Yf Nf v x y sz hv hx9 hy9 ex ey ek
  · subst e
    exact cf_work6 l dC dI cI cZ f0 aZ aO ch Zs On u0 aK aX aY aN aV aM n R Kf Xf Yf Nf v x y sz hv hx9 hy9 ex ey ek
  · subst e
    exact cf_work7 l dC dI cI cZ f0 aZ aO ch Zs On u0 aK aX aY aN aV aM n R Kf Xf Yf Nf v x y sz hv hx9 hy9 ex ey ek
  · subst e
    exact cf_work8 l dC dI cI cZ f0 aZ aO ch Zs On u0 aK aX aY aN aV aM n R Kf Xf Yf Nf v x y sz hv hx9 hy9 ex ey ek
  · subst e
    exact cf_work9 l dC dI cI cZ f0 aZ aO ch Zs On u0 aK aX aY aN aV aM n R Kf Xf Yf Nf v x y sz hv hx9 hy9 ex ey ek
  · subst e
    exact cf_work10 l dC dI cI cZ f0 aZ aO ch Zs On u0 aK aX aY aN aV aM n R Kf Xf Yf Nf v x y sz hv hx9 hy9 ex ey ek
  · subst e
    exact cf_work11 l dC dI cI cZ f0 aZ aO ch Zs On u0 aK aX aY aN aV aM n R Kf Xf Yf Nf v x y sz hv hx9 hy9 ex ey ek
  · subst e
    exact cf_work12 l dC dI cI cZ f0 aZ aO ch Zs On u0 aK aX aY aN aV aM n R Kf Xf Yf Nf v x y sz hv hx9 hy9 ex ey ek
  · subst e
    exact cf_work13 l dC dI cI cZ f0 aZ aO ch Zs On u0 aK aX aY aN aV aM n R Kf Xf Yf Nf v x y sz hv hx9 hy9 ex ey ek

