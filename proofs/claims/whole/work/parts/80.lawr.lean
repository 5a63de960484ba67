set_option maxRecDepth 100000 in
set_option maxHeartbeats 4000000 in
theorem lw_input_1 (l : Launch) (dC : Nat → ClassId) (dI : Nat → Nat → Nat) (cI cZ : ClassId) (cJ : ClassId) (htr : l.stackTraces = false) (b0 u0 aK aX aY aN aV aM f0 e0 g0 aRp aNr aI c0 h0 n R : Nat) (an : Int32) (k : Int32) (aOut : Nat) (sz : Nat) (hbad : k < 0 ∨ 2 < k) : Met l yL_input wsL_input { frames := 8, cells := 1, slots := 6, locals := 190 } (fun a U => (va_Pc [.ref b0, .int (k), .ref aOut] (dw_pre (dC, dI) vwCl [(b0, .inr (0, [.ref u0, .ref f0, .ref e0, .ref g0, .ref aRp, .ref aNr, .ref aI, .ref c0, .ref h0, .int (an)])), (u0, .inr (1, [.ref aK, .ref aX, .ref aY, .ref aN, .ref aV, .ref aM, .int (nI (n)), .int (nI (R))]))] [(cI, .int), (cZ, .boolean), (cJ, .long)] sz)) a U ∧ dx_N U ∧ dx_L U) (va_Qi (fun (r : Int32) (u : Unit) => r = 1) (fun u t => dw_post (dC, dI) vwCl [(b0, .inr (0, [.ref u0, .ref f0, .ref e0, .ref g0, .ref aRp, .ref aNr, .ref aI, .ref c0, .ref h0, .int (an)])), (u0, .inr (1, [.ref aK, .ref aX, .ref aY, .ref aN, .ref aV, .ref aM, .int (nI (n)), .int (nI (R))]))] [(cI, .int), (cZ, .boolean), (cJ, .long)] (va_A [(b0, .inr (0, [.ref u0, .ref f0, .ref e0, .ref g0, .ref aRp, .ref aNr, .ref aI, .ref c0, .ref h0, .int (an)])), (u0, .inr (1, [.ref aK, .ref aX, .ref aY, .ref aN, .ref aV, .ref aM, .int (nI (n)), .int (nI (R))]))] sz) t) (va_A [(b0, .inr (0, [.ref u0, .ref f0, .ref e0, .ref g0, .ref aRp, .ref aNr, .ref aI, .ref c0, .ref h0, .int (an)])), (u0, .inr (1, [.ref aK, .ref aX, .ref aY, .ref aN, .ref aV, .ref aM, .int (nI (n)), .int (nI (R))]))] sz)) 1 6 (va_A [(b0, .inr (0, [.ref u0, .ref f0, .ref e0, .ref g0, .ref aRp, .ref aNr, .ref aI, .ref c0, .ref h0, .int (an)])), (u0, .inr (1, [.ref aK, .ref aX, .ref aY, .ref aN, .ref aV, .ref aM, .int (nI (n)), .int (nI (R))]))] sz) := by
  refine va_MetW (hh := [(0, 9, 12, 13), (0, 9, 15, 15)]) (cc := cL_input) (maxL := 4) (ret := (some .int)) (by decide) rfl ?_
  intro p e s m args below meth c s₁ B hml hv0
  obtain ⟨hv0, hNx, hLx⟩ := hv0
  have hx := B.exec
  have hb := B.bytes
  have hr := B.returns
  have hts := atoms_spec (ws := wsL_input) B.pre
  have hown : s.vm.findClass RL = some m.cls := findClass_of_methodNamed B.named
  have hlocks := B.notSynchronized
  have htb := dx_table B (hts _ List.mem_cons_self)
  obtain ⟨rfl, hsz, hG⟩ := dw_enter hv0
  generalize va_A [(b0, .inr (0, [.ref u0, .ref f0, .ref e0, .ref g0, .ref aRp, .ref aNr, .ref aI, .ref c0, .ref h0, .int (an)])), (u0, .inr (1, [.ref aK, .ref aX, .ref aY, .ref aN, .ref aV, .ref aM, .int (nI (n)), .int (nI (R))]))] sz = A at hG ⊢
  have hl := lv_entry ([.ref b0, .int (k), .ref aOut]) (n := 4) (Nat.le_of_ble_eq_true rfl)
  rw [lg_entry_eq]
  generalize (lg_sl ([.ref b0, .int (k), .ref aOut]) ++ List.replicate (4 - (lg_sl ([.ref b0, .int (k), .ref aOut])).length) Slot.unset).toArray = ls at hl ⊢
  have hl : lv_has ls 4 [(0, .ref b0), (1, .int (k)), (2, .ref aOut)] := hl
  refine dw_Q (fun Q hQ => ?_)
  suffices hgo : ∀ (H : Heap), H = s.heap → dw_G (dC, dI) vwCl [(cI, .int), (cZ, .boolean), (cJ, .long)] A s.heap s [(b0, .inr (0, [.ref u0, .ref f0, .ref e0, .ref g0, .ref aRp, .ref aNr, .ref aI, .ref c0, .ref h0, .int (an)])), (u0, .inr (1, [.ref aK, .ref aX, .ref aY, .ref aN, .ref aV, .ref aM, .int (nI (n)), .int (nI (R))]))] H [] → W p l e (headSpec wsL_input { frames := 8, cells := 1, slots := 6, locals := 190 }).room s m [.ref b0, .int (k), .ref aOut].toArray below meth c H [] 0 0 Q (F0 m 0 ls []) from hgo _ rfl hG
  clear hG
  intro H hH hG
  refine lv_aload_n hx hb dL_input_0 rfl (lv_at hl 2 rfl) ?_
  refine lv_iconst (v := 0) hx hb dL_input_1 (by decide) ?_
  refine lv_aload_n hx hb dL_input_2 rfl (lv_at hl 0 rfl) ?_
  refine lv_iload_n hx hb dL_input_3 rfl (lv_at hl 1 rfl) ?_
  refine dx_catch (As := [.int (k)]) (rest := [.int (0), .ref aOut]) ⟨hx, hb, hml, hown, hts⟩ (cx_input_1 l dC dI cI cZ htr b0 u0 aK aX aY aN aV aM f0 e0 g0 aRp aNr aI c0 h0 n R an k H.size hbad) (dc_V 1 hts tw_258 tw_259 tw_260 tw_1 tw_261 rfl rfl (by decide +kernel) ⟨Nat.le_of_ble_eq_true rfl, Nat.le_of_ble_eq_true rfl⟩) (dw_preV (ci := 0) (wc := [(b0, .inr (0, [.ref u0, .ref f0, .ref e0, .ref g0, .ref aRp, .ref aNr, .ref aI, .ref c0, .ref h0, .int (an)])), (u0, .inr (1, [.ref aK, .ref aX, .ref aY, .ref aN, .ref aV, .ref aM, .int (nI (n)), .int (nI (R))]))]) hG [0, 1] [0, 1] rfl rfl (by decide) rfl rfl (q0 := 0) rfl) hG (fun T _ X => hNx.here X) rfl hl.1 rfl (Nat.le_of_ble_eq_true rfl) dL_input_4 ⟨Nat.le_of_ble_eq_true rfl, Nat.le_of_ble_eq_true rfl⟩ [] (dx_ent (0, 9, 12, 13)) [dx_ent (0, 9, 15, 15)] htb (fun _ h => nomatch h) (by decide) (by decide) (dx_li hLx 0 rfl) (dx_li hLx 3 rfl) (fun qx H hG => ?_)
  refine W.eq (g2 := F0 m 12 ls [.ref qx]) rfl ?_
  refine lv_astore_n (lv' := [(3, .ref qx), (0, .ref b0), (1, .int (k)), (2, .ref aOut)]) hx hb dL_input_12 rfl hl (by decide) rfl (fun ls hl => ?_)
  refine lv_iconst (v := 1) hx hb dL_input_13 (by decide) ?_
  subst hQ
  exact dw_iret hx hb hr hG (()) rfl rfl dL_input_14 hlocks

set_option maxRecDepth 100000 in
set_option maxHeartbeats 4000000 in
theorem lw_input_2 (l : Launch) (dC : Nat → ClassId) (dI : Nat → Nat → Nat) (cI cZ : ClassId) (cJ : ClassId) (htr : l.stackTraces = false) (b0 u0 aK aX aY aN aV aM f0 e0 g0 aRp aNr aI c0 h0 n R : Nat) (an : Int32) (d : Nat) (aOut : Nat) (sz : Nat) (hd : d < 3) (hn : n = 24) : Met l yL_input wsL_input { frames := 8, cells := 1, slots := 6, locals := 190 } (fun a U => (va_Pc [.ref b0, .int (nI (d)), .ref aOut] (dw_pre (dC, dI) vwCl [(b0, .inr (0, [.ref u0, .ref f0, .ref e0, .ref g0, .ref aRp, .ref aNr, .ref aI, .ref c0, .ref h0, .int (an)])), (u0, .inr (1, [.ref aK, .ref aX, .ref aY, .ref aN, .ref aV, .ref aM, .int (nI (n)), .int (nI (R))]))] [(cI, .int), (cZ, .boolean), (cJ, .long)] sz)) a U ∧ dx_N U ∧ dx_L U) (va_Qi (fun (r : Int32) (u : Unit) => r = 2) (fun u t => dw_post (dC, dI) vwCl [(b0, .inr (0, [.ref u0, .ref f0, .ref e0, .ref g0, .ref aRp, .ref aNr, .ref aI, .ref c0, .ref h0, .int (an)])), (u0, .inr (1, [.ref aK, .ref aX, .ref aY, .ref aN, .ref aV, .ref aM, .int (nI (n)), .int (nI (R))]))] [(cI, .int), (cZ, .boolean), (cJ, .long)] (va_A [(b0, .inr (0, [.ref u0, .ref f0, .ref e0, .ref g0, .ref aRp, .ref aNr, .ref aI, .ref c0, .ref h0, .int (an)])), (u0, .inr (1, [.ref aK, .ref aX, .ref aY, .ref aN, .ref aV, .ref aM, .int (nI (n)), .int (nI (R))]))] sz) t) (va_A [(b0, .inr (0, [.ref u0, .ref f0, .ref e0, .ref g0, .ref aRp, .ref aNr, .ref aI, .ref c0, .ref h0, .int (an)])), (u0, .inr (1, [.ref aK, .ref aX, .ref aY, .ref aN, .ref aV, .ref aM, .int (nI (n)), .int (nI (R))]))] sz)) 1 6 (va_A [(b0, .inr (0, [.ref u0, .ref f0, .ref e0, .ref g0, .ref aRp, .ref aNr, .ref aI, .ref c0, .ref h0, .int (an)])), (u0, .inr (1, [.ref aK, .ref aX, .ref aY, .ref aN, .ref aV, .ref aM, .int (nI (n)), .int (nI (R))]))] sz) := by
  refine va_MetW (hh := [(0, 9, 12, 13), (0, 9, 15, 15)]) (cc := cL_input) (maxL := 4) (ret := (some .int)) (by decide) rfl ?_
  intro p e s m args below meth c s₁ B hml hv0
  obtain ⟨hv0, hNx, hLx⟩ := hv0
  have hx := B.exec
  have hb := B.bytes
  have hr := B.returns
  have hts := atoms_spec (ws := wsL_input) B.pre
  have hown : s.vm.findClass RL = some m.cls := findClass_of_methodNamed B.named
  have hlocks := B.notSynchronized
  have htb := dx_table B (hts _ List.mem_cons_self)
  obtain ⟨rfl, hsz, hG⟩ := dw_enter hv0
  generalize va_A [(b0, .inr (0, [.ref u0, .ref f0, .ref e0, .ref g0, .ref aRp, .ref aNr, .ref aI, .ref c0, .ref h0, .int (an)])), (u0, .inr (1, [.ref aK, .ref aX, .ref aY, .ref aN, .ref aV, .ref aM, .int (nI (n)), .int (nI (R))]))] sz = A at hG ⊢
  have hl := lv_entry ([.ref b0, .int (nI (d)), .ref aOut]) (n := 4) (Nat.le_of_ble_eq_true rfl)
  rw [lg_entry_eq]
  generalize (lg_sl ([.ref b0, .int (nI (d)), .ref aOut]) ++ List.replicate (4 - (lg_sl ([.ref b0, .int (nI (d)), .ref aOut])).length) Slot.unset).toArray = ls at hl ⊢
  have hl : lv_has ls 4 [(0, .ref b0), (1, .int (nI (d))), (2, .ref aOut)] := hl
  refine dw_Q (fun Q hQ => ?_)
  suffices hgo : ∀ (H : Heap), H = s.heap → dw_G (dC, dI) vwCl [(cI, .int), (cZ, .boolean), (cJ, .long)] A s.heap s [(b0, .inr (0, [.ref u0, .ref f0, .ref e0, .ref g0, .ref aRp, .ref aNr, .ref aI, .ref c0, .ref h0, .int (an)])), (u0, .inr (1, [.ref aK, .ref aX, .ref aY, .ref aN, .ref aV, .ref aM, .int (nI (n)), .int (nI (R))]))] H [] → W p l e (headSpec wsL_input { frames := 8, cells := 1, slots := 6, locals := 190 }).room s m [.ref b0, .int (nI (d)), .ref aOut].toArray below meth c H [] 0 0 Q (F0 m 0 ls []) from hgo _ rfl hG
  clear hG
  intro H hH hG
  refine lv_aload_n hx hb dL_input_0 rfl (lv_at hl 2 rfl) ?_
  refine lv_iconst (v := 0) hx hb dL_input_1 (by decide) ?_
  refine lv_aload_n hx hb dL_input_2 rfl (lv_at hl 0 rfl) ?_
  refine lv_iload_n hx hb dL_input_3 rfl (lv_at hl 1 rfl) ?_
  refine dx_catch (As := [.int (nI (d))]) (rest := [.int (0), .ref aOut]) ⟨hx, hb, hml, hown, hts⟩ (cx_input_2 l dC dI cI cZ htr b0 u0 aK aX aY aN aV aM f0 e0 g0 aRp aNr aI c0 h0 n R an d H.size hd hn) (dc_V 1 hts tw_258 tw_259 tw_260 tw_1 tw_261 rfl rfl (by decide +kernel) ⟨Nat.le_of_ble_eq_true rfl, Nat.le_of_ble_eq_true rfl⟩) (dw_preV (ci := 0) (wc := [(b0, .inr (0, [.ref u0, .ref f0, .ref e0, .ref g0, .ref aRp, .ref aNr, .ref aI, .ref c0, .ref h0, .int (an)])), (u0, .inr (1, [.ref aK, .ref aX, .ref aY, .ref aN, .ref aV, .ref aM, .int (nI (n)), .int (nI (R))]))]) hG [0, 1] [0, 1] rfl rfl (by decide) rfl rfl (q0 := 0) rfl) hG (fun T _ X => hNx.here X) rfl hl.1 rfl (Nat.le_of_ble_eq_true rfl) dL_input_4 ⟨Nat.le_of_ble_eq_true rfl, Nat.le_of_ble_eq_true rfl⟩ [dx_ent (0, 9, 12, 13)] (dx_ent (0, 9, 15, 15)) [] htb (List.forall_mem_cons.mpr ⟨⟨xIA, by decide, dx_li hLx 0 rfl, dx_li hLx 6 rfl⟩, (fun _ h => nomatch h)⟩) (by decide) (by decide) (dx_li hLx 1 rfl) (dx_li hLx 4 rfl) (fun qx H hG => ?_)
  refine W.eq (g2 := F0 m 15 ls [.ref qx]) rfl ?_
  refine lv_astore_n (lv' := [(3, .ref qx), (0, .ref b0), (1, .int (nI (d))), (2, .ref aOut)]) hx hb dL_input_15 rfl hl (by decide) rfl (fun ls hl => ?_)
  refine lv_iconst (v := 2) hx hb dL_input_16 (by decide) ?_
  subst hQ
  exact dw_iret hx hb hr hG (()) rfl rfl dL_input_17 hlocks

set_option maxRecDepth 100000 in
set_option maxHeartbeats 4000000 in
theorem lw_constant_1 (l : Launch) (dC : Nat → ClassId) (dI : Nat → Nat → Nat) (cI cZ : ClassId) (cJ : ClassId) (htr : l.stackTraces = false) (b0 u0 aK aX aY aN aV aM f0 e0 g0 aRp aNr aI c0 h0 n R : Nat) (an : Int32) (c9 : Int32) (aOut : Nat) (sz : Nat) (hn : n = 24) : Met l yL_constant wsL_constant { frames := 8, cells := 1, slots := 6, locals := 190 } (fun a U => (va_Pc [.ref b0, .int (c9), .ref aOut] (dw_pre (dC, dI) vwCl [(b0, .inr (0, [.ref u0, .ref f0, .ref e0, .ref g0, .ref aRp, .ref aNr, .ref aI, .ref c0, .ref h0, .int (an)])), (u0, .inr (1, [.ref aK, .ref aX, .ref aY, .ref aN, .ref aV, .ref aM, .int (nI (n)), .int (nI (R))]))] [(cI, .int), (cZ, .boolean), (cJ, .long)] sz)) a U ∧ dx_N U ∧ dx_L U) (va_Qi (fun (r : Int32) (u : Unit) => r = 1) (fun u t => dw_post (dC, dI) vwCl [(b0, .inr (0, [.ref u0, .ref f0, .ref e0, .ref g0, .ref aRp, .ref aNr, .ref aI, .ref c0, .ref h0, .int (an)])), (u0, .inr (1, [.ref aK, .ref aX, .ref aY, .ref aN, .ref aV, .ref aM, .int (nI (n)), .int (nI (R))]))] [(cI, .int), (cZ, .boolean), (cJ, .long)] (va_A [(b0, .inr (0, [.ref u0, .ref f0, .ref e0, .ref g0, .ref aRp, .ref aNr, .ref aI, .ref c0, .ref h0, .int (an)])), (u0, .inr (1, [.ref aK, .ref aX, .ref aY, .ref aN, .ref aV, .ref aM, .int (nI (n)), .int (nI (R))]))] sz) t) (va_A [(b0, .inr (0, [.ref u0, .ref f0, .ref e0, .ref g0, .ref aRp, .ref aNr, .ref aI, .ref c0, .ref h0, .int (an)])), (u0, .inr (1, [.ref aK, .ref aX, .ref aY, .ref aN, .ref aV, .ref aM, .int (nI (n)), .int (nI (R))]))] sz)) 1 6 (va_A [(b0, .inr (0, [.ref u0, .ref f0, .ref e0, .ref g0, .ref aRp, .ref aNr, .ref aI, .ref c0, .ref h0, .int (an)])), (u0, .inr (1, [.ref aK, .ref aX, .ref aY, .ref aN, .ref aV, .ref aM, .int (nI (n)), .int (nI (R))]))] sz) := by
  refine va_MetW (hh := [(0, 9, 12, 15)]) (cc := cL_constant) (maxL := 4) (ret := (some .int)) (by decide) rfl ?_
  intro p e s m args below meth c s₁ B hml hv0
  obtain ⟨hv0, hNx, hLx⟩ := hv0
  have hx := B.exec
  have hb := B.bytes
  have hr := B.returns
  have hts := atoms_spec (ws := wsL_constant) B.pre
  have hown : s.vm.findClass RL = some m.cls := findClass_of_methodNamed B.named
  have hlocks := B.notSynchronized
  have htb := dx_table B (hts _ List.mem_cons_self)
  obtain ⟨rfl, hsz, hG⟩ := dw_enter hv0
  generalize va_A [(b0, .inr (0, [.ref u0, .ref f0, .ref e0, .ref g0, .ref aRp, .ref aNr, .ref aI, .ref c0, .ref h0, .int (an)])), (u0, .inr (1, [.ref aK, .ref aX, .ref aY, .ref aN, .ref aV, .ref aM, .int (nI (n)), .int (nI (R))]))] sz = A at hG ⊢
  have hl := lv_entry ([.ref b0, .int (c9), .ref aOut]) (n := 4) (Nat.le_of_ble_eq_true rfl)
  rw [lg_entry_eq]
  generalize (lg_sl ([.ref b0, .int (c9), .ref aOut]) ++ List.replicate (4 - (lg_sl ([.ref b0, .int (c9), .ref aOut])).length) Slot.unset).toArray = ls at hl ⊢
  have hl : lv_has ls 4 [(0, .ref b0), (1, .int (c9)), (2, .ref aOut)] := hl
  refine dw_Q (fun Q hQ => ?_)
  suffices hgo : ∀ (H : Heap), H = s.heap → dw_G (dC, dI) vwCl [(cI, .int), (cZ, .boolean), (cJ, .long)] A s.heap s [(b0, .inr (0, [.ref u0, .ref f0, .ref e0, .ref g0, .ref aRp, .ref aNr, .ref aI, .ref c0, .ref h0, .int (an)])), (u0, .inr (1, [.ref aK, .ref aX, .ref aY, .ref aN, .ref aV, .ref aM, .int (nI (n)), .int (nI (R))]))] H [] → W p l e (headSpec wsL_constant { frames := 8, cells := 1, slots := 6, locals := 190 }).room s m [.ref b0, .int (c9), .ref aOut].toArray below meth c H [] 0 0 Q (F0 m 0 ls []) from hgo _ rfl hG
  clear hG
  intro H hH hG
  refine lv_aload_n hx hb dL_constant_0 rfl (lv_at hl 2 rfl) ?_
  refine lv_iconst (v := 0) hx hb dL_constant_1 (by decide) ?_
  refine lv_aload_n hx hb dL_constant_2 rfl (lv_at hl 0 rfl) ?_
  refine lv_iload_n hx hb dL_constant_3 rfl (lv_at hl 1 rfl) ?_
  refine dx_catch (As := [.int (c9)]) (rest := [.int (0), .ref aOut]) ⟨hx, hb, hml, hown, hts⟩ (cx_constant_1 l dC dI cI cZ htr b0 u0 aK aX aY aN aV aM f0 e0 g0 aRp aNr aI c0 h0 n R an c9 H.size hn) (dc_V 1 hts tw_357 tw_358 tw_359 tw_1 tw_360 rfl rfl (by decide +kernel) ⟨Nat.le_of_ble_eq_true rfl, Nat.le_of_ble_eq_true rfl⟩) (dw_preV (ci := 0) (wc := [(b0, .inr (0, [.ref u0, .ref f0, .ref e0, .ref g0, .ref aRp, .ref aNr, .ref aI, .ref c0, .ref h0, .int (an)])), (u0, .inr (1, [.ref aK, .ref aX, .ref aY, .ref aN, .ref aV, .ref aM, .int (nI (n)), .int (nI (R))]))]) hG [0, 1] [0, 1] rfl rfl (by decide) rfl rfl (q0 := 0) rfl) hG (fun T _ X => hNx.here X) rfl hl.1 rfl (Nat.le_of_ble_eq_true rfl) dL_constant_4 ⟨Nat.le_of_ble_eq_true rfl, Nat.le_of_ble_eq_true rfl⟩ [] (dx_ent (0, 9, 12, 15)) [] htb (fun _ h => nomatch h) (by decide) (by decide) (dx_li hLx 1 rfl) (dx_li hLx 4 rfl) (fun qx H hG => ?_)
  refine W.eq (g2 := F0 m 12 ls [.ref qx]) rfl ?_
  refine lv_astore_n (lv' := [(3, .ref qx), (0, .ref b0), (1, .int (c9)), (2, .ref aOut)]) hx hb dL_constant_12 rfl hl (by decide) rfl (fun ls hl => ?_)
  refine lv_iconst (v := 1) hx hb dL_constant_13 (by decide) ?_
  subst hQ
  exact dw_iret hx hb hr hG (()) rfl rfl dL_constant_14 hlocks

set_option maxRecDepth 100000 in
set_option maxHeartbeats 4000000 in
theorem lw_binary_1 (l : Launch) (dC : Nat → ClassId) (dI : Nat → Nat → Nat) (cI cZ : ClassId) (cJ : ClassId) (htr : l.stackTraces = false) (b0 u0 aK aX aY aN aV aM f0 e0 g0 aRp aNr aI c0 h0 n R : Nat) (an : Int32) (op x y : Int32) (aOut : Nat) (sz : Nat) (hbad : op < 0 ∨ 5 < op) : Met l yL_binary wsL_binary { frames := 8, cells := 1, slots := 6, locals := 190 } (fun a U => (va_Pc [.ref b0, .int (op), .int (x), .int (y), .ref aOut] (dw_pre (dC, dI) vwCl [(b0, .inr (0, [.ref u0, .ref f0, .ref e0, .ref g0, .ref aRp, .ref aNr, .ref aI, .ref c0, .ref h0, .int (an)])), (u0, .inr (1, [.ref aK, .ref aX, .ref aY, .ref aN, .ref aV, .ref aM, .int (nI (n)), .int (nI (R))]))] [(cI, .int), (cZ, .boolean), (cJ, .long)] sz)) a U ∧ dx_N U ∧ dx_L U) (va_Qi (fun (r : Int32) (u : Unit) => r = 1) (fun u t => dw_post (dC, dI) vwCl [(b0, .inr (0, [.ref u0, .ref f0, .ref e0, .ref g0, .ref aRp, .ref aNr, .ref aI, .ref c0, .ref h0, .int (an)])), (u0, .inr (1, [.ref aK, .ref aX, .ref aY, .ref aN, .ref aV, .ref aM, .int (nI (n)), .int (nI (R))]))] [(cI, .int), (cZ, .boolean), (cJ, .long)] (va_A [(b0, .inr (0, [.ref u0, .ref f0, .ref e0, .ref g0, .ref aRp, .ref aNr, .ref aI, .ref c0, .ref h0, .int (an)])), (u0, .inr (1, [.ref aK, .ref aX, .ref aY, .ref aN, .ref aV, .ref aM, .int (nI (n)), .int (nI (R))]))] sz) t) (va_A [(b0, .inr (0, [.ref u0, .ref f0, .ref e0, .ref g0, .ref aRp, .ref aNr, .ref aI, .ref c0, .ref h0, .int (an)])), (u0, .inr (1, [.ref aK, .ref aX, .ref aY, .ref aN, .ref aV, .ref aM, .int (nI (n)), .int (nI (R))]))] sz)) 1 6 (va_A [(b0, .inr (0, [.ref u0, .ref f0, .ref e0, .ref g0, .ref aRp, .ref aNr, .ref aI, .ref c0, .ref h0, .int (an)])), (u0, .inr (1, [.ref aK, .ref aX, .ref aY, .ref aN, .ref aV, .ref aM, .int (nI (n)), .int (nI (R))]))] sz) := by
  refine va_MetW (hh := [(0, 12, 15, 13), (0, 12, 19, 24), (0, 12, 23, 15)]) (cc := cL_binary) (maxL := 6) (ret := (some .int)) (by decide) rfl ?_
  intro p e s m args below meth c s₁ B hml hv0
  obtain ⟨hv0, hNx, hLx⟩ := hv0
  have hx := B.exec
  have hb := B.bytes
  have hr := B.returns
  have hts := atoms_spec (ws := wsL_binary) B.pre
  have hown : s.vm.findClass RL = some m.cls := findClass_of_methodNamed B.named
  have hlocks := B.notSynchronized
  have htb := dx_table B (hts _ List.mem_cons_self)
  obtain ⟨rfl, hsz, hG⟩ := dw_enter hv0
  generalize va_A [(b0, .inr (0, [.ref u0, .ref f0, .ref e0, .ref g0, .ref aRp, .ref aNr, .ref aI, .ref c0, .ref h0, .int (an)])), (u0, .inr (1, [.ref aK, .ref aX, .ref aY, .ref aN, .ref aV, .ref aM, .int (nI (n)), .int (nI (R))]))] sz = A at hG ⊢
  have hl := lv_entry ([.ref b0, .int (op), .int (x), .int (y), .ref aOut]) (n := 6) (Nat.le_of_ble_eq_true rfl)
  rw [lg_entry_eq]
  generalize (lg_sl ([.ref b0, .int (op), .int (x), .int (y), .ref aOut]) ++ List.replicate (6 - (lg_sl ([.ref b0, .int (op), .int (x), .int (y), .ref aOut])).length) Slot.unset).toArray = ls at hl ⊢
  have hl : lv_has ls 6 [(0, .ref b0), (1, .int (op)), (2, .int (x)), (3, .int (y)), (4, .ref aOut)] := hl
  refine dw_Q (fun Q hQ => ?_)
  suffices hgo : ∀ (H : Heap), H = s.heap → dw_G (dC, dI) vwCl [(cI, .int), (cZ, .boolean), (cJ, .long)] A s.heap s [(b0, .inr (0, [.ref u0, .ref f0, .ref e0, .ref g0, .ref aRp, .ref aNr, .ref aI, .ref c0, .ref h0, .int (an)])), (u0, .inr (1, [.ref aK, .ref aX, .ref aY, .ref aN, .ref aV, .ref aM, .int (nI (n)), .int (nI (R))]))] H [] → W p l e (headSpec wsL_binary { frames := 8, cells := 1, slots := 6, locals := 190 }).room s m [.ref b0, .int (op), .int (x), .int (y), .ref aOut].toArray below meth c H [] 0 0 Q (F0 m 0 ls []) from hgo _ rfl hG
  clear hG
  intro H hH hG
  refine lv_aload hx hb dL_binary_0 (lv_at hl 4 rfl) ?_
  refine lv_iconst (v := 0) hx hb dL_binary_2 (by decide) ?_
  refine lv_aload_n hx hb dL_binary_3 rfl (lv_at hl 0 rfl) ?_
  refine lv_iload_n hx hb dL_binary_4 rfl (lv_at hl 1 rfl) ?_
  refine lv_iload_n hx hb dL_binary_5 rfl (lv_at hl 2 rfl) ?_
  refine lv_iload_n hx hb dL_binary_6 rfl (lv_at hl 3 rfl) ?_
  refine dx_catch (As := [.int (op), .int (x), .int (y)]) (rest := [.int (0), .ref aOut]) ⟨hx, hb, hml, hown, hts⟩ (cx_binary_1 l dC dI cI cZ htr b0 u0 aK aX aY aN aV aM f0 e0 g0 aRp aNr aI c0 h0 n R an op x y H.size hbad) (dc_V 3 hts tw_365 tw_366 tw_367 tw_1 tw_368 rfl rfl (by decide +kernel) ⟨Nat.le_of_ble_eq_true rfl, Nat.le_of_ble_eq_true rfl⟩) (dw_preV (ci := 0) (wc := [(b0, .inr (0, [.ref u0, .ref f0, .ref e0, .ref g0, .ref aRp, .ref aNr, .ref aI, .ref c0, .ref h0, .int (an)])), (u0, .inr (1, [.ref aK, .ref aX, .ref aY, .ref aN, .ref aV, .ref aM, .int (nI (n)), .int (nI (R))]))]) hG [0, 1] [0, 1] rfl rfl (by decide) rfl rfl (q0 := 0) rfl) hG (fun T _ X => hNx.here X) rfl hl.1 rfl (Nat.le_of_ble_eq_true rfl) dL_binary_7 ⟨Nat.le_of_ble_eq_true rfl, Nat.le_of_ble_eq_true rfl⟩ [] (dx_ent (0, 12, 15, 13)) [dx_ent (0, 12, 19, 24), dx_ent (0, 12, 23, 15)] htb (fun _ h => nomatch h) (by decide) (by decide) (dx_li hLx 0 rfl) (dx_li hLx 3 rfl) (fun qx H hG => ?_)
  refine W.eq (g2 := F0 m 15 ls [.ref qx]) rfl ?_
  refine lv_astore (lv' := [(5, .ref qx), (0, .ref b0), (1, .int (op)), (2, .int (x)), (3, .int (y)), (4, .ref aOut)]) hx hb dL_binary_15 hl (by decide) rfl (fun ls hl => ?_)
  refine lv_iconst (v := 1) hx hb dL_binary_17 (by decide) ?_
  subst hQ
  exact dw_iret hx hb hr hG (()) rfl rfl dL_binary_18 hlocks

set_option maxRecDepth 100000 in
set_option maxHeartbeats 4000000 in
theorem lw_binary_2x (l : Launch) (dC : Nat → ClassId) (dI : Nat → Nat → Nat) (cI cZ : ClassId) (cJ : ClassId) (htr : l.stackTraces = false) (b0 u0 aK aX aY aN aV aM f0 e0 g0 aRp aNr aI c0 h0 n R : Nat) (an : Int32) (op : Nat) (x y : Int32) (aOut : Nat) (sz : Nat) (ho : op ≤ 5) (hinv : x < 0 ∨ nI n ≤ x) : Met l yL_binary wsL_binary { frames := 8, cells := 1, slots := 6, locals := 190 } (fun a U => (va_Pc [.ref b0, .int (nI (op)), .int (x), .int (y), .ref aOut] (dw_pre (dC, dI) vwCl [(b0, .inr (0, [.ref u0, .ref f0, .ref e0, .ref g0, .ref aRp, .ref aNr, .ref aI, .ref c0, .ref h0, .int (an)])), (u0, .inr (1, [.ref aK, .ref aX, .ref aY, .ref aN, .ref aV, .ref aM, .int (nI (n)), .int (nI (R))]))] [(cI, .int), (cZ, .boolean), (cJ, .long)] sz)) a U ∧ dx_N U ∧ dx_L U) (va_Qi (fun (r : Int32) (u : Unit) => r = 2) (fun u t => dw_post (dC, dI) vwCl [(b0, .inr (0, [.ref u0, .ref f0, .ref e0, .ref g0, .ref aRp, .ref aNr, .ref aI, .ref c0, .ref h0, .int (an)])), (u0, .inr (1, [.ref aK, .ref aX, .ref aY, .ref aN, .ref aV, .ref aM, .int (nI (n)), .int (nI (R))]))] [(cI, .int), (cZ, .boolean), (cJ, .long)] (va_A [(b0, .inr (0, [.ref u0, .ref f0, .ref e0, .ref g0, .ref aRp, .ref aNr, .ref aI, .ref c0, .ref h0, .int (an)])), (u0, .inr (1, [.ref aK, .ref aX, .ref aY, .ref aN, .ref aV, .ref aM, .int (nI (n)), .int (nI (R))]))] sz) t) (va_A [(b0, .inr (0, [.ref u0, .ref f0, .ref e0, .ref g0, .ref aRp, .ref aNr, .ref aI, .ref c0, .ref h0, .int (an)])), (u0, .inr (1, [.ref aK, .ref aX, .ref aY, .ref aN, .ref aV, .ref aM, .int (nI (n)), .int (nI (R))]))] sz)) 1 6 (va_A [(b0, .inr (0, [.ref u0, .ref f0, .ref e0, .ref g0, .ref aRp, .ref aNr, .ref aI, .ref c0, .ref h0, .int (an)])), (u0, .inr (1, [.ref aK, .ref aX, .ref aY, .ref aN, .ref aV, .ref aM, .int (nI (n)), .int (nI (R))]))] sz) := by
  refine va_MetW (hh := [(0, 12, 15, 13), (0, 12, 19, 24), (0, 12, 23, 15)]) (cc := cL_binary) (maxL := 6) (ret := (some .int)) (by decide) rfl ?_
  intro p e s m args below meth c s₁ B hml hv0
  obtain ⟨hv0, hNx, hLx⟩ := hv0
  have hx := B.exec
  have hb := B.bytes
  have hr := B.returns
  have hts := atoms_spec (ws := wsL_binary) B.pre
  have hown : s.vm.findClass RL = some m.cls := findClass_of_methodNamed B.named
  have hlocks := B.notSynchronized
  have htb := dx_table B (hts _ List.mem_cons_self)
  obtain ⟨rfl, hsz, hG⟩ := dw_enter hv0
  generalize va_A [(b0, .inr (0, [.ref u0, .ref f0, .ref e0, .ref g0, .ref aRp, .ref aNr, .ref aI, .ref c0, .ref h0, .int (an)])), (u0, .inr (1, [.ref aK, .ref aX, .ref aY, .ref aN, .ref aV, .ref aM, .int (nI (n)), .int (nI (R))]))] sz = A at hG ⊢
  have hl := lv_entry ([.ref b0, .int (nI (op)), .int (x), .int (y), .ref aOut]) (n := 6) (Nat.le_of_ble_eq_true rfl)
  rw [lg_entry_eq]
  generalize (lg_sl ([.ref b0, .int (nI (op)), .int (x), .int (y), .ref aOut]) ++ List.replicate (6 - (lg_sl ([.ref b0, .int (nI (op)), .int (x), .int (y), .ref aOut])).length) Slot.unset).toArray = ls at hl ⊢
  have hl : lv_has ls 6 [(0, .ref b0), (1, .int (nI (op))), (2, .int (x)), (3, .int (y)), (4, .ref aOut)] := hl
  refine dw_Q (fun Q hQ => ?_)
  suffices hgo : ∀ (H : Heap), H = s.heap → dw_G (dC, dI) vwCl [(cI, .int), (cZ, .boolean), (cJ, .long)] A s.heap s [(b0, .inr (0, [.ref u0, .ref f0, .ref e0, .ref g0, .ref aRp, .ref aNr, .ref aI, .ref c0, .ref h0, .int (an)])), (u0, .inr (1, [.ref aK, .ref aX, .ref aY, .ref aN, .ref aV, .ref aM, .int (nI (n)), .int (nI (R))]))] H [] → W p l e (headSpec wsL_binary { frames := 8, cells := 1, slots := 6, locals := 190 }).room s m [.ref b0, .int (nI (op)), .int (x), .int (y), .ref aOut].toArray below meth c H [] 0 0 Q (F0 m 0 ls []) from hgo _ rfl hG
  clear hG
  intro H hH hG
  refine lv_aload hx hb dL_binary_0 (lv_at hl 4 rfl) ?_
  refine lv_iconst (v := 0) hx hb dL_binary_2 (by decide) ?_
  refine lv_aload_n hx hb dL_binary_3 rfl (lv_at hl 0 rfl) ?_
  refine lv_iload_n hx hb dL_binary_4 rfl (lv_at hl 1 rfl) ?_
  refine lv_iload_n hx hb dL_binary_5 rfl (lv_at hl 2 rfl) ?_
  refine lv_iload_n hx hb dL_binary_6 rfl (lv_at hl 3 rfl) ?_
  refine dx_catch (As := [.int (nI (op)), .int (x), .int (y)]) (rest := [.int (0), .ref aOut]) ⟨hx, hb, hml, hown, hts⟩ (cx_binary_2x l dC dI cI cZ htr b0 u0 aK aX aY aN aV aM f0 e0 g0 aRp aNr aI c0 h0 n R an op x y H.size ho hinv) (dc_V 3 hts tw_365 tw_366 tw_367 tw_1 tw_368 rfl rfl (by decide +kernel) ⟨Nat.le_of_ble_eq_true rfl, Nat.le_of_ble_eq_true rfl⟩) (dw_preV (ci := 0) (wc := [(b0, .inr (0, [.ref u0, .ref f0, .ref e0, .ref g0, .ref aRp, .ref aNr, .ref aI, .ref c0, .ref h0, .int (an)])), (u0, .inr (1, [.ref aK, .ref aX, .ref aY, .ref aN, .ref aV, .ref aM, .int (nI (n)), .int (nI (R))]))]) hG [0, 1] [0, 1] rfl rfl (by decide) rfl rfl (q0 := 0) rfl) hG (fun T _ X => hNx.here X) rfl hl.1 rfl (Nat.le_of_ble_eq_true rfl) dL_binary_7 ⟨Nat.le_of_ble_eq_true rfl, Nat.le_of_ble_eq_true rfl⟩ [dx_ent (0, 12, 15, 13)] (dx_ent (0, 12, 19, 24)) [dx_ent (0, 12, 23, 15)] htb (List.forall_mem_cons.mpr ⟨⟨xIA, by decide, dx_li hLx 0 rfl, dx_li hLx 7 rfl⟩, (fun _ h => nomatch h)⟩) (by decide) (by decide) (dx_li hLx 2 rfl) (dx_li hLx 5 rfl) (fun qx H hG => ?_)
  refine W.eq (g2 := F0 m 19 ls [.ref qx]) rfl ?_
  refine lv_astore (lv' := [(5, .ref qx), (0, .ref b0), (1, .int (nI (op))), (2, .int (x)), (3, .int (y)), (4, .ref aOut)]) hx hb dL_binary_19 hl (by decide) rfl (fun ls hl => ?_)
  refine lv_iconst (v := 2) hx hb dL_binary_21 (by decide) ?_
  subst hQ
  exact dw_iret hx hb hr hG (()) rfl rfl dL_binary_22 hlocks

set_option maxRecDepth 100000 in
set_option maxHeartbeats 4000000 in
theorem lw_binary_2y (l : Launch) (dC : Nat → ClassId) (dI : Nat → Nat → Nat) (cI cZ : ClassId) (cJ : ClassId) (htr : l.stackTraces = false) (b0 u0 aK aX aY aN aV aM f0 e0 g0 aRp aNr aI c0 h0 n R : Nat) (an : Int32) (op x : Nat) (y : Int32) (aOut : Nat) (sz : Nat) (ho : op ≤ 5) (hn : n ≤ 24) (hx9 : x < n) (hinv : y < 0 ∨ nI n ≤ y) : Met l yL_binary wsL_binary { frames := 8, cells := 1, slots := 6, locals := 190 } (fun a U => (va_Pc [.ref b0, .int (nI (op)), .int (nI (x)), .int (y), .ref aOut] (dw_pre (dC, dI) vwCl [(b0, .inr (0, [.ref u0, .ref f0, .ref e0, .ref g0, .ref aRp, .ref aNr, .ref aI, .ref c0, .ref h0, .int (an)])), (u0, .inr (1, [.ref aK, .ref aX, .ref aY, .ref aN, .ref aV, .ref aM, .int (nI (n)), .int (nI (R))]))] [(cI, .int), (cZ, .boolean), (cJ, .long)] sz)) a U ∧ dx_N U ∧ dx_L U) (va_Qi (fun (r : Int32) (u : Unit) => r = 2) (fun u t => dw_post (dC, dI) vwCl [(b0, .inr (0, [.ref u0, .ref f0, .ref e0, .ref g0, .ref aRp, .ref aNr, .ref aI, .ref c0, .ref h0, .int (an)])), (u0, .inr (1, [.ref aK, .ref aX, .ref aY, .ref aN, .ref aV, .ref aM, .int (nI (n)), .int (nI (R))]))] [(cI, .int), (cZ, .boolean), (cJ, .long)] (va_A [(b0, .inr (0, [.ref u0, .ref f0, .ref e0, .ref g0, .ref aRp, .ref aNr, .ref aI, .ref c0, .ref h0, .int (an)])), (u0, .inr (1, [.ref aK, .ref aX, .ref aY, .ref aN, .ref aV, .ref aM, .int (nI (n)), .int (nI (R))]))] sz) t) (va_A [(b0, .inr (0, [.ref u0, .ref f0, .ref e0, .ref g0, .ref aRp, .ref aNr, .ref aI, .ref c0, .ref h0, .int (an)])), (u0, .inr (1, [.ref aK, .ref aX, .ref aY, .ref aN, .ref aV, .ref aM, .int (nI (n)), .int (nI (R))]))] sz)) 1 6 (va_A [(b0, .inr (0, [.ref u0, .ref f0, .ref e0, .ref g0, .ref aRp, .ref aNr, .ref aI, .ref c0, .ref h0, .int (an)])), (u0, .inr (1, [.ref aK, .ref aX, .ref aY, .ref aN, .ref aV, .ref aM, .int (nI (n)), .int (nI (R))]))] sz) := by
  refine va_MetW (hh := [(0, 12, 15, 13), (0, 12, 19, 24), (0, 12, 23, 15)]) (cc := cL_binary) (maxL := 6) (ret := (some .int)) (by decide) rfl ?_
  intro p e s m args below meth c s₁ B hml hv0
  obtain ⟨hv0, hNx, hLx⟩ := hv0
  have hx := B.exec
  have hb := B.bytes
  have hr := B.returns
  have hts := atoms_spec (ws := wsL_binary) B.pre
  have hown : s.vm.findClass RL = some m.cls := findClass_of_methodNamed B.named
  have hlocks := B.notSynchronized
  have htb := dx_table B (hts _ List.mem_cons_self)
  obtain ⟨rfl, hsz, hG⟩ := dw_enter hv0
  generalize va_A [(b0, .inr (0, [.ref u0, .ref f0, .ref e0, .ref g0, .ref aRp, .ref aNr, .ref aI, .ref c0, .ref h0, .int (an)])), (u0, .inr (1, [.ref aK, .ref aX, .ref aY, .ref aN, .ref aV, .ref aM, .int (nI (n)), .int (nI (R))]))] sz = A at hG ⊢
  have hl := lv_entry ([.ref b0, .int (nI (op)), .int (nI (x)), .int (y), .ref aOut]) (n := 6) (Nat.le_of_ble_eq_true rfl)
  rw [lg_entry_eq]
  generalize (lg_sl ([.ref b0, .int (nI (op)), .int (nI (x)), .int (y), .ref aOut]) ++ List.replicate (6 - (lg_sl ([.ref b0, .int (nI (op)), .int (nI (x)), .int (y), .ref aOut])).length) Slot.unset).toArray = ls at hl ⊢
  have hl : lv_has ls 6 [(0, .ref b0), (1, .int (nI (op))), (2, .int (nI (x))), (3, .int (y)), (4, .ref aOut)] := hl
  refine dw_Q (fun Q hQ => ?_)
  suffices hgo : ∀ (H : Heap), H = s.heap → dw_G (dC, dI) vwCl [(cI, .int), (cZ, .boolean), (cJ, .long)] A s.heap s [(b0, .inr (0, [.ref u0, .ref f0, .ref e0, .ref g0, .ref aRp, .ref aNr, .ref aI, .ref c0, .ref h0, .int (an)])), (u0, .inr (1, [.ref aK, .ref aX, .ref aY, .ref aN, .ref aV, .ref aM, .int (nI (n)), .int (nI (R))]))] H [] → W p l e (headSpec wsL_binary { frames := 8, cells := 1, slots := 6, locals := 190 }).room s m [.ref b0, .int (nI (op)), .int (nI (x)), .int (y), .ref aOut].toArray below meth c H [] 0 0 Q (F0 m 0 ls []) from hgo _ rfl hG
  clear hG
  intro H hH hG
  refine lv_aload hx hb dL_binary_0 (lv_at hl 4 rfl) ?_
  refine lv_iconst (v := 0) hx hb dL_binary_2 (by decide) ?_
  refine lv_aload_n hx hb dL_binary_3 rfl (lv_at hl 0 rfl) ?_
  refine lv_iload_n hx hb dL_binary_4 rfl (lv_at hl 1 rfl) ?_
  refine lv_iload_n hx hb dL_binary_5 rfl (lv_at hl 2 rfl) ?_
  refine lv_iload_n hx hb dL_binary_6 rfl (lv_at hl 3 rfl) ?_
  refine dx_catch (As := [.int (nI (op)), .int (nI (x)), .int (y)]) (rest := [.int (0), .ref aOut]) ⟨hx, hb, hml, hown, hts⟩ (cx_binary_2y l dC dI cI cZ htr b0 u0 aK aX aY aN aV aM f0 e0 g0 aRp aNr aI c0 h0 n R an op x y H.size ho hn hx9 hinv) (dc_V 3 hts tw_365 tw_366 tw_367 tw_1 tw_368 rfl rfl (by decide +kernel) ⟨Nat.le_of_ble_eq_true rfl, Nat.le_of_ble_eq_true rfl⟩) (dw_preV (ci := 0) (wc := [(b0, .inr (0, [.ref u0, .ref f0, .ref e0, .ref g0, .ref aRp, .ref aNr, .ref aI, .ref c0, .ref h0, .int (an)])), (u0, .inr (1, [.ref aK, .ref aX, .ref aY, .ref aN, .ref aV, .ref aM, .int (nI (n)), .int (nI (R))]))]) hG [0, 1] [0, 1] rfl rfl (by decide) rfl rfl (q0 := 0) rfl) hG (fun T _ X => hNx.here X) rfl hl.1 rfl (Nat.le_of_ble_eq_true rfl) dL_binary_7 ⟨Nat.le_of_ble_eq_true rfl, Nat.le_of_ble_eq_true rfl⟩ [dx_ent (0, 12, 15, 13)] (dx_ent (0, 12, 19, 24)) [dx_ent (0, 12, 23, 15)] htb (List.forall_mem_cons.mpr ⟨⟨xIA, by decide, dx_li hLx 0 rfl, dx_li hLx 7 rfl⟩, (fun _ h => nomatch h)⟩) (by decide) (by decide) (dx_li hLx 2 rfl) (dx_li hLx 5 rfl) (fun qx H hG => ?_)
  refine W.eq (g2 := F0 m 19 ls [.ref qx]) rfl ?_
  refine lv_astore (lv' := [(5, .ref qx), (0, .ref b0), (1, .int (nI (op))), (2, .int (nI (x))), (3, .int (y)), (4, .ref aOut)]) hx hb dL_binary_19 hl (by decide) rfl (fun ls hl => ?_)
  refine lv_iconst (v := 2) hx hb dL_binary_21 (by decide) ?_
  subst hQ
  exact dw_iret hx hb hr hG (()) rfl rfl dL_binary_22 hlocks

set_option maxRecDepth 100000 in
set_option maxHeartbeats 4000000 in
theorem lw_binary_3 (l : Launch) (dC : Nat → ClassId) (dI : Nat → Nat → Nat) (cI cZ : ClassId) (cJ : ClassId) (htr : l.stackTraces = false) (b0 u0 aK aX aY aN aV aM f0 e0 g0 aRp aNr aI c0 h0 n R : Nat) (an : Int32) (op x y : Nat) (aOut : Nat) (sz : Nat) (ho : op ≤ 5) (hx9 : x < n) (hy9 : y < n) (hn : n = 24) : Met l yL_binary wsL_binary { frames := 8, cells := 1, slots := 6, locals := 190 } (fun a U => (va_Pc [.ref b0, .int (nI (op)), .int (nI (x)), .int (nI (y)), .ref aOut] (dw_pre (dC, dI) vwCl [(b0, .inr (0, [.ref u0, .ref f0, .ref e0, .ref g0, .ref aRp, .ref aNr, .ref aI, .ref c0, .ref h0, .int (an)])), (u0, .inr (1, [.ref aK, .ref aX, .ref aY, .ref aN, .ref aV, .ref aM, .int (nI (n)), .int (nI (R))]))] [(cI, .int), (cZ, .boolean), (cJ, .long)] sz)) a U ∧ dx_N U ∧ dx_L U) (va_Qi (fun (r : Int32) (u : Unit) => r = 3) (fun u t => dw_post (dC, dI) vwCl [(b0, .inr (0, [.ref u0, .ref f0, .ref e0, .ref g0, .ref aRp, .ref aNr, .ref aI, .ref c0, .ref h0, .int (an)])), (u0, .inr (1, [.ref aK, .ref aX, .ref aY, .ref aN, .ref aV, .ref aM, .int (nI (n)), .int (nI (R))]))] [(cI, .int), (cZ, .boolean), (cJ, .long)] (va_A [(b0, .inr (0, [.ref u0, .ref f0, .ref e0, .ref g0, .ref aRp, .ref aNr, .ref aI, .ref c0, .ref h0, .int (an)])), (u0, .inr (1, [.ref aK, .ref aX, .ref aY, .ref aN, .ref aV, .ref aM, .int (nI (n)), .int (nI (R))]))] sz) t) (va_A [(b0, .inr (0, [.ref u0, .ref f0, .ref e0, .ref g0, .ref aRp, .ref aNr, .ref aI, .ref c0, .ref h0, .int (an)])), (u0, .inr (1, [.ref aK, .ref aX, .ref aY, .ref aN, .ref aV, .ref aM, .int (nI (n)), .int (nI (R))]))] sz)) 1 6 (va_A [(b0, .inr (0, [.ref u0, .ref f0, .ref e0, .ref g0, .ref aRp, .ref aNr, .ref aI, .ref c0, .ref h0, .int (an)])), (u0, .inr (1, [.ref aK, .ref aX, .ref aY, .ref aN, .ref aV, .ref aM, .int (nI (n)), .int (nI (R))]))] sz) := by
  refine va_MetW (hh := [(0, 12, 15, 13), (0, 12, 19, 24), (0, 12, 23, 15)]) (cc := cL_binary) (maxL := 6) (ret := (some .int)) (by decide) rfl ?_
  intro p e s m args below meth c s₁ B hml hv0
  obtain ⟨hv0, hNx, hLx⟩ := hv0
  have hx := B.exec
  have hb := B.bytes
  have hr := B.returns
  have hts := atoms_spec (ws := wsL_binary) B.pre
  have hown : s.vm.findClass RL = some m.cls := findClass_of_methodNamed B.named
  have hlocks := B.notSynchronized
  have htb := dx_table B (hts _ List.mem_cons_self)
  obtain ⟨rfl, hsz, hG⟩ := dw_enter hv0
  generalize va_A [(b0, .inr (0, [.ref u0, .ref f0, .ref e0, .ref g0, .ref aRp, .ref aNr, .ref aI, .ref c0, .ref h0, .int (an)])), (u0, .inr (1, [.ref aK, .ref aX, .ref aY, .ref aN, .ref aV, .ref aM, .int (nI (n)), .int (nI (R))]))] sz = A at hG ⊢
  have hl := lv_entry ([.ref b0, .int (nI (op)), .int (nI (x)), .int (nI (y)), .ref aOut]) (n := 6) (Nat.le_of_ble_eq_true rfl)
  rw [lg_entry_eq]
  generalize (lg_sl ([.ref b0, .int (nI (op)), .int (nI (x)), .int (nI (y)), .ref aOut]) ++ List.replicate (6 - (lg_sl ([.ref b0, .int (nI (op)), .int (nI (x)), .int (nI (y)), .ref aOut])).length) Slot.unset).toArray = ls at hl ⊢
  have hl : lv_has ls 6 [(0, .ref b0), (1, .int (nI (op))), (2, .int (nI (x))), (3, .int (nI (y))), (4, .ref aOut)] := hl
  refine dw_Q (fun Q hQ => ?_)
  suffices hgo : ∀ (H : Heap), H = s.heap → dw_G (dC, dI) vwCl [(cI, .int), (cZ, .boolean), (cJ, .long)] A s.heap s [(b0, .inr (0, [.ref u0, .ref f0, .ref e0, .ref g0, .ref aRp, .ref aNr, .ref aI, .ref c0, .ref h0, .int (an)])), (u0, .inr (1, [.ref aK, .ref aX, .ref aY, .ref aN, .ref aV, .ref aM, .int (nI (n)), .int (nI (R))]))] H [] → W p l e (headSpec wsL_binary { frames := 8, cells := 1, slots := 6, locals := 190 }).room s m [.ref b0, .int (nI (op)), .int (nI (x)), .int (nI (y)), .ref aOut].toArray below meth c H [] 0 0 Q (F0 m 0 ls []) from hgo _ rfl hG
  clear hG
  intro H hH hG
  refine lv_aload hx hb dL_binary_0 (lv_at hl 4 rfl) ?_
  refine lv_iconst (v := 0) hx hb dL_binary_2 (by decide) ?_
  refine lv_aload_n hx hb dL_binary_3 rfl (lv_at hl 0 rfl) ?_
  refine lv_iload_n hx hb dL_binary_4 rfl (lv_at hl 1 rfl) ?_
  refine lv_iload_n hx hb dL_binary_5 rfl (lv_at hl 2 rfl) ?_
  refine lv_iload_n hx hb dL_binary_6 rfl (lv_at hl 3 rfl) ?_
  refine dx_catch (As := [.int (nI (op)), .int (nI (x)), .int (nI (y))]) (rest := [.int (0), .ref aOut]) ⟨hx, hb, hml, hown, hts⟩ (cx_binary_3 l dC dI cI cZ htr b0 u0 aK aX aY aN aV aM f0 e0 g0 aRp aNr aI c0 h0 n R an op x y H.size ho hx9 hy9 hn) (dc_V 3 hts tw_365 tw_366 tw_367 tw_1 tw_368 rfl rfl (by decide +kernel) ⟨Nat.le_of_ble_eq_true rfl, Nat.le_of_ble_eq_true rfl⟩) (dw_preV (ci := 0) (wc := [(b0, .inr (0, [.ref u0, .ref f0, .ref e0, .ref g0, .ref aRp, .ref aNr, .ref aI, .ref c0, .ref h0, .int (an)])), (u0, .inr (1, [.ref aK, .ref aX, .ref aY, .ref aN, .ref aV, .ref aM, .int (nI (n)), .int (nI (R))]))]) hG [0, 1] [0, 1] rfl rfl (by decide) rfl rfl (q0 := 0) rfl) hG (fun T _ X => hNx.here X) rfl hl.1 rfl (Nat.le_of_ble_eq_true rfl) dL_binary_7 ⟨Nat.le_of_ble_eq_true rfl, Nat.le_of_ble_eq_true rfl⟩ [dx_ent (0, 12, 15, 13), dx_ent (0, 12, 19, 24)] (dx_ent (0, 12, 23, 15)) [] htb (List.forall_mem_cons.mpr ⟨⟨xIA, by decide, dx_li hLx 0 rfl, dx_li hLx 6 rfl⟩, (List.forall_mem_cons.mpr ⟨⟨xIO, by decide, dx_li hLx 2 rfl, dx_li hLx 11 rfl⟩, (fun _ h => nomatch h)⟩)⟩) (by decide) (by decide) (dx_li hLx 1 rfl) (dx_li hLx 4 rfl) (fun qx H hG => ?_)
  refine W.eq (g2 := F0 m 23 ls [.ref qx]) rfl ?_
  refine lv_astore (lv' := [(5, .ref qx), (0, .ref b0), (1, .int (nI (op))), (2, .int (nI (x))), (3, .int (nI (y))), (4, .ref aOut)]) hx hb dL_binary_23 hl (by decide) rfl (fun ls hl => ?_)
  refine lv_iconst (v := 3) hx hb dL_binary_25 (by decide) ?_
  subst hQ
  exact dw_iret hx hb hr hG (()) rfl rfl dL_binary_26 hlocks

set_option maxRecDepth 100000 in
set_option maxHeartbeats 4000000 in
theorem lw_shift_1o (l : Launch) (dC : Nat → ClassId) (dI : Nat → Nat → Nat) (cI cZ : ClassId) (cJ : ClassId) (htr : l.stackTraces = false) (b0 u0 aK aX aY aN aV aM f0 e0 g0 aRp aNr aI c0 h0 n R : Nat) (an : Int32) (op x d : Int32) (aOut : Nat) (sz : Nat) (hbad : op < 0 ∨ 2 < op) : Met l yL_shift wsL_shift { frames := 8, cells := 1, slots := 6, locals := 190 } (fun a U => (va_Pc [.ref b0, .int (op), .int (x), .int (d), .ref aOut] (dw_pre (dC, dI) vwCl [(b0, .inr (0, [.ref u0, .ref f0, .ref e0, .ref g0, .ref aRp, .ref aNr, .ref aI, .ref c0, .ref h0, .int (an)])), (u0, .inr (1, [.ref aK, .ref aX, .ref aY, .ref aN, .ref aV, .ref aM, .int (nI (n)), .int (nI (R))]))] [(cI, .int), (cZ, .boolean), (cJ, .long)] sz)) a U ∧ dx_N U ∧ dx_L U) (va_Qi (fun (r : Int32) (u : Unit) => r = 1) (fun u t => dw_post (dC, dI) vwCl [(b0, .inr (0, [.ref u0, .ref f0, .ref e0, .ref g0, .ref aRp, .ref aNr, .ref aI, .ref c0, .ref h0, .int (an)])), (u0, .inr (1, [.ref aK, .ref aX, .ref aY, .ref aN, .ref aV, .ref aM, .int (nI (n)), .int (nI (R))]))] [(cI, .int), (cZ, .boolean), (cJ, .long)] (va_A [(b0, .inr (0, [.ref u0, .ref f0, .ref e0, .ref g0, .ref aRp, .ref aNr, .ref aI, .ref c0, .ref h0, .int (an)])), (u0, .inr (1, [.ref aK, .ref aX, .ref aY, .ref aN, .ref aV, .ref aM, .int (nI (n)), .int (nI (R))]))] sz) t) (va_A [(b0, .inr (0, [.ref u0, .ref f0, .ref e0, .ref g0, .ref aRp, .ref aNr, .ref aI, .ref c0, .ref h0, .int (an)])), (u0, .inr (1, [.ref aK, .ref aX, .ref aY, .ref aN, .ref aV, .ref aM, .int (nI (n)), .int (nI (R))]))] sz)) 1 6 (va_A [(b0, .inr (0, [.ref u0, .ref f0, .ref e0, .ref g0, .ref aRp, .ref aNr, .ref aI, .ref c0, .ref h0, .int (an)])), (u0, .inr (1, [.ref aK, .ref aX, .ref aY, .ref aN, .ref aV, .ref aM, .int (nI (n)), .int (nI (R))]))] sz) := by
  refine va_MetW (hh := [(0, 12, 15, 13), (0, 12, 19, 24), (0, 12, 23, 15)]) (cc := cL_shift) (maxL := 6) (ret := (some .int)) (by decide) rfl ?_
  intro p e s m args below meth c s₁ B hml hv0
  obtain ⟨hv0, hNx, hLx⟩ := hv0
  have hx := B.exec
  have hb := B.bytes
  have hr := B.returns
  have hts := atoms_spec (ws := wsL_shift) B.pre
  have hown : s.vm.findClass RL = some m.cls := findClass_of_methodNamed B.named
  have hlocks := B.notSynchronized
  have htb := dx_table B (hts _ List.mem_cons_self)
  obtain ⟨rfl, hsz, hG⟩ := dw_enter hv0
  generalize va_A [(b0, .inr (0, [.ref u0, .ref f0, .ref e0, .ref g0, .ref aRp, .ref aNr, .ref aI, .ref c0, .ref h0, .int (an)])), (u0, .inr (1, [.ref aK, .ref aX, .ref aY, .ref aN, .ref aV, .ref aM, .int (nI (n)), .int (nI (R))]))] sz = A at hG ⊢
  have hl := lv_entry ([.ref b0, .int (op), .int (x), .int (d), .ref aOut]) (n := 6) (Nat.le_of_ble_eq_true rfl)
  rw [lg_entry_eq]
  generalize (lg_sl ([.ref b0, .int (op), .int (x), .int (d), .ref aOut]) ++ List.replicate (6 - (lg_sl ([.ref b0, .int (op), .int (x), .int (d), .ref aOut])).length) Slot.unset).toArray = ls at hl ⊢
  have hl : lv_has ls 6 [(0, .ref b0), (1, .int (op)), (2, .int (x)), (3, .int (d)), (4, .ref aOut)] := hl
  refine dw_Q (fun Q hQ => ?_)
  suffices hgo : ∀ (H : Heap), H = s.heap → dw_G (dC, dI) vwCl [(cI, .int), (cZ, .boolean), (cJ, .long)] A s.heap s [(b0, .inr (0, [.ref u0, .ref f0, .ref e0, .ref g0, .ref aRp, .ref aNr, .ref aI, .ref c0, .ref h0, .int (an)])), (u0, .inr (1, [.ref aK, .ref aX, .ref aY, .ref aN, .ref aV, .ref aM, .int (nI (n)), .int (nI (R))]))] H [] → W p l e (headSpec wsL_shift { frames := 8, cells := 1, slots := 6, locals := 190 }).room s m [.ref b0, .int (op), .int (x), .int (d), .ref aOut].toArray below meth c H [] 0 0 Q (F0 m 0 ls []) from hgo _ rfl hG
  clear hG
  intro H hH hG
  refine lv_aload hx hb dL_shift_0 (lv_at hl 4 rfl) ?_
  refine lv_iconst (v := 0) hx hb dL_shift_2 (by decide) ?_
  refine lv_aload_n hx hb dL_shift_3 rfl (lv_at hl 0 rfl) ?_
  refine lv_iload_n hx hb dL_shift_4 rfl (lv_at hl 1 rfl) ?_
  refine lv_iload_n hx hb dL_shift_5 rfl (lv_at hl 2 rfl) ?_
  refine lv_iload_n hx hb dL_shift_6 rfl (lv_at hl 3 rfl) ?_
  refine dx_catch (As := [.int (op), .int (x), .int (d)]) (rest := [.int (0), .ref aOut]) ⟨hx, hb, hml, hown, hts⟩ (cx_shift_1o l dC dI cI cZ htr b0 u0 aK aX aY aN aV aM f0 e0 g0 aRp aNr aI c0 h0 n R an op x d H.size hbad) (dc_V 3 hts tw_393 tw_394 tw_395 tw_1 tw_396 rfl rfl (by decide +kernel) ⟨Nat.le_of_ble_eq_true rfl, Nat.le_of_ble_eq_true rfl⟩) (dw_preV (ci := 0) (wc := [(b0, .inr (0, [.ref u0, .ref f0, .ref e0, .ref g0, .ref aRp, .ref aNr, .ref aI, .ref c0, .ref h0, .int (an)])), (u0, .inr (1, [.ref aK, .ref aX, .ref aY, .ref aN, .ref aV, .ref aM, .int (nI (n)), .int (nI (R))]))]) hG [0, 1] [0, 1] rfl rfl (by decide) rfl rfl (q0 := 0) rfl) hG (fun T _ X => hNx.here X) rfl hl.1 rfl (Nat.le_of_ble_eq_true rfl) dL_shift_7 ⟨Nat.le_of_ble_eq_true rfl, Nat.le_of_ble_eq_true rfl⟩ [] (dx_ent (0, 12, 15, 13)) [dx_ent (0, 12, 19, 24), dx_ent (0, 12, 23, 15)] htb (fun _ h => nomatch h) (by decide) (by decide) (dx_li hLx 0 rfl) (dx_li hLx 3 rfl) (fun qx H hG => ?_)
  refine W.eq (g2 := F0 m 15 ls [.ref qx]) rfl ?_
  refine lv_astore (lv' := [(5, .ref qx), (0, .ref b0), (1, .int (op)), (2, .int (x)), (3, .int (d)), (4, .ref aOut)]) hx hb dL_shift_15 hl (by decide) rfl (fun ls hl => ?_)
  refine lv_iconst (v := 1) hx hb dL_shift_17 (by decide) ?_
  subst hQ
  exact dw_iret hx hb hr hG (()) rfl rfl dL_shift_18 hlocks

set_option maxRecDepth 100000 in
set_option maxHeartbeats 4000000 in
theorem lw_shift_1d (l : Launch) (dC : Nat → ClassId) (dI : Nat → Nat → Nat) (cI cZ : ClassId) (cJ : ClassId) (htr : l.stackTraces = false) (b0 u0 aK aX aY aN aV aM f0 e0 g0 aRp aNr aI c0 h0 n R : Nat) (an : Int32) (op : Nat) (x d : Int32) (aOut : Nat) (sz : Nat) (ho : op ≤ 2) (hbad : d < 0 ∨ 31 < d) : Met l yL_shift wsL_shift { frames := 8, cells := 1, slots := 6, locals := 190 } (fun a U => (va_Pc [.ref b0, .int (nI (op)), .int (x), .int (d), .ref aOut] (dw_pre (dC, dI) vwCl [(b0, .inr (0, [.ref u0, .ref f0, .ref e0, .ref g0, .ref aRp, .ref aNr, .ref aI, .ref c0, .ref h0, .int (an)])), (u0, .inr (1, [.ref aK, .ref aX, .ref aY, .ref aN, .ref aV, .ref aM, .int (nI (n)), .int (nI (R))]))] [(cI, .int), (cZ, .boolean), (cJ, .long)] sz)) a U ∧ dx_N U ∧ dx_L U) (va_Qi (fun (r : Int32) (u : Unit) => r = 1) (fun u t => dw_post (dC, dI) vwCl [(b0, .inr (0, [.ref u0, .ref f0, .ref e0, .ref g0, .ref aRp, .ref aNr, .ref aI, .ref c0, .ref h0, .int (an)])), (u0, .inr (1, [.ref aK, .ref aX, .ref aY, .ref aN, .ref aV, .ref aM, .int (nI (n)), .int (nI (R))]))] [(cI, .int), (cZ, .boolean), (cJ, .long)] (va_A [(b0, .inr (0, [.ref u0, .ref f0, .ref e0, .ref g0, .ref aRp, .ref aNr, .ref aI, .ref c0, .ref h0, .int (an)])), (u0, .inr (1, [.ref aK, .ref aX, .ref aY, .ref aN, .ref aV, .ref aM, .int (nI (n)), .int (nI (R))]))] sz) t) (va_A [(b0, .inr (0, [.ref u0, .ref f0, .ref e0, .ref g0, .ref aRp, .ref aNr, .ref aI, .ref c0, .ref h0, .int (an)])), (u0, .inr (1, [.ref aK, .ref aX, .ref aY, .ref aN, .ref aV, .ref aM, .int (nI (n)), .int (nI (R))]))] sz)) 1 6 (va_A [(b0, .inr (0, [.ref u0, .ref f0, .ref e0, .ref g0, .ref aRp, .ref aNr, .ref aI, .ref c0, .ref h0, .int (an)])), (u0, .inr (1, [.ref aK, .ref aX, .ref aY, .ref aN, .ref aV, .ref aM, .int (nI (n)), .int (nI (R))]))] sz) := by
  refine va_MetW (hh := [(0, 12, 15, 13), (0, 12, 19, 24), (0, 12, 23, 15)]) (cc := cL_shift) (maxL := 6) (ret := (some .int)) (by decide) rfl ?_
  intro p e s m args below meth c s₁ B hml hv0
  obtain ⟨hv0, hNx, hLx⟩ := hv0
  have hx := B.exec
  have hb := B.bytes
  have hr := B.returns
  have hts := atoms_spec (ws := wsL_shift) B.pre
  have hown : s.vm.findClass RL = some m.cls := findClass_of_methodNamed B.named
  have hlocks := B.notSynchronized
  have htb := dx_table B (hts _ List.mem_cons_self)
  obtain ⟨rfl, hsz, hG⟩ := dw_enter hv0
  generalize va_A [(b0, .inr (0, [.ref u0, .ref f0, .ref e0, .ref g0, .ref aRp, .ref aNr, .ref aI, .ref c0, .ref h0, .int (an)])), (u0, .inr (1, [.ref aK, .ref aX, .ref aY, .ref aN, .ref aV, .ref aM, .int (nI (n)), .int (nI (R))]))] sz = A at hG ⊢
  have hl := lv_entry ([.ref b0, .int (nI (op)), .int (x), .int (d), .ref aOut]) (n := 6) (Nat.le_of_ble_eq_true rfl)
  rw [lg_entry_eq]
  generalize (lg_sl ([.ref b0, .int (nI (op)), .int (x), .int (d), .ref aOut]) ++ List.replicate (6 - (lg_sl ([.ref b0, .int (nI (op)), .int (x), .int (d), .ref aOut])).length) Slot.unset).toArray = ls at hl ⊢
  have hl : lv_has ls 6 [(0, .ref b0), (1, .int (nI (op))), (2, .int (x)), (3, .int (d)), (4, .ref aOut)] := hl
  refine dw_Q (fun Q hQ => ?_)
  suffices hgo : ∀ (H : Heap), H = s.heap → dw_G (dC, dI) vwCl [(cI, .int), (cZ, .boolean), (cJ, .long)] A s.heap s [(b0, .inr (0, [.ref u0, .ref f0, .ref e0, .ref g0, .ref aRp, .ref aNr, .ref aI, .ref c0, .ref h0, .int (an)])), (u0, .inr (1, [.ref aK, .ref aX, .ref aY, .ref aN, .ref aV, .ref aM, .int (nI (n)), .int (nI (R))]))] H [] → W p l e (headSpec wsL_shift { frames := 8, cells := 1, slots := 6, locals := 190 }).room s m [.ref b0, .int (nI (op)), .int (x), .int (d), .ref aOut].toArray below meth c H [] 0 0 Q (F0 m 0 ls []) from hgo _ rfl hG
  clear hG
  intro H hH hG
  refine lv_aload hx hb dL_shift_0 (lv_at hl 4 rfl) ?_
  refine lv_iconst (v := 0) hx hb dL_shift_2 (by decide) ?_
  refine lv_aload_n hx hb dL_shift_3 rfl (lv_at hl 0 rfl) ?_
  refine lv_iload_n hx hb dL_shift_4 rfl (lv_at hl 1 rfl) ?_
  refine lv_iload_n hx hb dL_shift_5 rfl (lv_at hl 2 rfl) ?_
  refine lv_iload_n hx hb dL_shift_6 rfl (lv_at hl 3 rfl) ?_
  refine dx_catch (As := [.int (nI (op)), .int (x), .int (d)]) (rest := [.int (0), .ref aOut]) ⟨hx, hb, hml, hown, hts⟩ (cx_shift_1d l dC dI cI cZ htr b0 u0 aK aX aY aN aV aM f0 e0 g0 aRp aNr aI c0 h0 n R an op x d H.size ho hbad) (dc_V 3 hts tw_393 tw_394 tw_395 tw_1 tw_396 rfl rfl (by decide +kernel) ⟨Nat.le_of_ble_eq_true rfl, Nat.le_of_ble_eq_true rfl⟩) (dw_preV (ci := 0) (wc := [(b0, .inr (0, [.ref u0, .ref f0, .ref e0, .ref g0, .ref aRp, .ref aNr, .ref aI, .ref c0, .ref h0, .int (an)])), (u0, .inr (1, [.ref aK, .ref aX, .ref aY, .ref aN, .ref aV, .ref aM, .int (nI (n)), .int (nI (R))]))]) hG [0, 1] [0, 1] rfl rfl (by decide) rfl rfl (q0 := 0) rfl) hG (fun T _ X => hNx.here X) rfl hl.1 rfl (Nat.le_of_ble_eq_true rfl) dL_shift_7 ⟨Nat.le_of_ble_eq_true rfl, Nat.le_of_ble_eq_true rfl⟩ [] (dx_ent (0, 12, 15, 13)) [dx_ent (0, 12, 19, 24), dx_ent (0, 12, 23, 15)] htb (fun _ h => nomatch h) (by decide) (by decide) (dx_li hLx 0 rfl) (dx_li hLx 3 rfl) (fun qx H hG => ?_)
  refine W.eq (g2 := F0 m 15 ls [.ref qx]) rfl ?_
  refine lv_astore (lv' := [(5, .ref qx), (0, .ref b0), (1, .int (nI (op))), (2, .int (x)), (3, .int (d)), (4, .ref aOut)]) hx hb dL_shift_15 hl (by decide) rfl (fun ls hl => ?_)
  refine lv_iconst (v := 1) hx hb dL_shift_17 (by decide) ?_
  subst hQ
  exact dw_iret hx hb hr hG (()) rfl rfl dL_shift_18 hlocks

set_option maxRecDepth 100000 in
set_option maxHeartbeats 4000000 in
theorem lw_shift_2 (l : Launch) (dC : Nat → ClassId) (dI : Nat → Nat → Nat) (cI cZ : ClassId) (cJ : ClassId) (htr : l.stackTraces = false) (b0 u0 aK aX aY aN aV aM f0 e0 g0 aRp aNr aI c0 h0 n R : Nat) (an : Int32) (op d : Nat) (x : Int32) (aOut : Nat) (sz : Nat) (ho : op ≤ 2) (hd : d ≤ 31) (hinv : x < 0 ∨ nI n ≤ x) : Met l yL_shift wsL_shift { frames := 8, cells := 1, slots := 6, locals := 190 } (fun a U => (va_Pc [.ref b0, .int (nI (op)), .int (x), .int (nI (d)), .ref aOut] (dw_pre (dC, dI) vwCl [(b0, .inr (0, [.ref u0, .ref f0, .ref e0, .ref g0, .ref aRp, .ref aNr, .ref aI, .ref c0, .ref h0, .int (an)])), (u0, .inr (1, [.ref aK, .ref aX, .ref aY, .ref aN, .ref aV, .ref aM, .int (nI (n)), .int (nI (R))]))] [(cI, .int), (cZ, .boolean), (cJ, .long)] sz)) a U ∧ dx_N U ∧ dx_L U) (va_Qi (fun (r : Int32) (u : Unit) => r = 2) (fun u t => dw_post (dC, dI) vwCl [(b0, .inr (0, [.ref u0, .ref f0, .ref e0, .ref g0, .ref aRp, .ref aNr, .ref aI, .ref c0, .ref h0, .int (an)])), (u0, .inr (1, [.ref aK, .ref aX, .ref aY, .ref aN, .ref aV, .ref aM, .int (nI (n)), .int (nI (R))]))] [(cI, .int), (cZ, .boolean), (cJ, .long)] (va_A [(b0, .inr (0, [.ref u0, .ref f0, .ref e0, .ref g0, .ref aRp, .ref aNr, .ref aI, .ref c0, .ref h0, .int (an)])), (u0, .inr (1, [.ref aK, .ref aX, .ref aY, .ref aN, .ref aV, .ref aM, .int (nI (n)), .int (nI (R))]))] sz) t) (va_A [(b0, .inr (0, [.ref u0, .ref f0, .ref e0, .ref g0, .ref aRp, .ref aNr, .ref aI, .ref c0, .ref h0, .int (an)])), (u0, .inr (1, [.ref aK, .ref aX, .ref aY, .ref aN, .ref aV, .ref aM, .int (nI (n)), .int (nI (R))]))] sz)) 1 6 (va_A [(b0, .inr (0, [.ref u0, .ref f0, .ref e0, .ref g0, .ref aRp, .ref aNr, .ref aI, .ref c0, .ref h0, .int (an)])), (u0, .inr (1, [.ref aK, .ref aX, .ref aY, .ref aN, .ref aV, .ref aM, .int (nI (n)), .int (nI (R))]))] sz) := by
  refine va_MetW (hh := [(0, 12, 15, 13), (0, 12, 19, 24), (0, 12, 23, 15)]) (cc := cL_shift) (maxL := 6) (ret := (some .int)) (by decide) rfl ?_
  intro p e s m args below meth c s₁ B hml hv0
  obtain ⟨hv0, hNx, hLx⟩ := hv0
  have hx := B.exec
  have hb := B.bytes
  have hr := B.returns
  have hts := atoms_spec (ws := wsL_shift) B.pre
  have hown : s.vm.findClass RL = some m.cls := findClass_of_methodNamed B.named
  have hlocks := B.notSynchronized
  have htb := dx_table B (hts _ List.mem_cons_self)
  obtain ⟨rfl, hsz, hG⟩ := dw_enter hv0
  generalize va_A [(b0, .inr (0, [.ref u0, .ref f0, .ref e0, .ref g0, .ref aRp, .ref aNr, .ref aI, .ref c0, .ref h0, .int (an)])), (u0, .inr (1, [.ref aK, .ref aX, .ref aY, .ref aN, .ref aV, .ref aM, .int (nI (n)), .int (nI (R))]))] sz = A at hG ⊢
  have hl := lv_entry ([.ref b0, .int (nI (op)), .int (x), .int (nI (d)), .ref aOut]) (n := 6) (Nat.le_of_ble_eq_true rfl)
  rw [lg_entry_eq]
  generalize (lg_sl ([.ref b0, .int (nI (op)), .int (x), .int (nI (d)), .ref aOut]) ++ List.replicate (6 - (lg_sl ([.ref b0, .int (nI (op)), .int (x), .int (nI (d)), .ref aOut])).length) Slot.unset).toArray = ls at hl ⊢
  have hl : lv_has ls 6 [(0, .ref b0), (1, .int (nI (op))), (2, .int (x)), (3, .int (nI (d))), (4, .ref aOut)] := hl
  refine dw_Q (fun Q hQ => ?_)
  suffices hgo : ∀ (H : Heap), H = s.heap → dw_G (dC, dI) vwCl [(cI, .int), (cZ, .boolean), (cJ, .long)] A s.heap s [(b0, .inr (0, [.ref u0, .ref f0, .ref e0, .ref g0, .ref aRp, .ref aNr, .ref aI, .ref c0, .ref h0, .int (an)])), (u0, .inr (1, [.ref aK, .ref aX, .ref aY, .ref aN, .ref aV, .ref aM, .int (nI (n)), .int (nI (R))]))] H [] → W p l e (headSpec wsL_shift { frames := 8, cells := 1, slots := 6, locals := 190 }).room s m [.ref b0, .int (nI (op)), .int (x), .int (nI (d)), .ref aOut].toArray below meth c H [] 0 0 Q (F0 m 0 ls []) from hgo _ rfl hG
  clear hG
  intro H hH hG
  refine lv_aload hx hb dL_shift_0 (lv_at hl 4 rfl) ?_
  refine lv_iconst (v := 0) hx hb dL_shift_2 (by decide) ?_
  refine lv_aload_n hx hb dL_shift_3 rfl (lv_at hl 0 rfl) ?_
  refine lv_iload_n hx hb dL_shift_4 rfl (lv_at hl 1 rfl) ?_
  refine lv_iload_n hx hb dL_shift_5 rfl (lv_at hl 2 rfl) ?_
  refine lv_iload_n hx hb dL_shift_6 rfl (lv_at hl 3 rfl) ?_
  refine dx_catch (As := [.int (nI (op)), .int (x), .int (nI (d))]) (rest := [.int (0), .ref aOut]) ⟨hx, hb, hml, hown, hts⟩ (cx_shift_2 l dC dI cI cZ htr b0 u0 aK aX aY aN aV aM f0 e0 g0 aRp aNr aI c0 h0 n R an op d x H.size ho hd hinv) (dc_V 3 hts tw_393 tw_394 tw_395 tw_1 tw_396 rfl rfl (by decide +kernel) ⟨Nat.le_of_ble_eq_true rfl, Nat.le_of_ble_eq_true rfl⟩) (dw_preV (ci := 0) (wc := [(b0, .inr (0, [.ref u0, .ref f0, .ref e0, .ref g0, .ref aRp, .ref aNr, .ref aI, .ref c0, .ref h0, .int (an)])), (u0, .inr (1, [.ref aK, .ref aX, .ref aY, .ref aN, .ref aV, .ref aM, .int (nI (n)), .int (nI (R))]))]) hG [0, 1] [0, 1] rfl rfl (by decide) rfl rfl (q0 := 0) rfl) hG (fun T _ X => hNx.here X) rfl hl.1 rfl (Nat.le_of_ble_eq_true rfl) dL_shift_7 ⟨Nat.le_of_ble_eq_true rfl, Nat.le_of_ble_eq_true rfl⟩ [dx_ent (0, 12, 15, 13)] (dx_ent (0, 12, 19, 24)) [dx_ent (0, 12, 23, 15)] htb (List.forall_mem_cons.mpr ⟨⟨xIA, by decide, dx_li hLx 0 rfl, dx_li hLx 7 rfl⟩, (fun _ h => nomatch h)⟩) (by decide) (by decide) (dx_li hLx 2 rfl) (dx_li hLx 5 rfl) (fun qx H hG => ?_)
  refine W.eq (g2 := F0 m 19 ls [.ref qx]) rfl ?_
  refine lv_astore (lv' := [(5, .ref qx), (0, .ref b0), (1, .int (nI (op))), (2, .int (x)), (3, .int (nI (d))), (4, .ref aOut)]) hx hb dL_shift_19 hl (by decide) rfl (fun ls hl => ?_)
  refine lv_iconst (v := 2) hx hb dL_shift_21 (by decide) ?_
  subst hQ
  exact dw_iret hx hb hr hG (()) rfl rfl dL_shift_22 hlocks

set_option maxRecDepth 100000 in
set_option maxHeartbeats 4000000 in
theorem lw_shift_3 (l : Launch) (dC : Nat → ClassId) (dI : Nat → Nat → Nat) (cI cZ : ClassId) (cJ : ClassId) (htr : l.stackTraces = false) (b0 u0 aK aX aY aN aV aM f0 e0 g0 aRp aNr aI c0 h0 n R : Nat) (an : Int32) (op x d : Nat) (aOut : Nat) (sz : Nat) (ho : op ≤ 2) (hd : d ≤ 31) (hx9 : x < n) (hn : n = 24) : Met l yL_shift wsL_shift { frames := 8, cells := 1, slots := 6, locals := 190 } (fun a U => (va_Pc [.ref b0, .int (nI (op)), .int (nI (x)), .int (nI (d)), .ref aOut] (dw_pre (dC, dI) vwCl [(b0, .inr (0, [.ref u0, .ref f0, .ref e0, .ref g0, .ref aRp, .ref aNr, .ref aI, .ref c0, .ref h0, .int (an)])), (u0, .inr (1, [.ref aK, .ref aX, .ref aY, .ref aN, .ref aV, .ref aM, .int (nI (n)), .int (nI (R))]))] [(cI, .int), (cZ, .boolean), (cJ, .long)] sz)) a U ∧ dx_N U ∧ dx_L U) (va_Qi (fun (r : Int32) (u : Unit) => r = 3) (fun u t => dw_post (dC, dI) vwCl [(b0, .inr (0, [.ref u0, .ref f0, .ref e0, .ref g0, .ref aRp, .ref aNr, .ref aI, .ref c0, .ref h0, .int (an)])), (u0, .inr (1, [.ref aK, .ref aX, .ref aY, .ref aN, .ref aV, .ref aM, .int (nI (n)), .int (nI (R))]))] [(cI, .int), (cZ, .boolean), (cJ, .long)] (va_A [(b0, .inr (0, [.ref u0, .ref f0, .ref e0, .ref g0, .ref aRp, .ref aNr, .ref aI, .ref c0, .ref h0, .int (an)])), (u0, .inr (1, [.ref aK, .ref aX, .ref aY, .ref aN, .ref aV, .ref aM, .int (nI (n)), .int (nI (R))]))] sz) t) (va_A [(b0, .inr (0, [.ref u0, .ref f0, .ref e0, .ref g0, .ref aRp, .ref aNr, .ref aI, .ref c0, .ref h0, .int (an)])), (u0, .inr (1, [.ref aK, .ref aX, .ref aY, .ref aN, .ref aV, .ref aM, .int (nI (n)), .int (nI (R))]))] sz)) 1 6 (va_A [(b0, .inr (0, [.ref u0, .ref f0, .ref e0, .ref g0, .ref aRp, .ref aNr, .ref aI, .ref c0, .ref h0, .int (an)])), (u0, .inr (1, [.ref aK, .ref aX, .ref aY, .ref aN, .ref aV, .ref aM, .int (nI (n)), .int (nI (R))]))] sz) := by
  refine va_MetW (hh := [(0, 12, 15, 13), (0, 12, 19, 24), (0, 12, 23, 15)]) (cc := cL_shift) (maxL := 6) (ret := (some .int)) (by decide) rfl ?_
  intro p e s m args below meth c s₁ B hml hv0
  obtain ⟨hv0, hNx, hLx⟩ := hv0
  have hx := B.exec
  have hb := B.bytes
  have hr := B.returns
  have hts := atoms_spec (ws := wsL_shift) B.pre
  have hown : s.vm.findClass RL = some m.cls := findClass_of_methodNamed B.named
  have hlocks := B.notSynchronized
  have htb := dx_table B (hts _ List.mem_cons_self)
  obtain ⟨rfl, hsz, hG⟩ := dw_enter hv0
  generalize va_A [(b0, .inr (0, [.ref u0, .ref f0, .ref e0, .ref g0, .ref aRp, .ref aNr, .ref aI, .ref c0, .ref h0, .int (an)])), (u0, .inr (1, [.ref aK, .ref aX, .ref aY, .ref aN, .ref aV, .ref aM, .int (nI (n)), .int (nI (R))]))] sz = A at hG ⊢
  have hl := lv_entry ([.ref b0, .int (nI (op)), .int (nI (x)), .int (nI (d)), .ref aOut]) (n := 6) (Nat.le_of_ble_eq_true rfl)
  rw [lg_entry_eq]
  generalize (lg_sl ([.ref b0, .int (nI (op)), .int (nI (x)), .int (nI (d)), .ref aOut]) ++ List.replicate (6 - (lg_sl ([.ref b0, .int (nI (op)), .int (nI (x)), .int (nI (d)), .ref aOut])).length) Slot.unset).toArray = ls at hl ⊢
  have hl : lv_has ls 6 [(0, .ref b0), (1, .int (nI (op))), (2, .int (nI (x))), (3, .int (nI (d))), (4, .ref aOut)] := hl
  refine dw_Q (fun Q hQ => ?_)
  suffices hgo : ∀ (H : Heap), H = s.heap → dw_G (dC, dI) vwCl [(cI, .int), (cZ, .boolean), (cJ, .long)] A s.heap s [(b0, .inr (0, [.ref u0, .ref f0, .ref e0, .ref g0, .ref aRp, .ref aNr, .ref aI, .ref c0, .ref h0, .int (an)])), (u0, .inr (1, [.ref aK, .ref aX, .ref aY, .ref aN, .ref aV, .ref aM, .int (nI (n)), .int (nI (R))]))] H [] → W p l e (headSpec wsL_shift { frames := 8, cells := 1, slots := 6, locals := 190 }).room s m [.ref b0, .int (nI (op)), .int (nI (x)), .int (nI (d)), .ref aOut].toArray below meth c H [] 0 0 Q (F0 m 0 ls []) from hgo _ rfl hG
  clear hG
  intro H hH hG
  refine lv_aload hx hb dL_shift_0 (lv_at hl 4 rfl) ?_
  refine lv_iconst (v := 0) hx hb dL_shift_2 (by decide) ?_
  refine lv_aload_n hx hb dL_shift_3 rfl (lv_at hl 0 rfl) ?_
  refine lv_iload_n hx hb dL_shift_4 rfl (lv_at hl 1 rfl) ?_
  refine lv_iload_n hx hb dL_shift_5 rfl (lv_at hl 2 rfl) ?_
  refine lv_iload_n hx hb dL_shift_6 rfl (lv_at hl 3 rfl) ?_
  refine dx_catch (As := [.int (nI (op)), .int (nI (x)), .int (nI (d))]) (rest := [.int (0), .ref aOut]) ⟨hx, hb, hml, hown, hts⟩ (cx_shift_3 l dC dI cI cZ htr b0 u0 aK aX aY aN aV aM f0 e0 g0 aRp aNr aI c0 h0 n R an op x d H.size ho hd hx9 hn) (dc_V 3 hts tw_393 tw_394 tw_395 tw_1 tw_396 rfl rfl (by decide +kernel) ⟨Nat.le_of_ble_eq_true rfl, Nat.le_of_ble_eq_true rfl⟩) (dw_preV (ci := 0) (wc := [(b0, .inr (0, [.ref u0, .ref f0, .ref e0, .ref g0, .ref aRp, .ref aNr, .ref aI, .ref c0, .ref h0, .int (an)])), (u0, .inr (1, [.ref aK, .ref aX, .ref aY, .ref aN, .ref aV, .ref aM, .int (nI (n)), .int (nI (R))]))]) hG [0, 1] [0, 1] rfl rfl (by decide) rfl rfl (q0 := 0) rfl) hG (fun T _ X => hNx.here X) rfl hl.1 rfl (Nat.le_of_ble_eq_true rfl) dL_shift_7 ⟨Nat.le_of_ble_eq_true rfl, Nat.le_of_ble_eq_true rfl⟩ [dx_ent (0, 12, 15, 13), dx_ent (0, 12, 19, 24)] (dx_ent (0, 12, 23, 15)) [] htb (List.forall_mem_cons.mpr ⟨⟨xIA, by decide, dx_li hLx 0 rfl, dx_li hLx 6 rfl⟩, (List.forall_mem_cons.mpr ⟨⟨xIO, by decide, dx_li hLx 2 rfl, dx_li hLx 11 rfl⟩, (fun _ h => nomatch h)⟩)⟩) (by decide) (by decide) (dx_li hLx 1 rfl) (dx_li hLx 4 rfl) (fun qx H hG => ?_)
  refine W.eq (g2 := F0 m 23 ls [.ref qx]) rfl ?_
  refine lv_astore (lv' := [(5, .ref qx), (0, .ref b0), (1, .int (nI (op))), (2, .int (nI (x))), (3, .int (nI (d))), (4, .ref aOut)]) hx hb dL_shift_23 hl (by decide) rfl (fun ls hl => ?_)
  refine lv_iconst (v := 3) hx hb dL_shift_25 (by decide) ?_
  subst hQ
  exact dw_iret hx hb hr hG (()) rfl rfl dL_shift_26 hlocks

set_option maxRecDepth 100000 in
set_option maxHeartbeats 4000000 in
theorem lw_extend0_1 (l : Launch) (dC : Nat → ClassId) (dI : Nat → Nat → Nat) (cI cZ : ClassId) (cJ : ClassId) (htr : l.stackTraces = false) (b0 u0 aK aX aY aN aV aM f0 e0 g0 aRp aNr aI c0 h0 n R : Nat) (an : Int32) (x : Int32) (aOut : Nat) (sz : Nat) (hinv : x < 0 ∨ nI n ≤ x) : Met l yL_extend wsL_extend { frames := 8, cells := 1, slots := 6, locals := 190 } (fun a U => (va_Pc [.ref b0, .int (x), .int (0), .ref aOut] (dw_pre (dC, dI) vwCl [(b0, .inr (0, [.ref u0, .ref f0, .ref e0, .ref g0, .ref aRp, .ref aNr, .ref aI, .ref c0, .ref h0, .int (an)])), (u0, .inr (1, [.ref aK, .ref aX, .ref aY, .ref aN, .ref aV, .ref aM, .int (nI (n)), .int (nI (R))]))] [(cI, .int), (cZ, .boolean), (cJ, .long)] sz)) a U ∧ dx_N U ∧ dx_L U) (va_Qi (fun (r : Int32) (u : Unit) => r = 1) (fun u t => dw_post (dC, dI) vwCl [(b0, .inr (0, [.ref u0, .ref f0, .ref e0, .ref g0, .ref aRp, .ref aNr, .ref aI, .ref c0, .ref h0, .int (an)])), (u0, .inr (1, [.ref aK, .ref aX, .ref aY, .ref aN, .ref aV, .ref aM, .int (nI (n)), .int (nI (R))]))] [(cI, .int), (cZ, .boolean), (cJ, .long)] (va_A [(b0, .inr (0, [.ref u0, .ref f0, .ref e0, .ref g0, .ref aRp, .ref aNr, .ref aI, .ref c0, .ref h0, .int (an)])), (u0, .inr (1, [.ref aK, .ref aX, .ref aY, .ref aN, .ref aV, .ref aM, .int (nI (n)), .int (nI (R))]))] sz) t) (va_A [(b0, .inr (0, [.ref u0, .ref f0, .ref e0, .ref g0, .ref aRp, .ref aNr, .ref aI, .ref c0, .ref h0, .int (an)])), (u0, .inr (1, [.ref aK, .ref aX, .ref aY, .ref aN, .ref aV, .ref aM, .int (nI (n)), .int (nI (R))]))] sz)) 1 6 (va_A [(b0, .inr (0, [.ref u0, .ref f0, .ref e0, .ref g0, .ref aRp, .ref aNr, .ref aI, .ref c0, .ref h0, .int (an)])), (u0, .inr (1, [.ref aK, .ref aX, .ref aY, .ref aN, .ref aV, .ref aM, .int (nI (n)), .int (nI (R))]))] sz) := by
  refine va_MetW (hh := [(0, 10, 13, 24), (0, 10, 17, 15)]) (cc := cL_extend) (maxL := 5) (ret := (some .int)) (by decide) rfl ?_
  intro p e s m args below meth c s₁ B hml hv0
  obtain ⟨hv0, hNx, hLx⟩ := hv0
  have hx := B.exec
  have hb := B.bytes
  have hr := B.returns
  have hts := atoms_spec (ws := wsL_extend) B.pre
  have hown : s.vm.findClass RL = some m.cls := findClass_of_methodNamed B.named
  have hlocks := B.notSynchronized
  have htb := dx_table B (hts _ List.mem_cons_self)
  obtain ⟨rfl, hsz, hG⟩ := dw_enter hv0
  generalize va_A [(b0, .inr (0, [.ref u0, .ref f0, .ref e0, .ref g0, .ref aRp, .ref aNr, .ref aI, .ref c0, .ref h0, .int (an)])), (u0, .inr (1, [.ref aK, .ref aX, .ref aY, .ref aN, .ref aV, .ref aM, .int (nI (n)), .int (nI (R))]))] sz = A at hG ⊢
  have hl := lv_entry ([.ref b0, .int (x), .int (0), .ref aOut]) (n := 5) (Nat.le_of_ble_eq_true rfl)
  rw [lg_entry_eq]
  generalize (lg_sl ([.ref b0, .int (x), .int (0), .ref aOut]) ++ List.replicate (5 - (lg_sl ([.ref b0, .int (x), .int (0), .ref aOut])).length) Slot.unset).toArray = ls at hl ⊢
  have hl : lv_has ls 5 [(0, .ref b0), (1, .int (x)), (2, .int (0)), (3, .ref aOut)] := hl
  refine dw_Q (fun Q hQ => ?_)
  suffices hgo : ∀ (H : Heap), H = s.heap → dw_G (dC, dI) vwCl [(cI, .int), (cZ, .boolean), (cJ, .long)] A s.heap s [(b0, .inr (0, [.ref u0, .ref f0, .ref e0, .ref g0, .ref aRp, .ref aNr, .ref aI, .ref c0, .ref h0, .int (an)])), (u0, .inr (1, [.ref aK, .ref aX, .ref aY, .ref aN, .ref aV, .ref aM, .int (nI (n)), .int (nI (R))]))] H [] → W p l e (headSpec wsL_extend { frames := 8, cells := 1, slots := 6, locals := 190 }).room s m [.ref b0, .int (x), .int (0), .ref aOut].toArray below meth c H [] 0 0 Q (F0 m 0 ls []) from hgo _ rfl hG
  clear hG
  intro H hH hG
  refine lv_aload_n hx hb dL_extend_0 rfl (lv_at hl 3 rfl) ?_
  refine lv_iconst (v := 0) hx hb dL_extend_1 (by decide) ?_
  refine lv_aload_n hx hb dL_extend_2 rfl (lv_at hl 0 rfl) ?_
  refine lv_iload_n hx hb dL_extend_3 rfl (lv_at hl 1 rfl) ?_
  refine lv_iload_n hx hb dL_extend_4 rfl (lv_at hl 2 rfl) ?_
  refine dx_catch (As := [.int (x), .int (0)]) (rest := [.int (0), .ref aOut]) ⟨hx, hb, hml, hown, hts⟩ (cx_extend0_1 l dC dI cI cZ htr b0 u0 aK aX aY aN aV aM f0 e0 g0 aRp aNr aI c0 h0 n R an x H.size hinv) (dc_V 2 hts tw_402 tw_403 tw_404 tw_1 tw_405 rfl rfl (by decide +kernel) ⟨Nat.le_of_ble_eq_true rfl, Nat.le_of_ble_eq_true rfl⟩) (dw_preV (ci := 0) (wc := [(b0, .inr (0, [.ref u0, .ref f0, .ref e0, .ref g0, .ref aRp, .ref aNr, .ref aI, .ref c0, .ref h0, .int (an)])), (u0, .inr (1, [.ref aK, .ref aX, .ref aY, .ref aN, .ref aV, .ref aM, .int (nI (n)), .int (nI (R))]))]) hG [0, 1] [0, 1] rfl rfl (by decide) rfl rfl (q0 := 0) rfl) hG (fun T _ X => hNx.here X) rfl hl.1 rfl (Nat.le_of_ble_eq_true rfl) dL_extend_5 ⟨Nat.le_of_ble_eq_true rfl, Nat.le_of_ble_eq_true rfl⟩ [] (dx_ent (0, 10, 13, 24)) [dx_ent (0, 10, 17, 15)] htb (fun _ h => nomatch h) (by decide) (by decide) (dx_li hLx 2 rfl) (dx_li hLx 5 rfl) (fun qx H hG => ?_)
  refine W.eq (g2 := F0 m 13 ls [.ref qx]) rfl ?_
  refine lv_astore (lv' := [(4, .ref qx), (0, .ref b0), (1, .int (x)), (2, .int (0)), (3, .ref aOut)]) hx hb dL_extend_13 hl (by decide) rfl (fun ls hl => ?_)
  refine lv_iconst (v := 1) hx hb dL_extend_15 (by decide) ?_
  subst hQ
  exact dw_iret hx hb hr hG (()) rfl rfl dL_extend_16 hlocks

set_option maxRecDepth 100000 in
set_option maxHeartbeats 4000000 in
theorem lw_extend0_2 (l : Launch) (dC : Nat → ClassId) (dI : Nat → Nat → Nat) (cI cZ : ClassId) (cJ : ClassId) (htr : l.stackTraces = false) (b0 u0 aK aX aY aN aV aM f0 e0 g0 aRp aNr aI c0 h0 n R : Nat) (an : Int32) (x : Nat) (aOut : Nat) (sz : Nat) (hx9 : x < n) (hn : n = 24) : Met l yL_extend wsL_extend { frames := 8, cells := 1, slots := 6, locals := 190 } (fun a U => (va_Pc [.ref b0, .int (nI (x)), .int (0), .ref aOut] (dw_pre (dC, dI) vwCl [(b0, .inr (0, [.ref u0, .ref f0, .ref e0, .ref g0, .ref aRp, .ref aNr, .ref aI, .ref c0, .ref h0, .int (an)])), (u0, .inr (1, [.ref aK, .ref aX, .ref aY, .ref aN, .ref aV, .ref aM, .int (nI (n)), .int (nI (R))]))] [(cI, .int), (cZ, .boolean), (cJ, .long)] sz)) a U ∧ dx_N U ∧ dx_L U) (va_Qi (fun (r : Int32) (u : Unit) => r = 2) (fun u t => dw_post (dC, dI) vwCl [(b0, .inr (0, [.ref u0, .ref f0, .ref e0, .ref g0, .ref aRp, .ref aNr, .ref aI, .ref c0, .ref h0, .int (an)])), (u0, .inr (1, [.ref aK, .ref aX, .ref aY, .ref aN, .ref aV, .ref aM, .int (nI (n)), .int (nI (R))]))] [(cI, .int), (cZ, .boolean), (cJ, .long)] (va_A [(b0, .inr (0, [.ref u0, .ref f0, .ref e0, .ref g0, .ref aRp, .ref aNr, .ref aI, .ref c0, .ref h0, .int (an)])), (u0, .inr (1, [.ref aK, .ref aX, .ref aY, .ref aN, .ref aV, .ref aM, .int (nI (n)), .int (nI (R))]))] sz) t) (va_A [(b0, .inr (0, [.ref u0, .ref f0, .ref e0, .ref g0, .ref aRp, .ref aNr, .ref aI, .ref c0, .ref h0, .int (an)])), (u0, .inr (1, [.ref aK, .ref aX, .ref aY, .ref aN, .ref aV, .ref aM, .int (nI (n)), .int (nI (R))]))] sz)) 1 6 (va_A [(b0, .inr (0, [.ref u0, .ref f0, .ref e0, .ref g0, .ref aRp, .ref aNr, .ref aI, .ref c0, .ref h0, .int (an)])), (u0, .inr (1, [.ref aK, .ref aX, .ref aY, .ref aN, .ref aV, .ref aM, .int (nI (n)), .int (nI (R))]))] sz) := by
  refine va_MetW (hh := [(0, 10, 13, 24), (0, 10, 17, 15)]) (cc := cL_extend) (maxL := 5) (ret := (some .int)) (by decide) rfl ?_
  intro p e s m args below meth c s₁ B hml hv0
  obtain ⟨hv0, hNx, hLx⟩ := hv0
  have hx := B.exec
  have hb := B.bytes
  have hr := B.returns
  have hts := atoms_spec (ws := wsL_extend) B.pre
  have hown : s.vm.findClass RL = some m.cls := findClass_of_methodNamed B.named
  have hlocks := B.notSynchronized
  have htb := dx_table B (hts _ List.mem_cons_self)
  obtain ⟨rfl, hsz, hG⟩ := dw_enter hv0
  generalize va_A [(b0, .inr (0, [.ref u0, .ref f0, .ref e0, .ref g0, .ref aRp, .ref aNr, .ref aI, .ref c0, .ref h0, .int (an)])), (u0, .inr (1, [.ref aK, .ref aX, .ref aY, .ref aN, .ref aV, .ref aM, .int (nI (n)), .int (nI (R))]))] sz = A at hG ⊢
  have hl := lv_entry ([.ref b0, .int (nI (x)), .int (0), .ref aOut]) (n := 5) (Nat.le_of_ble_eq_true rfl)
  rw [lg_entry_eq]
  generalize (lg_sl ([.ref b0, .int (nI (x)), .int (0), .ref aOut]) ++ List.replicate (5 - (lg_sl ([.ref b0, .int (nI (x)), .int (0), .ref aOut])).length) Slot.unset).toArray = ls at hl ⊢
  have hl : lv_has ls 5 [(0, .ref b0), (1, .int (nI (x))), (2, .int (0)), (3, .ref aOut)] := hl
  refine dw_Q (fun Q hQ => ?_)
  suffices hgo : ∀ (H : Heap), H = s.heap → dw_G (dC, dI) vwCl [(cI, .int), (cZ, .boolean), (cJ, .long)] A s.heap s [(b0, .inr (0, [.ref u0, .ref f0, .ref e0, .ref g0, .ref aRp, .ref aNr, .ref aI, .ref c0, .ref h0, .int (an)])), (u0, .inr (1, [.ref aK, .ref aX, .ref aY, .ref aN, .ref aV, .ref aM, .int (nI (n)), .int (nI (R))]))] H [] → W p l e (headSpec wsL_extend { frames := 8, cells := 1, slots := 6, locals := 190 }).room s m [.ref b0, .int (nI (x)), .int (0), .ref aOut].toArray below meth c H [] 0 0 Q (F0 m 0 ls []) from hgo _ rfl hG
  clear hG
  intro H hH hG
  refine lv_aload_n hx hb dL_extend_0 rfl (lv_at hl 3 rfl) ?_
  refine lv_iconst (v := 0) hx hb dL_extend_1 (by decide) ?_
  refine lv_aload_n hx hb dL_extend_2 rfl (lv_at hl 0 rfl) ?_
  refine lv_iload_n hx hb dL_extend_3 rfl (lv_at hl 1 rfl) ?_
  refine lv_iload_n hx hb dL_extend_4 rfl (lv_at hl 2 rfl) ?_
  refine dx_catch (As := [.int (nI (x)), .int (0)]) (rest := [.int (0), .ref aOut]) ⟨hx, hb, hml, hown, hts⟩ (cx_extend0_2 l dC dI cI cZ htr b0 u0 aK aX aY aN aV aM f0 e0 g0 aRp aNr aI c0 h0 n R an x H.size hx9 hn) (dc_V 2 hts tw_402 tw_403 tw_404 tw_1 tw_405 rfl rfl (by decide +kernel) ⟨Nat.le_of_ble_eq_true rfl, Nat.le_of_ble_eq_true rfl⟩) (dw_preV (ci := 0) (wc := [(b0, .inr (0, [.ref u0, .ref f0, .ref e0, .ref g0, .ref aRp, .ref aNr, .ref aI, .ref c0, .ref h0, .int (an)])), (u0, .inr (1, [.ref aK, .ref aX, .ref aY, .ref aN, .ref aV, .ref aM, .int (nI (n)), .int (nI (R))]))]) hG [0, 1] [0, 1] rfl rfl (by decide) rfl rfl (q0 := 0) rfl) hG (fun T _ X => hNx.here X) rfl hl.1 rfl (Nat.le_of_ble_eq_true rfl) dL_extend_5 ⟨Nat.le_of_ble_eq_true rfl, Nat.le_of_ble_eq_true rfl⟩ [dx_ent (0, 10, 13, 24)] (dx_ent (0, 10, 17, 15)) [] htb (List.forall_mem_cons.mpr ⟨⟨xIO, by decide, dx_li hLx 2 rfl, dx_li hLx 11 rfl⟩, (fun _ h => nomatch h)⟩) (by decide) (by decide) (dx_li hLx 1 rfl) (dx_li hLx 4 rfl) (fun qx H hG => ?_)
  refine W.eq (g2 := F0 m 17 ls [.ref qx]) rfl ?_
  refine lv_astore (lv' := [(4, .ref qx), (0, .ref b0), (1, .int (nI (x))), (2, .int (0)), (3, .ref aOut)]) hx hb dL_extend_17 hl (by decide) rfl (fun ls hl => ?_)
  refine lv_iconst (v := 2) hx hb dL_extend_19 (by decide) ?_
  subst hQ
  exact dw_iret hx hb hr hG (()) rfl rfl dL_extend_20 hlocks

set_option maxRecDepth 100000 in
set_option maxHeartbeats 4000000 in
theorem lw_extend1_1 (l : Launch) (dC : Nat → ClassId) (dI : Nat → Nat → Nat) (cI cZ : ClassId) (cJ : ClassId) (htr : l.stackTraces = false) (b0 u0 aK aX aY aN aV aM f0 e0 g0 aRp aNr aI c0 h0 n R : Nat) (an : Int32) (x : Int32) (aOut : Nat) (sz : Nat) (hinv : x < 0 ∨ nI n ≤ x) : Met l yL_extend wsL_extend { frames := 8, cells := 1, slots := 6, locals := 190 } (fun a U => (va_Pc [.ref b0, .int (x), .int (1), .ref aOut] (dw_pre (dC, dI) vwCl [(b0, .inr (0, [.ref u0, .ref f0, .ref e0, .ref g0, .ref aRp, .ref aNr, .ref aI, .ref c0, .ref h0, .int (an)])), (u0, .inr (1, [.ref aK, .ref aX, .ref aY, .ref aN, .ref aV, .ref aM, .int (nI (n)), .int (nI (R))]))] [(cI, .int), (cZ, .boolean), (cJ, .long)] sz)) a U ∧ dx_N U ∧ dx_L U) (va_Qi (fun (r : Int32) (u : Unit) => r = 1) (fun u t => dw_post (dC, dI) vwCl [(b0, .inr (0, [.ref u0, .ref f0, .ref e0, .ref g0, .ref aRp, .ref aNr, .ref aI, .ref c0, .ref h0, .int (an)])), (u0, .inr (1, [.ref aK, .ref aX, .ref aY, .ref aN, .ref aV, .ref aM, .int (nI (n)), .int (nI (R))]))] [(cI, .int), (cZ, .boolean), (cJ, .long)] (va_A [(b0, .inr (0, [.ref u0, .ref f0, .ref e0, .ref g0, .ref aRp, .ref aNr, .ref aI, .ref c0, .ref h0, .int (an)])), (u0, .inr (1, [.ref aK, .ref aX, .ref aY, .ref aN, .ref aV, .ref aM, .int (nI (n)), .int (nI (R))]))] sz) t) (va_A [(b0, .inr (0, [.ref u0, .ref f0, .ref e0, .ref g0, .ref aRp, .ref aNr, .ref aI, .ref c0, .ref h0, .int (an)])), (u0, .inr (1, [.ref aK, .ref aX, .ref aY, .ref aN, .ref aV, .ref aM, .int (nI (n)), .int (nI (R))]))] sz)) 1 6 (va_A [(b0, .inr (0, [.ref u0, .ref f0, .ref e0, .ref g0, .ref aRp, .ref aNr, .ref aI, .ref c0, .ref h0, .int (an)])), (u0, .inr (1, [.ref aK, .ref aX, .ref aY, .ref aN, .ref aV, .ref aM, .int (nI (n)), .int (nI (R))]))] sz) := by
  refine va_MetW (hh := [(0, 10, 13, 24), (0, 10, 17, 15)]) (cc := cL_extend) (maxL := 5) (ret := (some .int)) (by decide) rfl ?_
  intro p e s m args below meth c s₁ B hml hv0
  obtain ⟨hv0, hNx, hLx⟩ := hv0
  have hx := B.exec
  have hb := B.bytes
  have hr := B.returns
  have hts := atoms_spec (ws := wsL_extend) B.pre
  have hown : s.vm.findClass RL = some m.cls := findClass_of_methodNamed B.named
  have hlocks := B.notSynchronized
  have htb := dx_table B (hts _ List.mem_cons_self)
  obtain ⟨rfl, hsz, hG⟩ := dw_enter hv0
  generalize va_A [(b0, .inr (0, [.ref u0, .ref f0, .ref e0, .ref g0, .ref aRp, .ref aNr, .ref aI, .ref c0, .ref h0, .int (an)])), (u0, .inr (1, [.ref aK, .ref aX, .ref aY, .ref aN, .ref aV, .ref aM, .int (nI (n)), .int (nI (R))]))] sz = A at hG ⊢
  have hl := lv_entry ([.ref b0, .int (x), .int (1), .ref aOut]) (n := 5) (Nat.le_of_ble_eq_true rfl)
  rw [lg_entry_eq]
  generalize (lg_sl ([.ref b0, .int (x), .int (1), .ref aOut]) ++ List.replicate (5 - (lg_sl ([.ref b0, .int (x), .int (1), .ref aOut])).length) Slot.unset).toArray = ls at hl ⊢
  have hl : lv_has ls 5 [(0, .ref b0), (1, .int (x)), (2, .int (1)), (3, .ref aOut)] := hl
  refine dw_Q (fun Q hQ => ?_)
  suffices hgo : ∀ (H : Heap), H = s.heap → dw_G (dC, dI) vwCl [(cI, .int), (cZ, .boolean), (cJ, .long)] A s.heap s [(b0, .inr (0, [.ref u0, .ref f0, .ref e0, .ref g0, .ref aRp, .ref aNr, .ref aI, .ref c0, .ref h0, .int (an)])), (u0, .inr (1, [.ref aK, .ref aX, .ref aY, .ref aN, .ref aV, .ref aM, .int (nI (n)), .int (nI (R))]))] H [] → W p l e (headSpec wsL_extend { frames := 8, cells := 1, slots := 6, locals := 190 }).room s m [.ref b0, .int (x), .int (1), .ref aOut].toArray below meth c H [] 0 0 Q (F0 m 0 ls []) from hgo _ rfl hG
  clear hG
  intro H hH hG
  refine lv_aload_n hx hb dL_extend_0 rfl (lv_at hl 3 rfl) ?_
  refine lv_iconst (v := 0) hx hb dL_extend_1 (by decide) ?_
  refine lv_aload_n hx hb dL_extend_2 rfl (lv_at hl 0 rfl) ?_
  refine lv_iload_n hx hb dL_extend_3 rfl (lv_at hl 1 rfl) ?_
  refine lv_iload_n hx hb dL_extend_4 rfl (lv_at hl 2 rfl) ?_
  refine dx_catch (As := [.int (x), .int (1)]) (rest := [.int (0), .ref aOut]) ⟨hx, hb, hml, hown, hts⟩ (cx_extend1_1 l dC dI cI cZ htr b0 u0 aK aX aY aN aV aM f0 e0 g0 aRp aNr aI c0 h0 n R an x H.size hinv) (dc_V 2 hts tw_402 tw_403 tw_404 tw_1 tw_405 rfl rfl (by decide +kernel) ⟨Nat.le_of_ble_eq_true rfl, Nat.le_of_ble_eq_true rfl⟩) (dw_preV (ci := 0) (wc := [(b0, .inr (0, [.ref u0, .ref f0, .ref e0, .ref g0, .ref aRp, .ref aNr, .ref aI, .ref c0, .ref h0, .int (an)])), (u0, .inr (1, [.ref aK, .ref aX, .ref aY, .ref aN, .ref aV, .ref aM, .int (nI (n)), .int (nI (R))]))]) hG [0, 1] [0, 1] rfl rfl (by decide) rfl rfl (q0 := 0) rfl) hG (fun T _ X => hNx.here X) rfl hl.1 rfl (Nat.le_of_ble_eq_true rfl) dL_extend_5 ⟨Nat.le_of_ble_eq_true rfl, Nat.le_of_ble_eq_true rfl⟩ [] (dx_ent (0, 10, 13, 24)) [dx_ent (0, 10, 17, 15)] htb (fun _ h => nomatch h) (by decide) (by decide) (dx_li hLx 2 rfl) (dx_li hLx 5 rfl) (fun qx H hG => ?_)
  refine W.eq (g2 := F0 m 13 ls [.ref qx]) rfl ?_
  refine lv_astore (lv' := [(4, .ref qx), (0, .ref b0), (1, .int (x)), (2, .int (1)), (3, .ref aOut)]) hx hb dL_extend_13 hl (by decide) rfl (fun ls hl => ?_)
  refine lv_iconst (v := 1) hx hb dL_extend_15 (by decide) ?_
  subst hQ
  exact dw_iret hx hb hr hG (()) rfl rfl dL_extend_16 hlocks

set_option maxRecDepth 100000 in
set_option maxHeartbeats 4000000 in
theorem lw_extend1_2 (l : Launch) (dC : Nat → ClassId) (dI : Nat → Nat → Nat) (cI cZ : ClassId) (cJ : ClassId) (htr : l.stackTraces = false) (b0 u0 aK aX aY aN aV aM f0 e0 g0 aRp aNr aI c0 h0 n R : Nat) (an : Int32) (x : Nat) (aOut : Nat) (sz : Nat) (hx9 : x < n) (hn : n = 24) : Met l yL_extend wsL_extend { frames := 8, cells := 1, slots := 6, locals := 190 } (fun a U => (va_Pc [.ref b0, .int (nI (x)), .int (1), .ref aOut] (dw_pre (dC, dI) vwCl [(b0, .inr (0, [.ref u0, .ref f0, .ref e0, .ref g0, .ref aRp, .ref aNr, .ref aI, .ref c0, .ref h0, .int (an)])), (u0, .inr (1, [.ref aK, .ref aX, .ref aY, .ref aN, .ref aV, .ref aM, .int (nI (n)), .int (nI (R))]))] [(cI, .int), (cZ, .boolean), (cJ, .long)] sz)) a U ∧ dx_N U ∧ dx_L U) (va_Qi (fun (r : Int32) (u : Unit) => r = 2) (fun u t => dw_post (dC, dI) vwCl [(b0, .inr (0, [.ref u0, .ref f0, .ref e0, .ref g0, .ref aRp, .ref aNr, .ref aI, .ref c0, .ref h0, .int (an)])), (u0, .inr (1, [.ref aK, .ref aX, .ref aY, .ref aN, .ref aV, .ref aM, .int (nI (n)), .int (nI (R))]))] [(cI, .int), (cZ, .boolean), (cJ, .long)] (va_A [(b0, .inr (0, [.ref u0, .ref f0, .ref e0, .ref g0, .ref aRp, .ref aNr, .ref aI, .ref c0, .ref h0, .int (an)])), (u0, .inr (1, [.ref aK, .ref aX, .ref aY, .ref aN, .ref aV, .ref aM, .int (nI (n)), .int (nI (R))]))] sz) t) (va_A [(b0, .inr (0, [.ref u0, .ref f0, .ref e0, .ref g0, .ref aRp, .ref aNr, .ref aI, .ref c0, .ref h0, .int (an)])), (u0, .inr (1, [.ref aK, .ref aX, .ref aY, .ref aN, .ref aV, .ref aM, .int (nI (n)), .int (nI (R))]))] sz)) 1 6 (va_A [(b0, .inr (0, [.ref u0, .ref f0, .ref e0, .ref g0, .ref aRp, .ref aNr, .ref aI, .ref c0, .ref h0, .int (an)])), (u0, .inr (1, [.ref aK, .ref aX, .ref aY, .ref aN, .ref aV, .ref aM, .int (nI (n)), .int (nI (R))]))] sz) := by
  refine va_MetW (hh := [(0, 10, 13, 24), (0, 10, 17, 15)]) (cc := cL_extend) (maxL := 5) (ret := (some .int)) (by decide) rfl ?_
  intro p e s m args below meth c s₁ B hml hv0
  obtain ⟨hv0, hNx, hLx⟩ := hv0
  have hx := B.exec
  have hb := B.bytes
  have hr := B.returns
  have hts := atoms_spec (ws := wsL_extend) B.pre
  have hown : s.vm.findClass RL = some m.cls := findClass_of_methodNamed B.named
  have hlocks := B.notSynchronized
  have htb := dx_table B (hts _ List.mem_cons_self)
  obtain ⟨rfl, hsz, hG⟩ := dw_enter hv0
  generalize va_A [(b0, .inr (0, [.ref u0, .ref f0, .ref e0, .ref g0, .ref aRp, .ref aNr, .ref aI, .ref c0, .ref h0, .int (an)])), (u0, .inr (1, [.ref aK, .ref aX, .ref aY, .ref aN, .ref aV, .ref aM, .int (nI (n)), .int (nI (R))]))] sz = A at hG ⊢
  have hl := lv_entry ([.ref b0, .int (nI (x)), .int (1), .ref aOut]) (n := 5) (Nat.le_of_ble_eq_true rfl)
  rw [lg_entry_eq]
  generalize (lg_sl ([.ref b0, .int (nI (x)), .int (1), .ref aOut]) ++ List.replicate (5 - (lg_sl ([.ref b0, .int (nI (x)), .int (1), .ref aOut])).length) Slot.unset).toArray = ls at hl ⊢
  have hl : lv_has ls 5 [(0, .ref b0), (1, .int (nI (x))), (2, .int (1)), (3, .ref aOut)] := hl
  refine dw_Q (fun Q hQ => ?_)
  suffices hgo : ∀ (H : Heap), H = s.heap → dw_G (dC, dI) vwCl [(cI, .int), (cZ, .boolean), (cJ, .long)] A s.heap s [(b0, .inr (0, [.ref u0, .ref f0, .ref e0, .ref g0, .ref aRp, .ref aNr, .ref aI, .ref c0, .ref h0, .int (an)])), (u0, .inr (1, [.ref aK, .ref aX, .ref aY, .ref aN, .ref aV, .ref aM, .int (nI (n)), .int (nI (R))]))] H [] → W p l e (headSpec wsL_extend { frames := 8, cells := 1, slots := 6, locals := 190 }).room s m [.ref b0, .int (nI (x)), .int (1), .ref aOut].toArray below meth c H [] 0 0 Q (F0 m 0 ls []) from hgo _ rfl hG
  clear hG
  intro H hH hG
  refine lv_aload_n hx hb dL_extend_0 rfl (lv_at hl 3 rfl) ?_
  refine lv_iconst (v := 0) hx hb dL_extend_1 (by decide) ?_
  refine lv_aload_n hx hb dL_extend_2 rfl (lv_at hl 0 rfl) ?_
  refine lv_iload_n hx hb dL_extend_3 rfl (lv_at hl 1 rfl) ?_
  refine lv_iload_n hx hb dL_extend_4 rfl (lv_at hl 2 rfl) ?_
  refine dx_catch (As := [.int (nI (x)), .int (1)]) (rest := [.int (0), .ref aOut]) ⟨hx, hb, hml, hown, hts⟩ (cx_extend1_2 l dC dI cI cZ htr b0 u0 aK aX aY aN aV aM f0 e0 g0 aRp aNr aI c0 h0 n R an x H.size hx9 hn) (dc_V 2 hts tw_402 tw_403 tw_404 tw_1 tw_405 rfl rfl (by decide +kernel) ⟨Nat.le_of_ble_eq_true rfl, Nat.le_of_ble_eq_true rfl⟩) (dw_preV (ci := 0) (wc := [(b0, .inr (0, [.ref u0, .ref f0, .ref e0, .ref g0, .ref aRp, .ref aNr, .ref aI, .ref c0, .ref h0, .int (an)])), (u0, .inr (1, [.ref aK, .ref aX, .ref aY, .ref aN, .ref aV, .ref aM, .int (nI (n)), .int (nI (R))]))]) hG [0, 1] [0, 1] rfl rfl (by decide) rfl rfl (q0 := 0) rfl) hG (fun T _ X => hNx.here X) rfl hl.1 rfl (Nat.le_of_ble_eq_true rfl) dL_extend_5 ⟨Nat.le_of_ble_eq_true rfl, Nat.le_of_ble_eq_true rfl⟩ [dx_ent (0, 10, 13, 24)] (dx_ent (0, 10, 17, 15)) [] htb (List.forall_mem_cons.mpr ⟨⟨xIO, by decide, dx_li hLx 2 rfl, dx_li hLx 11 rfl⟩, (fun _ h => nomatch h)⟩) (by decide) (by decide) (dx_li hLx 1 rfl) (dx_li hLx 4 rfl) (fun qx H hG => ?_)
  refine W.eq (g2 := F0 m 17 ls [.ref qx]) rfl ?_
  refine lv_astore (lv' := [(4, .ref qx), (0, .ref b0), (1, .int (nI (x))), (2, .int (1)), (3, .ref aOut)]) hx hb dL_extend_17 hl (by decide) rfl (fun ls hl => ?_)
  refine lv_iconst (v := 2) hx hb dL_extend_19 (by decide) ?_
  subst hQ
  exact dw_iret hx hb hr hG (()) rfl rfl dL_extend_20 hlocks

set_option maxRecDepth 100000 in
set_option maxHeartbeats 4000000 in
theorem lw_loop_1 (l : Launch) (dC : Nat → ClassId) (dI : Nat → Nat → Nat) (cI cZ : ClassId) (cJ : ClassId) (htr : l.stackTraces = false) (b0 u0 aK aX aY aN aV aM f0 e0 g0 aRp aNr aI c0 h0 n R : Nat) (an : Int32) (x : Int32) (aOut : Nat) (sz : Nat) (hinv : x < 0 ∨ nI n ≤ x) : Met l yL_loop wsL_loop { frames := 8, cells := 1, slots := 6, locals := 190 } (fun a U => (va_Pc [.ref b0, .int (x), .ref aOut] (dw_pre (dC, dI) vwCl [(b0, .inr (0, [.ref u0, .ref f0, .ref e0, .ref g0, .ref aRp, .ref aNr, .ref aI, .ref c0, .ref h0, .int (an)])), (u0, .inr (1, [.ref aK, .ref aX, .ref aY, .ref aN, .ref aV, .ref aM, .int (nI (n)), .int (nI (R))]))] [(cI, .int), (cZ, .boolean), (cJ, .long)] sz)) a U ∧ dx_N U ∧ dx_L U) (va_Qi (fun (r : Int32) (u : Unit) => r = 1) (fun u t => dw_post (dC, dI) vwCl [(b0, .inr (0, [.ref u0, .ref f0, .ref e0, .ref g0, .ref aRp, .ref aNr, .ref aI, .ref c0, .ref h0, .int (an)])), (u0, .inr (1, [.ref aK, .ref aX, .ref aY, .ref aN, .ref aV, .ref aM, .int (nI (n)), .int (nI (R))]))] [(cI, .int), (cZ, .boolean), (cJ, .long)] (va_A [(b0, .inr (0, [.ref u0, .ref f0, .ref e0, .ref g0, .ref aRp, .ref aNr, .ref aI, .ref c0, .ref h0, .int (an)])), (u0, .inr (1, [.ref aK, .ref aX, .ref aY, .ref aN, .ref aV, .ref aM, .int (nI (n)), .int (nI (R))]))] sz) t) (va_A [(b0, .inr (0, [.ref u0, .ref f0, .ref e0, .ref g0, .ref aRp, .ref aNr, .ref aI, .ref c0, .ref h0, .int (an)])), (u0, .inr (1, [.ref aK, .ref aX, .ref aY, .ref aN, .ref aV, .ref aM, .int (nI (n)), .int (nI (R))]))] sz)) 1 6 (va_A [(b0, .inr (0, [.ref u0, .ref f0, .ref e0, .ref g0, .ref aRp, .ref aNr, .ref aI, .ref c0, .ref h0, .int (an)])), (u0, .inr (1, [.ref aK, .ref aX, .ref aY, .ref aN, .ref aV, .ref aM, .int (nI (n)), .int (nI (R))]))] sz) := by
  refine va_MetW (hh := [(0, 9, 12, 24), (0, 9, 15, 15)]) (cc := cL_loop) (maxL := 4) (ret := (some .int)) (by decide) rfl ?_
  intro p e s m args below meth c s₁ B hml hv0
  obtain ⟨hv0, hNx, hLx⟩ := hv0
  have hx := B.exec
  have hb := B.bytes
  have hr := B.returns
  have hts := atoms_spec (ws := wsL_loop) B.pre
  have hown : s.vm.findClass RL = some m.cls := findClass_of_methodNamed B.named
  have hlocks := B.notSynchronized
  have htb := dx_table B (hts _ List.mem_cons_self)
  obtain ⟨rfl, hsz, hG⟩ := dw_enter hv0
  generalize va_A [(b0, .inr (0, [.ref u0, .ref f0, .ref e0, .ref g0, .ref aRp, .ref aNr, .ref aI, .ref c0, .ref h0, .int (an)])), (u0, .inr (1, [.ref aK, .ref aX, .ref aY, .ref aN, .ref aV, .ref aM, .int (nI (n)), .int (nI (R))]))] sz = A at hG ⊢
  have hl := lv_entry ([.ref b0, .int (x), .ref aOut]) (n := 4) (Nat.le_of_ble_eq_true rfl)
  rw [lg_entry_eq]
  generalize (lg_sl ([.ref b0, .int (x), .ref aOut]) ++ List.replicate (4 - (lg_sl ([.ref b0, .int (x), .ref aOut])).length) Slot.unset).toArray = ls at hl ⊢
  have hl : lv_has ls 4 [(0, .ref b0), (1, .int (x)), (2, .ref aOut)] := hl
  refine dw_Q (fun Q hQ => ?_)
  suffices hgo : ∀ (H : Heap), H = s.heap → dw_G (dC, dI) vwCl [(cI, .int), (cZ, .boolean), (cJ, .long)] A s.heap s [(b0, .inr (0, [.ref u0, .ref f0, .ref e0, .ref g0, .ref aRp, .ref aNr, .ref aI, .ref c0, .ref h0, .int (an)])), (u0, .inr (1, [.ref aK, .ref aX, .ref aY, .ref aN, .ref aV, .ref aM, .int (nI (n)), .int (nI (R))]))] H [] → W p l e (headSpec wsL_loop { frames := 8, cells := 1, slots := 6, locals := 190 }).room s m [.ref b0, .int (x), .ref aOut].toArray below meth c H [] 0 0 Q (F0 m 0 ls []) from hgo _ rfl hG
  clear hG
  intro H hH hG
  refine lv_aload_n hx hb dL_loop_0 rfl (lv_at hl 2 rfl) ?_
  refine lv_iconst (v := 0) hx hb dL_loop_1 (by decide) ?_
  refine lv_aload_n hx hb dL_loop_2 rfl (lv_at hl 0 rfl) ?_
  refine lv_iload_n hx hb dL_loop_3 rfl (lv_at hl 1 rfl) ?_
  refine dx_catch (As := [.int (x)]) (rest := [.int (0), .ref aOut]) ⟨hx, hb, hml, hown, hts⟩ (cx_loop_1 l dC dI cI cZ htr b0 u0 aK aX aY aN aV aM f0 e0 g0 aRp aNr aI c0 h0 n R an x H.size hinv) (dc_V 1 hts tw_409 tw_410 tw_411 tw_1 tw_412 rfl rfl (by decide +kernel) ⟨Nat.le_of_ble_eq_true rfl, Nat.le_of_ble_eq_true rfl⟩) (dw_preV (ci := 0) (wc := [(b0, .inr (0, [.ref u0, .ref f0, .ref e0, .ref g0, .ref aRp, .ref aNr, .ref aI, .ref c0, .ref h0, .int (an)])), (u0, .inr (1, [.ref aK, .ref aX, .ref aY, .ref aN, .ref aV, .ref aM, .int (nI (n)), .int (nI (R))]))]) hG [0, 1] [0, 1] rfl rfl (by decide) rfl rfl (q0 := 0) rfl) hG (fun T _ X => hNx.here X) rfl hl.1 rfl (Nat.le_of_ble_eq_true rfl) dL_loop_4 ⟨Nat.le_of_ble_eq_true rfl, Nat.le_of_ble_eq_true rfl⟩ [] (dx_ent (0, 9, 12, 24)) [dx_ent (0, 9, 15, 15)] htb (fun _ h => nomatch h) (by decide) (by decide) (dx_li hLx 2 rfl) (dx_li hLx 5 rfl) (fun qx H hG => ?_)
  refine W.eq (g2 := F0 m 12 ls [.ref qx]) rfl ?_
  refine lv_astore_n (lv' := [(3, .ref qx), (0, .ref b0), (1, .int (x)), (2, .ref aOut)]) hx hb dL_loop_12 rfl hl (by decide) rfl (fun ls hl => ?_)
  refine lv_iconst (v := 1) hx hb dL_loop_13 (by decide) ?_
  subst hQ
  exact dw_iret hx hb hr hG (()) rfl rfl dL_loop_14 hlocks

set_option maxRecDepth 100000 in
set_option maxHeartbeats 4000000 in
theorem lw_loop_2 (l : Launch) (dC : Nat → ClassId) (dI : Nat → Nat → Nat) (cI cZ : ClassId) (cJ : ClassId) (htr : l.stackTraces = false) (b0 u0 aK aX aY aN aV aM f0 e0 g0 aRp aNr aI c0 h0 n R : Nat) (an : Int32) (x : Nat) (aOut : Nat) (sz : Nat) (hx9 : x < n) (hn : n = 24) : Met l yL_loop wsL_loop { frames := 8, cells := 1, slots := 6, locals := 190 } (fun a U => (va_Pc [.ref b0, .int (nI (x)), .ref aOut] (dw_pre (dC, dI) vwCl [(b0, .inr (0, [.ref u0, .ref f0, .ref e0, .ref g0, .ref aRp, .ref aNr, .ref aI, .ref c0, .ref h0, .int (an)])), (u0, .inr (1, [.ref aK, .ref aX, .ref aY, .ref aN, .ref aV, .ref aM, .int (nI (n)), .int (nI (R))]))] [(cI, .int), (cZ, .boolean), (cJ, .long)] sz)) a U ∧ dx_N U ∧ dx_L U) (va_Qi (fun (r : Int32) (u : Unit) => r = 2) (fun u t => dw_post (dC, dI) vwCl [(b0, .inr (0, [.ref u0, .ref f0, .ref e0, .ref g0, .ref aRp, .ref aNr, .ref aI, .ref c0, .ref h0, .int (an)])), (u0, .inr (1, [.ref aK, .ref aX, .ref aY, .ref aN, .ref aV, .ref aM, .int (nI (n)), .int (nI (R))]))] [(cI, .int), (cZ, .boolean), (cJ, .long)] (va_A [(b0, .inr (0, [.ref u0, .ref f0, .ref e0, .ref g0, .ref aRp, .ref aNr, .ref aI, .ref c0, .ref h0, .int (an)])), (u0, .inr (1, [.ref aK, .ref aX, .ref aY, .ref aN, .ref aV, .ref aM, .int (nI (n)), .int (nI (R))]))] sz) t) (va_A [(b0, .inr (0, [.ref u0, .ref f0, .ref e0, .ref g0, .ref aRp, .ref aNr, .ref aI, .ref c0, .ref h0, .int (an)])), (u0, .inr (1, [.ref aK, .ref aX, .ref aY, .ref aN, .ref aV, .ref aM, .int (nI (n)), .int (nI (R))]))] sz)) 1 6 (va_A [(b0, .inr (0, [.ref u0, .ref f0, .ref e0, .ref g0, .ref aRp, .ref aNr, .ref aI, .ref c0, .ref h0, .int (an)])), (u0, .inr (1, [.ref aK, .ref aX, .ref aY, .ref aN, .ref aV, .ref aM, .int (nI (n)), .int (nI (R))]))] sz) := by
  refine va_MetW (hh := [(0, 9, 12, 24), (0, 9, 15, 15)]) (cc := cL_loop) (maxL := 4) (ret := (some .int)) (by decide) rfl ?_
  intro p e s m args below meth c s₁ B hml hv0
  obtain ⟨hv0, hNx, hLx⟩ := hv0
  have hx := B.exec
  have hb := B.bytes
  have hr := B.returns
  have hts := atoms_spec (ws := wsL_loop) B.pre
  have hown : s.vm.findClass RL = some m.cls := findClass_of_methodNamed B.named
  have hlocks := B.notSynchronized
  have htb := dx_table B (hts _ List.mem_cons_self)
  obtain ⟨rfl, hsz, hG⟩ := dw_enter hv0
  generalize va_A [(b0, .inr (0, [.ref u0, .ref f0, .ref e0, .ref g0, .ref aRp, .ref aNr, .ref aI, .ref c0, .ref h0, .int (an)])), (u0, .inr (1, [.ref aK, .ref aX, .ref aY, .ref aN, .ref aV, .ref aM, .int (nI (n)), .int (nI (R))]))] sz = A at hG ⊢
  have hl := lv_entry ([.ref b0, .int (nI (x)), .ref aOut]) (n := 4) (Nat.le_of_ble_eq_true rfl)
  rw [lg_entry_eq]
  generalize (lg_sl ([.ref b0, .int (nI (x)), .ref aOut]) ++ List.replicate (4 - (lg_sl ([.ref b0, .int (nI (x)), .ref aOut])).length) Slot.unset).toArray = ls at hl ⊢
  have hl : lv_has ls 4 [(0, .ref b0), (1, .int (nI (x))), (2, .ref aOut)] := hl
  refine dw_Q (fun Q hQ => ?_)
  suffices hgo : ∀ (H : Heap), H = s.heap → dw_G (dC, dI) vwCl [(cI, .int), (cZ, .boolean), (cJ, .long)] A s.heap s [(b0, .inr (0, [.ref u0, .ref f0, .ref e0, .ref g0, .ref aRp, .ref aNr, .ref aI, .ref c0, .ref h0, .int (an)])), (u0, .inr (1, [.ref aK, .ref aX, .ref aY, .ref aN, .ref aV, .ref aM, .int (nI (n)), .int (nI (R))]))] H [] → W p l e (headSpec wsL_loop { frames := 8, cells := 1, slots := 6, locals := 190 }).room s m [.ref b0, .int (nI (x)), .ref aOut].toArray below meth c H [] 0 0 Q (F0 m 0 ls []) from hgo _ rfl hG
  clear hG
  intro H hH hG
  refine lv_aload_n hx hb dL_loop_0 rfl (lv_at hl 2 rfl) ?_
  refine lv_iconst (v := 0) hx hb dL_loop_1 (by decide) ?_
  refine lv_aload_n hx hb dL_loop_2 rfl (lv_at hl 0 rfl) ?_
  refine lv_iload_n hx hb dL_loop_3 rfl (lv_at hl 1 rfl) ?_
  refine dx_catch (As := [.int (nI (x))]) (rest := [.int (0), .ref aOut]) ⟨hx, hb, hml, hown, hts⟩ (cx_loop_2 l dC dI cI cZ htr b0 u0 aK aX aY aN aV aM f0 e0 g0 aRp aNr aI c0 h0 n R an x H.size hx9 hn) (dc_V 1 hts tw_409 tw_410 tw_411 tw_1 tw_412 rfl rfl (by decide +kernel) ⟨Nat.le_of_ble_eq_true rfl, Nat.le_of_ble_eq_true rfl⟩) (dw_preV (ci := 0) (wc := [(b0, .inr (0, [.ref u0, .ref f0, .ref e0, .ref g0, .ref aRp, .ref aNr, .ref aI, .ref c0, .ref h0, .int (an)])), (u0, .inr (1, [.ref aK, .ref aX, .ref aY, .ref aN, .ref aV, .ref aM, .int (nI (n)), .int (nI (R))]))]) hG [0, 1] [0, 1] rfl rfl (by decide) rfl rfl (q0 := 0) rfl) hG (fun T _ X => hNx.here X) rfl hl.1 rfl (Nat.le_of_ble_eq_true rfl) dL_loop_4 ⟨Nat.le_of_ble_eq_true rfl, Nat.le_of_ble_eq_true rfl⟩ [dx_ent (0, 9, 12, 24)] (dx_ent (0, 9, 15, 15)) [] htb (List.forall_mem_cons.mpr ⟨⟨xIO, by decide, dx_li hLx 2 rfl, dx_li hLx 11 rfl⟩, (fun _ h => nomatch h)⟩) (by decide) (by decide) (dx_li hLx 1 rfl) (dx_li hLx 4 rfl) (fun qx H hG => ?_)
  refine W.eq (g2 := F0 m 15 ls [.ref qx]) rfl ?_
  refine lv_astore_n (lv' := [(3, .ref qx), (0, .ref b0), (1, .int (nI (x))), (2, .ref aOut)]) hx hb dL_loop_15 rfl hl (by decide) rfl (fun ls hl => ?_)
  refine lv_iconst (v := 2) hx hb dL_loop_16 (by decide) ?_
  subst hQ
  exact dw_iret hx hb hr hG (()) rfl rfl dL_loop_17 hlocks

set_option maxRecDepth 100000 in
set_option maxHeartbeats 4000000 in
theorem lw_back_1v (l : Launch) (dC : Nat → ClassId) (dI : Nat → Nat → Nat) (cI cZ : ClassId) (cJ : ClassId) (htr : l.stackTraces = false) (b0 u0 aK aX aY aN aV aM f0 e0 g0 aRp aNr aI c0 h0 n R : Nat) (an : Int32) (v y : Int32) (sz : Nat) (hinv : v < 0 ∨ nI n ≤ v) : Met l yL_back wsL_back { frames := 8, cells := 1, slots := 6, locals := 190 } (fun a U => (va_Pc [.ref b0, .int (v), .int (y)] (dw_pre (dC, dI) vwCl [(b0, .inr (0, [.ref u0, .ref f0, .ref e0, .ref g0, .ref aRp, .ref aNr, .ref aI, .ref c0, .ref h0, .int (an)])), (u0, .inr (1, [.ref aK, .ref aX, .ref aY, .ref aN, .ref aV, .ref aM, .int (nI (n)), .int (nI (R))]))] [(cI, .int), (cZ, .boolean), (cJ, .long)] sz)) a U ∧ dx_N U ∧ dx_L U) (va_Qi (fun (r : Int32) (u : Unit) => r = 1) (fun u t => dw_post (dC, dI) vwCl [(b0, .inr (0, [.ref u0, .ref f0, .ref e0, .ref g0, .ref aRp, .ref aNr, .ref aI, .ref c0, .ref h0, .int (an)])), (u0, .inr (1, [.ref aK, .ref aX, .ref aY, .ref aN, .ref aV, .ref aM, .int (nI (n)), .int (nI (R))]))] [(cI, .int), (cZ, .boolean), (cJ, .long)] (va_A [(b0, .inr (0, [.ref u0, .ref f0, .ref e0, .ref g0, .ref aRp, .ref aNr, .ref aI, .ref c0, .ref h0, .int (an)])), (u0, .inr (1, [.ref aK, .ref aX, .ref aY, .ref aN, .ref aV, .ref aM, .int (nI (n)), .int (nI (R))]))] sz) t) (va_A [(b0, .inr (0, [.ref u0, .ref f0, .ref e0, .ref g0, .ref aRp, .ref aNr, .ref aI, .ref c0, .ref h0, .int (an)])), (u0, .inr (1, [.ref aK, .ref aX, .ref aY, .ref aN, .ref aV, .ref aM, .int (nI (n)), .int (nI (R))]))] sz)) 1 6 (va_A [(b0, .inr (0, [.ref u0, .ref f0, .ref e0, .ref g0, .ref aRp, .ref aNr, .ref aI, .ref c0, .ref h0, .int (an)])), (u0, .inr (1, [.ref aK, .ref aX, .ref aY, .ref aN, .ref aV, .ref aM, .int (nI (n)), .int (nI (R))]))] sz) := by
  refine va_MetW (hh := [(0, 6, 9, 24), (0, 6, 12, 13)]) (cc := cL_back) (maxL := 4) (ret := (some .int)) (by decide) rfl ?_
  intro p e s m args below meth c s₁ B hml hv0
  obtain ⟨hv0, hNx, hLx⟩ := hv0
  have hx := B.exec
  have hb := B.bytes
  have hr := B.returns
  have hts := atoms_spec (ws := wsL_back) B.pre
  have hown : s.vm.findClass RL = some m.cls := findClass_of_methodNamed B.named
  have hlocks := B.notSynchronized
  have htb := dx_table B (hts _ List.mem_cons_self)
  obtain ⟨rfl, hsz, hG⟩ := dw_enter hv0
  generalize va_A [(b0, .inr (0, [.ref u0, .ref f0, .ref e0, .ref g0, .ref aRp, .ref aNr, .ref aI, .ref c0, .ref h0, .int (an)])), (u0, .inr (1, [.ref aK, .ref aX, .ref aY, .ref aN, .ref aV, .ref aM, .int (nI (n)), .int (nI (R))]))] sz = A at hG ⊢
  have hl := lv_entry ([.ref b0, .int (v), .int (y)]) (n := 4) (Nat.le_of_ble_eq_true rfl)
  rw [lg_entry_eq]
  generalize (lg_sl ([.ref b0, .int (v), .int (y)]) ++ List.replicate (4 - (lg_sl ([.ref b0, .int (v), .int (y)])).length) Slot.unset).toArray = ls at hl ⊢
  have hl : lv_has ls 4 [(0, .ref b0), (1, .int (v)), (2, .int (y))] := hl
  refine dw_Q (fun Q hQ => ?_)
  suffices hgo : ∀ (H : Heap), H = s.heap → dw_G (dC, dI) vwCl [(cI, .int), (cZ, .boolean), (cJ, .long)] A s.heap s [(b0, .inr (0, [.ref u0, .ref f0, .ref e0, .ref g0, .ref aRp, .ref aNr, .ref aI, .ref c0, .ref h0, .int (an)])), (u0, .inr (1, [.ref aK, .ref aX, .ref aY, .ref aN, .ref aV, .ref aM, .int (nI (n)), .int (nI (R))]))] H [] → W p l e (headSpec wsL_back { frames := 8, cells := 1, slots := 6, locals := 190 }).room s m [.ref b0, .int (v), .int (y)].toArray below meth c H [] 0 0 Q (F0 m 0 ls []) from hgo _ rfl hG
  clear hG
  intro H hH hG
  refine lv_aload_n hx hb dL_back_0 rfl (lv_at hl 0 rfl) ?_
  refine lv_iload_n hx hb dL_back_1 rfl (lv_at hl 1 rfl) ?_
  refine lv_iload_n hx hb dL_back_2 rfl (lv_at hl 2 rfl) ?_
  refine dx_catch (As := [.int (v), .int (y)]) (rest := []) ⟨hx, hb, hml, hown, hts⟩ (cx_back_1v l dC dI cI cZ htr b0 u0 aK aX aY aN aV aM f0 e0 g0 aRp aNr aI c0 h0 n R an v y H.size hinv) (dc_V 2 hts tw_416 tw_417 tw_418 tw_1 tw_419 rfl rfl (by decide +kernel) ⟨Nat.le_of_ble_eq_true rfl, Nat.le_of_ble_eq_true rfl⟩) (dw_preV (ci := 0) (wc := [(b0, .inr (0, [.ref u0, .ref f0, .ref e0, .ref g0, .ref aRp, .ref aNr, .ref aI, .ref c0, .ref h0, .int (an)])), (u0, .inr (1, [.ref aK, .ref aX, .ref aY, .ref aN, .ref aV, .ref aM, .int (nI (n)), .int (nI (R))]))]) hG [0, 1] [0, 1] rfl rfl (by decide) rfl rfl (q0 := 0) rfl) hG (fun T _ X => hNx.here X) rfl hl.1 rfl (Nat.le_of_ble_eq_true rfl) dL_back_3 ⟨Nat.le_of_ble_eq_true rfl, Nat.le_of_ble_eq_true rfl⟩ [] (dx_ent (0, 6, 9, 24)) [dx_ent (0, 6, 12, 13)] htb (fun _ h => nomatch h) (by decide) (by decide) (dx_li hLx 2 rfl) (dx_li hLx 5 rfl) (fun qx H hG => ?_)
  refine W.eq (g2 := F0 m 9 ls [.ref qx]) rfl ?_
  refine lv_astore_n (lv' := [(3, .ref qx), (0, .ref b0), (1, .int (v)), (2, .int (y))]) hx hb dL_back_9 rfl hl (by decide) rfl (fun ls hl => ?_)
  refine lv_iconst (v := 1) hx hb dL_back_10 (by decide) ?_
  subst hQ
  exact dw_iret hx hb hr hG (()) rfl rfl dL_back_11 hlocks

set_option maxRecDepth 100000 in
set_option maxHeartbeats 4000000 in
theorem lw_back_1y (l : Launch) (dC : Nat → ClassId) (dI : Nat → Nat → Nat) (cI cZ : ClassId) (cJ : ClassId) (htr : l.stackTraces = false) (b0 u0 aK aX aY aN aV aM f0 e0 g0 aRp aNr aI c0 h0 n R : Nat) (an : Int32) (v : Nat) (y : Int32) (sz : Nat) (hn : n ≤ 24) (hv : v < n) (hinv : y < 0 ∨ nI n ≤ y) : Met l yL_back wsL_back { frames := 8, cells := 1, slots := 6, locals := 190 } (fun a U => (va_Pc [.ref b0, .int (nI (v)), .int (y)] (dw_pre (dC, dI) vwCl [(b0, .inr (0, [.ref u0, .ref f0, .ref e0, .ref g0, .ref aRp, .ref aNr, .ref aI, .ref c0, .ref h0, .int (an)])), (u0, .inr (1, [.ref aK, .ref aX, .ref aY, .ref aN, .ref aV, .ref aM, .int (nI (n)), .int (nI (R))]))] [(cI, .int), (cZ, .boolean), (cJ, .long)] sz)) a U ∧ dx_N U ∧ dx_L U) (va_Qi (fun (r : Int32) (u : Unit) => r = 1) (fun u t => dw_post (dC, dI) vwCl [(b0, .inr (0, [.ref u0, .ref f0, .ref e0, .ref g0, .ref aRp, .ref aNr, .ref aI, .ref c0, .ref h0, .int (an)])), (u0, .inr (1, [.ref aK, .ref aX, .ref aY, .ref aN, .ref aV, .ref aM, .int (nI (n)), .int (nI (R))]))] [(cI, .int), (cZ, .boolean), (cJ, .long)] (va_A [(b0, .inr (0, [.ref u0, .ref f0, .ref e0, .ref g0, .ref aRp, .ref aNr, .ref aI, .ref c0, .ref h0, .int (an)])), (u0, .inr (1, [.ref aK, .ref aX, .ref aY, .ref aN, .ref aV, .ref aM, .int (nI (n)), .int (nI (R))]))] sz) t) (va_A [(b0, .inr (0, [.ref u0, .ref f0, .ref e0, .ref g0, .ref aRp, .ref aNr, .ref aI, .ref c0, .ref h0, .int (an)])), (u0, .inr (1, [.ref aK, .ref aX, .ref aY, .ref aN, .ref aV, .ref aM, .int (nI (n)), .int (nI (R))]))] sz)) 1 6 (va_A [(b0, .inr (0, [.ref u0, .ref f0, .ref e0, .ref g0, .ref aRp, .ref aNr, .ref aI, .ref c0, .ref h0, .int (an)])), (u0, .inr (1, [.ref aK, .ref aX, .ref aY, .ref aN, .ref aV, .ref aM, .int (nI (n)), .int (nI (R))]))] sz) := by
  refine va_MetW (hh := [(0, 6, 9, 24), (0, 6, 12, 13)]) (cc := cL_back) (maxL := 4) (ret := (some .int)) (by decide) rfl ?_
  intro p e s m args below meth c s₁ B hml hv0
  obtain ⟨hv0, hNx, hLx⟩ := hv0
  have hx := B.exec
  have hb := B.bytes
  have hr := B.returns
  have hts := atoms_spec (ws := wsL_back) B.pre
  have hown : s.vm.findClass RL = some m.cls := findClass_of_methodNamed B.named
  have hlocks := B.notSynchronized
  have htb := dx_table B (hts _ List.mem_cons_self)
  obtain ⟨rfl, hsz, hG⟩ := dw_enter hv0
  generalize va_A [(b0, .inr (0, [.ref u0, .ref f0, .ref e0, .ref g0, .ref aRp, .ref aNr, .ref aI, .ref c0, .ref h0, .int (an)])), (u0, .inr (1, [.ref aK, .ref aX, .ref aY, .ref aN, .ref aV, .ref aM, .int (nI (n)), .int (nI (R))]))] sz = A at hG ⊢
  have hl := lv_entry ([.ref b0, .int (nI (v)), .int (y)]) (n := 4) (Nat.le_of_ble_eq_true rfl)
  rw [lg_entry_eq]
  generalize (lg_sl ([.ref b0, .int (nI (v)), .int (y)]) ++ List.replicate (4 - (lg_sl ([.ref b0, .int (nI (v)), .int (y)])).length) Slot.unset).toArray = ls at hl ⊢
  have hl : lv_has ls 4 [(0, .ref b0), (1, .int (nI (v))), (2, .int (y))] := hl
  refine dw_Q (fun Q hQ => ?_)
  suffices hgo : ∀ (H : Heap), H = s.heap → dw_G (dC, dI) vwCl [(cI, .int), (cZ, .boolean), (cJ, .long)] A s.heap s [(b0, .inr (0, [.ref u0, .ref f0, .ref e0, .ref g0, .ref aRp, .ref aNr, .ref aI, .ref c0, .ref h0, .int (an)])), (u0, .inr (1, [.ref aK, .ref aX, .ref aY, .ref aN, .ref aV, .ref aM, .int (nI (n)), .int (nI (R))]))] H [] → W p l e (headSpec wsL_back { frames := 8, cells := 1, slots := 6, locals := 190 }).room s m [.ref b0, .int (nI (v)), .int (y)].toArray below meth c H [] 0 0 Q (F0 m 0 ls []) from hgo _ rfl hG
  clear hG
  intro H hH hG
  refine lv_aload_n hx hb dL_back_0 rfl (lv_at hl 0 rfl) ?_
  refine lv_iload_n hx hb dL_back_1 rfl (lv_at hl 1 rfl) ?_
  refine lv_iload_n hx hb dL_back_2 rfl (lv_at hl 2 rfl) ?_
  refine dx_catch (As := [.int (nI (v)), .int (y)]) (rest := []) ⟨hx, hb, hml, hown, hts⟩ (cx_back_1y l dC dI cI cZ htr b0 u0 aK aX aY aN aV aM f0 e0 g0 aRp aNr aI c0 h0 n R an v y H.size hn hv hinv) (dc_V 2 hts tw_416 tw_417 tw_418 tw_1 tw_419 rfl rfl (by decide +kernel) ⟨Nat.le_of_ble_eq_true rfl, Nat.le_of_ble_eq_true rfl⟩) (dw_preV (ci := 0) (wc := [(b0, .inr (0, [.ref u0, .ref f0, .ref e0, .ref g0, .ref aRp, .ref aNr, .ref aI, .ref c0, .ref h0, .int (an)])), (u0, .inr (1, [.ref aK, .ref aX, .ref aY, .ref aN, .ref aV, .ref aM, .int (nI (n)), .int (nI (R))]))]) hG [0, 1] [0, 1] rfl rfl (by decide) rfl rfl (q0 := 0) rfl) hG (fun T _ X => hNx.here X) rfl hl.1 rfl (Nat.le_of_ble_eq_true rfl) dL_back_3 ⟨Nat.le_of_ble_eq_true rfl, Nat.le_of_ble_eq_true rfl⟩ [] (dx_ent (0, 6, 9, 24)) [dx_ent (0, 6, 12, 13)] htb (fun _ h => nomatch h) (by decide) (by decide) (dx_li hLx 2 rfl) (dx_li hLx 5 rfl) (fun qx H hG => ?_)
  refine W.eq (g2 := F0 m 9 ls [.ref qx]) rfl ?_
  refine lv_astore_n (lv' := [(3, .ref qx), (0, .ref b0), (1, .int (nI (v))), (2, .int (y))]) hx hb dL_back_9 rfl hl (by decide) rfl (fun ls hl => ?_)
  refine lv_iconst (v := 1) hx hb dL_back_10 (by decide) ?_
  subst hQ
  exact dw_iret hx hb hr hG (()) rfl rfl dL_back_11 hlocks

set_option maxRecDepth 100000 in
set_option maxHeartbeats 4000000 in
theorem lw_back_2 (l : Launch) (dC : Nat → ClassId) (dI : Nat → Nat → Nat) (cI cZ : ClassId) (cJ : ClassId) (htr : l.stackTraces = false) (b0 u0 aK aX aY aN aV aM f0 e0 g0 aRp aNr aI c0 h0 n R : Nat) (an : Int32) (K : Nat → Nat) (v y : Nat) (sz : Nat) (hn : n ≤ 24) (hv : v < n) (hy9 : y < n) (hk13 : K v ≤ 13) (hkv : ¬ K v = 13) : Met l yL_back wsL_back { frames := 8, cells := 1, slots := 6, locals := 190 } (fun a U => (va_Pc [.ref b0, .int (nI (v)), .int (nI (y))] (dw_pre (dC, dI) vwCl [(b0, .inr (0, [.ref u0, .ref f0, .ref e0, .ref g0, .ref aRp, .ref aNr, .ref aI, .ref c0, .ref h0, .int (an)])), (u0, .inr (1, [.ref aK, .ref aX, .ref aY, .ref aN, .ref aV, .ref aM, .int (nI (n)), .int (nI (R))])), (aK, .inl (cI, 24, .inl (fun w => nI (K w))))] [(cI, .int), (cZ, .boolean), (cJ, .long)] sz)) a U ∧ dx_N U ∧ dx_L U) (va_Qi (fun (r : Int32) (u : Unit) => r = 2) (fun u t => dw_post (dC, dI) vwCl [(b0, .inr (0, [.ref u0, .ref f0, .ref e0, .ref g0, .ref aRp, .ref aNr, .ref aI, .ref c0, .ref h0, .int (an)])), (u0, .inr (1, [.ref aK, .ref aX, .ref aY, .ref aN, .ref aV, .ref aM, .int (nI (n)), .int (nI (R))])), (aK, .inl (cI, 24, .inl (fun w => nI (K w))))] [(cI, .int), (cZ, .boolean), (cJ, .long)] (va_A [(b0, .inr (0, [.ref u0, .ref f0, .ref e0, .ref g0, .ref aRp, .ref aNr, .ref aI, .ref c0, .ref h0, .int (an)])), (u0, .inr (1, [.ref aK, .ref aX, .ref aY, .ref aN, .ref aV, .ref aM, .int (nI (n)), .int (nI (R))])), (aK, .inl (cI, 24, .inl (fun w => nI (K w))))] sz) t) (va_A [(b0, .inr (0, [.ref u0, .ref f0, .ref e0, .ref g0, .ref aRp, .ref aNr, .ref aI, .ref c0, .ref h0, .int (an)])), (u0, .inr (1, [.ref aK, .ref aX, .ref aY, .ref aN, .ref aV, .ref aM, .int (nI (n)), .int (nI (R))])), (aK, .inl (cI, 24, .inl (fun w => nI (K w))))] sz)) 1 6 (va_A [(b0, .inr (0, [.ref u0, .ref f0, .ref e0, .ref g0, .ref aRp, .ref aNr, .ref aI, .ref c0, .ref h0, .int (an)])), (u0, .inr (1, [.ref aK, .ref aX, .ref aY, .ref aN, .ref aV, .ref aM, .int (nI (n)), .int (nI (R))])), (aK, .inl (cI, 24, .inl (fun w => nI (K w))))] sz) := by
  refine va_MetW (hh := [(0, 6, 9, 24), (0, 6, 12, 13)]) (cc := cL_back) (maxL := 4) (ret := (some .int)) (by decide) rfl ?_
  intro p e s m args below meth c s₁ B hml hv0
  obtain ⟨hv0, hNx, hLx⟩ := hv0
  have hx := B.exec
  have hb := B.bytes
  have hr := B.returns
  have hts := atoms_spec (ws := wsL_back) B.pre
  have hown : s.vm.findClass RL = some m.cls := findClass_of_methodNamed B.named
  have hlocks := B.notSynchronized
  have htb := dx_table B (hts _ List.mem_cons_self)
  obtain ⟨rfl, hsz, hG⟩ := dw_enter hv0
  generalize va_A [(b0, .inr (0, [.ref u0, .ref f0, .ref e0, .ref g0, .ref aRp, .ref aNr, .ref aI, .ref c0, .ref h0, .int (an)])), (u0, .inr (1, [.ref aK, .ref aX, .ref aY, .ref aN, .ref aV, .ref aM, .int (nI (n)), .int (nI (R))])), (aK, .inl (cI, 24, .inl (fun w => nI (K w))))] sz = A at hG ⊢
  have hl := lv_entry ([.ref b0, .int (nI (v)), .int (nI (y))]) (n := 4) (Nat.le_of_ble_eq_true rfl)
  rw [lg_entry_eq]
  generalize (lg_sl ([.ref b0, .int (nI (v)), .int (nI (y))]) ++ List.replicate (4 - (lg_sl ([.ref b0, .int (nI (v)), .int (nI (y))])).length) Slot.unset).toArray = ls at hl ⊢
  have hl : lv_has ls 4 [(0, .ref b0), (1, .int (nI (v))), (2, .int (nI (y)))] := hl
  refine dw_Q (fun Q hQ => ?_)
  suffices hgo : ∀ (H : Heap), H = s.heap → dw_G (dC, dI) vwCl [(cI, .int), (cZ, .boolean), (cJ, .long)] A s.heap s [(b0, .inr (0, [.ref u0, .ref f0, .ref e0, .ref g0, .ref aRp, .ref aNr, .ref aI, .ref c0, .ref h0, .int (an)])), (u0, .inr (1, [.ref aK, .ref aX, .ref aY, .ref aN, .ref aV, .ref aM, .int (nI (n)), .int (nI (R))])), (aK, .inl (cI, 24, .inl (fun w => nI (K w))))] H [] → W p l e (headSpec wsL_back { frames := 8, cells := 1, slots := 6, locals := 190 }).room s m [.ref b0, .int (nI (v)), .int (nI (y))].toArray below meth c H [] 0 0 Q (F0 m 0 ls []) from hgo _ rfl hG
  clear hG
  intro H hH hG
  refine lv_aload_n hx hb dL_back_0 rfl (lv_at hl 0 rfl) ?_
  refine lv_iload_n hx hb dL_back_1 rfl (lv_at hl 1 rfl) ?_
  refine lv_iload_n hx hb dL_back_2 rfl (lv_at hl 2 rfl) ?_
  refine dx_catch (As := [.int (nI (v)), .int (nI (y))]) (rest := []) ⟨hx, hb, hml, hown, hts⟩ (cx_back_2 l dC dI cI cZ htr b0 u0 aK aX aY aN aV aM f0 e0 g0 aRp aNr aI c0 h0 n R an K v y H.size hn hv hy9 hk13 hkv) (dc_V 2 hts tw_416 tw_417 tw_418 tw_1 tw_419 rfl rfl (by decide +kernel) ⟨Nat.le_of_ble_eq_true rfl, Nat.le_of_ble_eq_true rfl⟩) (dw_preV (ci := 0) (wc := [(b0, .inr (0, [.ref u0, .ref f0, .ref e0, .ref g0, .ref aRp, .ref aNr, .ref aI, .ref c0, .ref h0, .int (an)])), (u0, .inr (1, [.ref aK, .ref aX, .ref aY, .ref aN, .ref aV, .ref aM, .int (nI (n)), .int (nI (R))])), (aK, .inl (cI, 24, .inl (fun w => nI (K w))))]) hG [0, 1, 2] [0, 1] rfl rfl (by decide) rfl rfl (q0 := 0) rfl) hG (fun T _ X => hNx.here X) rfl hl.1 rfl (Nat.le_of_ble_eq_true rfl) dL_back_3 ⟨Nat.le_of_ble_eq_true rfl, Nat.le_of_ble_eq_true rfl⟩ [dx_ent (0, 6, 9, 24)] (dx_ent (0, 6, 12, 13)) [] htb (List.forall_mem_cons.mpr ⟨⟨xIO, by decide, dx_li hLx 2 rfl, dx_li hLx 10 rfl⟩, (fun _ h => nomatch h)⟩) (by decide) (by decide) (dx_li hLx 0 rfl) (dx_li hLx 3 rfl) (fun qx H hG => ?_)
  refine W.eq (g2 := F0 m 12 ls [.ref qx]) rfl ?_
  refine lv_astore_n (lv' := [(3, .ref qx), (0, .ref b0), (1, .int (nI (v))), (2, .int (nI (y)))]) hx hb dL_back_12 rfl hl (by decide) rfl (fun ls hl => ?_)
  refine lv_iconst (v := 2) hx hb dL_back_13 (by decide) ?_
  subst hQ
  exact dw_iret hx hb hr hG (()) rfl rfl dL_back_14 hlocks

set_option maxRecDepth 100000 in
set_option maxHeartbeats 4000000 in
theorem lw_result_1 (l : Launch) (dC : Nat → ClassId) (dI : Nat → Nat → Nat) (cI cZ : ClassId) (cJ : ClassId) (htr : l.stackTraces = false) (b0 u0 aK aX aY aN aV aM f0 e0 g0 aRp aNr aI c0 h0 n R : Nat) (an : Int32) (v mk : Int32) (aOut : Nat) (sz : Nat) (hinv : v < 0 ∨ nI n ≤ v) : Met l yL_result wsL_result { frames := 8, cells := 1, slots := 6, locals := 190 } (fun a U => (va_Pc [.ref b0, .int (v), .int (mk), .ref aOut] (dw_pre (dC, dI) vwCl [(b0, .inr (0, [.ref u0, .ref f0, .ref e0, .ref g0, .ref aRp, .ref aNr, .ref aI, .ref c0, .ref h0, .int (an)])), (u0, .inr (1, [.ref aK, .ref aX, .ref aY, .ref aN, .ref aV, .ref aM, .int (nI (n)), .int (nI (R))]))] [(cI, .int), (cZ, .boolean), (cJ, .long)] sz)) a U ∧ dx_N U ∧ dx_L U) (va_Qi (fun (r : Int32) (u : Unit) => r = 1) (fun u t => dw_post (dC, dI) vwCl [(b0, .inr (0, [.ref u0, .ref f0, .ref e0, .ref g0, .ref aRp, .ref aNr, .ref aI, .ref c0, .ref h0, .int (an)])), (u0, .inr (1, [.ref aK, .ref aX, .ref aY, .ref aN, .ref aV, .ref aM, .int (nI (n)), .int (nI (R))]))] [(cI, .int), (cZ, .boolean), (cJ, .long)] (va_A [(b0, .inr (0, [.ref u0, .ref f0, .ref e0, .ref g0, .ref aRp, .ref aNr, .ref aI, .ref c0, .ref h0, .int (an)])), (u0, .inr (1, [.ref aK, .ref aX, .ref aY, .ref aN, .ref aV, .ref aM, .int (nI (n)), .int (nI (R))]))] sz) t) (va_A [(b0, .inr (0, [.ref u0, .ref f0, .ref e0, .ref g0, .ref aRp, .ref aNr, .ref aI, .ref c0, .ref h0, .int (an)])), (u0, .inr (1, [.ref aK, .ref aX, .ref aY, .ref aN, .ref aV, .ref aM, .int (nI (n)), .int (nI (R))]))] sz)) 1 6 (va_A [(b0, .inr (0, [.ref u0, .ref f0, .ref e0, .ref g0, .ref aRp, .ref aNr, .ref aI, .ref c0, .ref h0, .int (an)])), (u0, .inr (1, [.ref aK, .ref aX, .ref aY, .ref aN, .ref aV, .ref aM, .int (nI (n)), .int (nI (R))]))] sz) := by
  refine va_MetW (hh := [(0, 10, 13, 24), (0, 10, 17, 15)]) (cc := cL_result) (maxL := 5) (ret := (some .int)) (by decide) rfl ?_
  intro p e s m args below meth c s₁ B hml hv0
  obtain ⟨hv0, hNx, hLx⟩ := hv0
  have hx := B.exec
  have hb := B.bytes
  have hr := B.returns
  have hts := atoms_spec (ws := wsL_result) B.pre
  have hown : s.vm.findClass RL = some m.cls := findClass_of_methodNamed B.named
  have hlocks := B.notSynchronized
  have htb := dx_table B (hts _ List.mem_cons_self)
  obtain ⟨rfl, hsz, hG⟩ := dw_enter hv0
  generalize va_A [(b0, .inr (0, [.ref u0, .ref f0, .ref e0, .ref g0, .ref aRp, .ref aNr, .ref aI, .ref c0, .ref h0, .int (an)])), (u0, .inr (1, [.ref aK, .ref aX, .ref aY, .ref aN, .ref aV, .ref aM, .int (nI (n)), .int (nI (R))]))] sz = A at hG ⊢
  have hl := lv_entry ([.ref b0, .int (v), .int (mk), .ref aOut]) (n := 5) (Nat.le_of_ble_eq_true rfl)
  rw [lg_entry_eq]
  generalize (lg_sl ([.ref b0, .int (v), .int (mk), .ref aOut]) ++ List.replicate (5 - (lg_sl ([.ref b0, .int (v), .int (mk), .ref aOut])).length) Slot.unset).toArray = ls at hl ⊢
  have hl : lv_has ls 5 [(0, .ref b0), (1, .int (v)), (2, .int (mk)), (3, .ref aOut)] := hl
  refine dw_Q (fun Q hQ => ?_)
  suffices hgo : ∀ (H : Heap), H = s.heap → dw_G (dC, dI) vwCl [(cI, .int), (cZ, .boolean), (cJ, .long)] A s.heap s [(b0, .inr (0, [.ref u0, .ref f0, .ref e0, .ref g0, .ref aRp, .ref aNr, .ref aI, .ref c0, .ref h0, .int (an)])), (u0, .inr (1, [.ref aK, .ref aX, .ref aY, .ref aN, .ref aV, .ref aM, .int (nI (n)), .int (nI (R))]))] H [] → W p l e (headSpec wsL_result { frames := 8, cells := 1, slots := 6, locals := 190 }).room s m [.ref b0, .int (v), .int (mk), .ref aOut].toArray below meth c H [] 0 0 Q (F0 m 0 ls []) from hgo _ rfl hG
  clear hG
  intro H hH hG
  refine lv_aload_n hx hb dL_result_0 rfl (lv_at hl 3 rfl) ?_
  refine lv_iconst (v := 0) hx hb dL_result_1 (by decide) ?_
  refine lv_aload_n hx hb dL_result_2 rfl (lv_at hl 0 rfl) ?_
  refine lv_iload_n hx hb dL_result_3 rfl (lv_at hl 1 rfl) ?_
  refine lv_iload_n hx hb dL_result_4 rfl (lv_at hl 2 rfl) ?_
  refine dx_catch (As := [.int (v), .int (mk)]) (rest := [.int (0), .ref aOut]) ⟨hx, hb, hml, hown, hts⟩ (cx_result_1 l dC dI cI cZ htr b0 u0 aK aX aY aN aV aM f0 e0 g0 aRp aNr aI c0 h0 n R an v mk H.size hinv) (dc_V 2 hts tw_424 tw_425 tw_426 tw_1 tw_427 rfl rfl (by decide +kernel) ⟨Nat.le_of_ble_eq_true rfl, Nat.le_of_ble_eq_true rfl⟩) (dw_preV (ci := 0) (wc := [(b0, .inr (0, [.ref u0, .ref f0, .ref e0, .ref g0, .ref aRp, .ref aNr, .ref aI, .ref c0, .ref h0, .int (an)])), (u0, .inr (1, [.ref aK, .ref aX, .ref aY, .ref aN, .ref aV, .ref aM, .int (nI (n)), .int (nI (R))]))]) hG [0, 1] [0, 1] rfl rfl (by decide) rfl rfl (q0 := 0) rfl) hG (fun T _ X => hNx.here X) rfl hl.1 rfl (Nat.le_of_ble_eq_true rfl) dL_result_5 ⟨Nat.le_of_ble_eq_true rfl, Nat.le_of_ble_eq_true rfl⟩ [] (dx_ent (0, 10, 13, 24)) [dx_ent (0, 10, 17, 15)] htb (fun _ h => nomatch h) (by decide) (by decide) (dx_li hLx 2 rfl) (dx_li hLx 5 rfl) (fun qx H hG => ?_)
  refine W.eq (g2 := F0 m 13 ls [.ref qx]) rfl ?_
  refine lv_astore (lv' := [(4, .ref qx), (0, .ref b0), (1, .int (v)), (2, .int (mk)), (3, .ref aOut)]) hx hb dL_result_13 hl (by decide) rfl (fun ls hl => ?_)
  refine lv_iconst (v := 1) hx hb dL_result_15 (by decide) ?_
  subst hQ
  exact dw_iret hx hb hr hG (()) rfl rfl dL_result_16 hlocks

set_option maxRecDepth 100000 in
set_option maxHeartbeats 4000000 in
theorem lw_result_2 (l : Launch) (dC : Nat → ClassId) (dI : Nat → Nat → Nat) (cI cZ : ClassId) (cJ : ClassId) (htr : l.stackTraces = false) (b0 u0 aK aX aY aN aV aM f0 e0 g0 aRp aNr aI c0 h0 n R : Nat) (an : Int32) (v : Nat) (mk : Int32) (aOut : Nat) (sz : Nat) (hn : n ≤ 24) (hv : v < n) (hR : R = 4) : Met l yL_result wsL_result { frames := 8, cells := 1, slots := 6, locals := 190 } (fun a U => (va_Pc [.ref b0, .int (nI (v)), .int (mk), .ref aOut] (dw_pre (dC, dI) vwCl [(b0, .inr (0, [.ref u0, .ref f0, .ref e0, .ref g0, .ref aRp, .ref aNr, .ref aI, .ref c0, .ref h0, .int (an)])), (u0, .inr (1, [.ref aK, .ref aX, .ref aY, .ref aN, .ref aV, .ref aM, .int (nI (n)), .int (nI (R))]))] [(cI, .int), (cZ, .boolean), (cJ, .long)] sz)) a U ∧ dx_N U ∧ dx_L U) (va_Qi (fun (r : Int32) (u : Unit) => r = 2) (fun u t => dw_post (dC, dI) vwCl [(b0, .inr (0, [.ref u0, .ref f0, .ref e0, .ref g0, .ref aRp, .ref aNr, .ref aI, .ref c0, .ref h0, .int (an)])), (u0, .inr (1, [.ref aK, .ref aX, .ref aY, .ref aN, .ref aV, .ref aM, .int (nI (n)), .int (nI (R))]))] [(cI, .int), (cZ, .boolean), (cJ, .long)] (va_A [(b0, .inr (0, [.ref u0, .ref f0, .ref e0, .ref g0, .ref aRp, .ref aNr, .ref aI, .ref c0, .ref h0, .int (an)])), (u0, .inr (1, [.ref aK, .ref aX, .ref aY, .ref aN, .ref aV, .ref aM, .int (nI (n)), .int (nI (R))]))] sz) t) (va_A [(b0, .inr (0, [.ref u0, .ref f0, .ref e0, .ref g0, .ref aRp, .ref aNr, .ref aI, .ref c0, .ref h0, .int (an)])), (u0, .inr (1, [.ref aK, .ref aX, .ref aY, .ref aN, .ref aV, .ref aM, .int (nI (n)), .int (nI (R))]))] sz)) 1 6 (va_A [(b0, .inr (0, [.ref u0, .ref f0, .ref e0, .ref g0, .ref aRp, .ref aNr, .ref aI, .ref c0, .ref h0, .int (an)])), (u0, .inr (1, [.ref aK, .ref aX, .ref aY, .ref aN, .ref aV, .ref aM, .int (nI (n)), .int (nI (R))]))] sz) := by
  refine va_MetW (hh := [(0, 10, 13, 24), (0, 10, 17, 15)]) (cc := cL_result) (maxL := 5) (ret := (some .int)) (by decide) rfl ?_
  intro p e s m args below meth c s₁ B hml hv0
  obtain ⟨hv0, hNx, hLx⟩ := hv0
  have hx := B.exec
  have hb := B.bytes
  have hr := B.returns
  have hts := atoms_spec (ws := wsL_result) B.pre
  have hown : s.vm.findClass RL = some m.cls := findClass_of_methodNamed B.named
  have hlocks := B.notSynchronized
  have htb := dx_table B (hts _ List.mem_cons_self)
  obtain ⟨rfl, hsz, hG⟩ := dw_enter hv0
  generalize va_A [(b0, .inr (0, [.ref u0, .ref f0, .ref e0, .ref g0, .ref aRp, .ref aNr, .ref aI, .ref c0, .ref h0, .int (an)])), (u0, .inr (1, [.ref aK, .ref aX, .ref aY, .ref aN, .ref aV, .ref aM, .int (nI (n)), .int (nI (R))]))] sz = A at hG ⊢
  have hl := lv_entry ([.ref b0, .int (nI (v)), .int (mk), .ref aOut]) (n := 5) (Nat.le_of_ble_eq_true rfl)
  rw [lg_entry_eq]
  generalize (lg_sl ([.ref b0, .int (nI (v)), .int (mk), .ref aOut]) ++ List.replicate (5 - (lg_sl ([.ref b0, .int (nI (v)), .int (mk), .ref aOut])).length) Slot.unset).toArray = ls at hl ⊢
  have hl : lv_has ls 5 [(0, .ref b0), (1, .int (nI (v))), (2, .int (mk)), (3, .ref aOut)] := hl
  refine dw_Q (fun Q hQ => ?_)
  suffices hgo : ∀ (H : Heap), H = s.heap → dw_G (dC, dI) vwCl [(cI, .int), (cZ, .boolean), (cJ, .long)] A s.heap s [(b0, .inr (0, [.ref u0, .ref f0, .ref e0, .ref g0, .ref aRp, .ref aNr, .ref aI, .ref c0, .ref h0, .int (an)])), (u0, .inr (1, [.ref aK, .ref aX, .ref aY, .ref aN, .ref aV, .ref aM, .int (nI (n)), .int (nI (R))]))] H [] → W p l e (headSpec wsL_result { frames := 8, cells := 1, slots := 6, locals := 190 }).room s m [.ref b0, .int (nI (v)), .int (mk), .ref aOut].toArray below meth c H [] 0 0 Q (F0 m 0 ls []) from hgo _ rfl hG
  clear hG
  intro H hH hG
  refine lv_aload_n hx hb dL_result_0 rfl (lv_at hl 3 rfl) ?_
  refine lv_iconst (v := 0) hx hb dL_result_1 (by decide) ?_
  refine lv_aload_n hx hb dL_result_2 rfl (lv_at hl 0 rfl) ?_
  refine lv_iload_n hx hb dL_result_3 rfl (lv_at hl 1 rfl) ?_
  refine lv_iload_n hx hb dL_result_4 rfl (lv_at hl 2 rfl) ?_
  refine dx_catch (As := [.int (nI (v)), .int (mk)]) (rest := [.int (0), .ref aOut]) ⟨hx, hb, hml, hown, hts⟩ (cx_result_2 l dC dI cI cZ htr b0 u0 aK aX aY aN aV aM f0 e0 g0 aRp aNr aI c0 h0 n R an v mk H.size hn hv hR) (dc_V 2 hts tw_424 tw_425 tw_426 tw_1 tw_427 rfl rfl (by decide +kernel) ⟨Nat.le_of_ble_eq_true rfl, Nat.le_of_ble_eq_true rfl⟩) (dw_preV (ci := 0) (wc := [(b0, .inr (0, [.ref u0, .ref f0, .ref e0, .ref g0, .ref aRp, .ref aNr, .ref aI, .ref c0, .ref h0, .int (an)])), (u0, .inr (1, [.ref aK, .ref aX, .ref aY, .ref aN, .ref aV, .ref aM, .int (nI (n)), .int (nI (R))]))]) hG [0, 1] [0, 1] rfl rfl (by decide) rfl rfl (q0 := 0) rfl) hG (fun T _ X => hNx.here X) rfl hl.1 rfl (Nat.le_of_ble_eq_true rfl) dL_result_5 ⟨Nat.le_of_ble_eq_true rfl, Nat.le_of_ble_eq_true rfl⟩ [dx_ent (0, 10, 13, 24)] (dx_ent (0, 10, 17, 15)) [] htb (List.forall_mem_cons.mpr ⟨⟨xIO, by decide, dx_li hLx 2 rfl, dx_li hLx 11 rfl⟩, (fun _ h => nomatch h)⟩) (by decide) (by decide) (dx_li hLx 1 rfl) (dx_li hLx 4 rfl) (fun qx H hG => ?_)
  refine W.eq (g2 := F0 m 17 ls [.ref qx]) rfl ?_
  refine lv_astore (lv' := [(4, .ref qx), (0, .ref b0), (1, .int (nI (v))), (2, .int (mk)), (3, .ref aOut)]) hx hb dL_result_17 hl (by decide) rfl (fun ls hl => ?_)
  refine lv_iconst (v := 2) hx hb dL_result_19 (by decide) ?_
  subst hQ
  exact dw_iret hx hb hr hG (()) rfl rfl dL_result_20 hlocks

set_option maxRecDepth 100000 in
set_option maxHeartbeats 4000000 in
theorem lw_bits_1 (l : Launch) (dC : Nat → ClassId) (dI : Nat → Nat → Nat) (cI cZ : ClassId) (cJ : ClassId) (htr : l.stackTraces = false) (b0 u0 aK aX aY aN aV aM f0 e0 g0 aRp aNr aI c0 h0 n R : Nat) (an : Int32) (v wh : Int32) (aOut : Nat) (sz : Nat) (hinv : v < 0 ∨ nI n ≤ v) : Met l yL_bits wsL_bits { frames := 8, cells := 1, slots := 6, locals := 190 } (fun a U => (va_Pc [.ref b0, .int (v), .int (wh), .ref aOut] (dw_pre (dC, dI) vwCl [(b0, .inr (0, [.ref u0, .ref f0, .ref e0, .ref g0, .ref aRp, .ref aNr, .ref aI, .ref c0, .ref h0, .int (an)])), (u0, .inr (1, [.ref aK, .ref aX, .ref aY, .ref aN, .ref aV, .ref aM, .int (nI (n)), .int (nI (R))]))] [(cI, .int), (cZ, .boolean), (cJ, .long)] sz)) a U ∧ dx_N U ∧ dx_L U) (va_Qi (fun (r : Int32) (u : Unit) => r = 1) (fun u t => dw_post (dC, dI) vwCl [(b0, .inr (0, [.ref u0, .ref f0, .ref e0, .ref g0, .ref aRp, .ref aNr, .ref aI, .ref c0, .ref h0, .int (an)])), (u0, .inr (1, [.ref aK, .ref aX, .ref aY, .ref aN, .ref aV, .ref aM, .int (nI (n)), .int (nI (R))]))] [(cI, .int), (cZ, .boolean), (cJ, .long)] (va_A [(b0, .inr (0, [.ref u0, .ref f0, .ref e0, .ref g0, .ref aRp, .ref aNr, .ref aI, .ref c0, .ref h0, .int (an)])), (u0, .inr (1, [.ref aK, .ref aX, .ref aY, .ref aN, .ref aV, .ref aM, .int (nI (n)), .int (nI (R))]))] sz) t) (va_A [(b0, .inr (0, [.ref u0, .ref f0, .ref e0, .ref g0, .ref aRp, .ref aNr, .ref aI, .ref c0, .ref h0, .int (an)])), (u0, .inr (1, [.ref aK, .ref aX, .ref aY, .ref aN, .ref aV, .ref aM, .int (nI (n)), .int (nI (R))]))] sz)) 1 6 (va_A [(b0, .inr (0, [.ref u0, .ref f0, .ref e0, .ref g0, .ref aRp, .ref aNr, .ref aI, .ref c0, .ref h0, .int (an)])), (u0, .inr (1, [.ref aK, .ref aX, .ref aY, .ref aN, .ref aV, .ref aM, .int (nI (n)), .int (nI (R))]))] sz) := by
  refine va_MetW (hh := [(0, 10, 13, 24), (0, 10, 17, 13)]) (cc := cL_bits) (maxL := 5) (ret := (some .int)) (by decide) rfl ?_
  intro p e s m args below meth c s₁ B hml hv0
  obtain ⟨hv0, hNx, hLx⟩ := hv0
  have hx := B.exec
  have hb := B.bytes
  have hr := B.returns
  have hts := atoms_spec (ws := wsL_bits) B.pre
  have hown : s.vm.findClass RL = some m.cls := findClass_of_methodNamed B.named
  have hlocks := B.notSynchronized
  have htb := dx_table B (hts _ List.mem_cons_self)
  obtain ⟨rfl, hsz, hG⟩ := dw_enter hv0
  generalize va_A [(b0, .inr (0, [.ref u0, .ref f0, .ref e0, .ref g0, .ref aRp, .ref aNr, .ref aI, .ref c0, .ref h0, .int (an)])), (u0, .inr (1, [.ref aK, .ref aX, .ref aY, .ref aN, .ref aV, .ref aM, .int (nI (n)), .int (nI (R))]))] sz = A at hG ⊢
  have hl := lv_entry ([.ref b0, .int (v), .int (wh), .ref aOut]) (n := 5) (Nat.le_of_ble_eq_true rfl)
  rw [lg_entry_eq]
  generalize (lg_sl ([.ref b0, .int (v), .int (wh), .ref aOut]) ++ List.replicate (5 - (lg_sl ([.ref b0, .int (v), .int (wh), .ref aOut])).length) Slot.unset).toArray = ls at hl ⊢
  have hl : lv_has ls 5 [(0, .ref b0), (1, .int (v)), (2, .int (wh)), (3, .ref aOut)] := hl
  refine dw_Q (fun Q hQ => ?_)
  suffices hgo : ∀ (H : Heap), H = s.heap → dw_G (dC, dI) vwCl [(cI, .int), (cZ, .boolean), (cJ, .long)] A s.heap s [(b0, .inr (0, [.ref u0, .ref f0, .ref e0, .ref g0, .ref aRp, .ref aNr, .ref aI, .ref c0, .ref h0, .int (an)])), (u0, .inr (1, [.ref aK, .ref aX, .ref aY, .ref aN, .ref aV, .ref aM, .int (nI (n)), .int (nI (R))]))] H [] → W p l e (headSpec wsL_bits { frames := 8, cells := 1, slots := 6, locals := 190 }).room s m [.ref b0, .int (v), .int (wh), .ref aOut].toArray below meth c H [] 0 0 Q (F0 m 0 ls []) from hgo _ rfl hG
  clear hG
  intro H hH hG
  refine lv_aload_n hx hb dL_bits_0 rfl (lv_at hl 3 rfl) ?_
  refine lv_iconst (v := 0) hx hb dL_bits_1 (by decide) ?_
  refine lv_aload_n hx hb dL_bits_2 rfl (lv_at hl 0 rfl) ?_
  refine lv_iload_n hx hb dL_bits_3 rfl (lv_at hl 1 rfl) ?_
  refine lv_iload_n hx hb dL_bits_4 rfl (lv_at hl 2 rfl) ?_
  refine dx_catch (As := [.int (v), .int (wh)]) (rest := [.int (0), .ref aOut]) ⟨hx, hb, hml, hown, hts⟩ (cx_bits_1 l dC dI cI cZ htr b0 u0 aK aX aY aN aV aM f0 e0 g0 aRp aNr aI c0 h0 n R an v wh H.size hinv) (dc_V 2 hts tw_436 tw_437 tw_438 tw_1 tw_439 rfl rfl (by decide +kernel) ⟨Nat.le_of_ble_eq_true rfl, Nat.le_of_ble_eq_true rfl⟩) (dw_preV (ci := 0) (wc := [(b0, .inr (0, [.ref u0, .ref f0, .ref e0, .ref g0, .ref aRp, .ref aNr, .ref aI, .ref c0, .ref h0, .int (an)])), (u0, .inr (1, [.ref aK, .ref aX, .ref aY, .ref aN, .ref aV, .ref aM, .int (nI (n)), .int (nI (R))]))]) hG [0, 1] [0, 1] rfl rfl (by decide) rfl rfl (q0 := 0) rfl) hG (fun T _ X => hNx.here X) rfl hl.1 rfl (Nat.le_of_ble_eq_true rfl) dL_bits_5 ⟨Nat.le_of_ble_eq_true rfl, Nat.le_of_ble_eq_true rfl⟩ [] (dx_ent (0, 10, 13, 24)) [dx_ent (0, 10, 17, 13)] htb (fun _ h => nomatch h) (by decide) (by decide) (dx_li hLx 2 rfl) (dx_li hLx 5 rfl) (fun qx H hG => ?_)
  refine W.eq (g2 := F0 m 13 ls [.ref qx]) rfl ?_
  refine lv_astore (lv' := [(4, .ref qx), (0, .ref b0), (1, .int (v)), (2, .int (wh)), (3, .ref aOut)]) hx hb dL_bits_13 hl (by decide) rfl (fun ls hl => ?_)
  refine lv_iconst (v := 1) hx hb dL_bits_15 (by decide) ?_
  subst hQ
  exact dw_iret hx hb hr hG (()) rfl rfl dL_bits_16 hlocks

set_option maxRecDepth 100000 in
set_option maxHeartbeats 4000000 in
theorem lw_bits_2 (l : Launch) (dC : Nat → ClassId) (dI : Nat → Nat → Nat) (cI cZ : ClassId) (cJ : ClassId) (htr : l.stackTraces = false) (b0 u0 aK aX aY aN aV aM f0 e0 g0 aRp aNr aI c0 h0 n R : Nat) (an : Int32) (v : Nat) (wh : Int32) (aOut : Nat) (sz : Nat) (hn : n ≤ 24) (hv : v < n) (hbad : wh < 0 ∨ 4 < wh) : Met l yL_bits wsL_bits { frames := 8, cells := 1, slots := 6, locals := 190 } (fun a U => (va_Pc [.ref b0, .int (nI (v)), .int (wh), .ref aOut] (dw_pre (dC, dI) vwCl [(b0, .inr (0, [.ref u0, .ref f0, .ref e0, .ref g0, .ref aRp, .ref aNr, .ref aI, .ref c0, .ref h0, .int (an)])), (u0, .inr (1, [.ref aK, .ref aX, .ref aY, .ref aN, .ref aV, .ref aM, .int (nI (n)), .int (nI (R))]))] [(cI, .int), (cZ, .boolean), (cJ, .long)] sz)) a U ∧ dx_N U ∧ dx_L U) (va_Qi (fun (r : Int32) (u : Unit) => r = 2) (fun u t => dw_post (dC, dI) vwCl [(b0, .inr (0, [.ref u0, .ref f0, .ref e0, .ref g0, .ref aRp, .ref aNr, .ref aI, .ref c0, .ref h0, .int (an)])), (u0, .inr (1, [.ref aK, .ref aX, .ref aY, .ref aN, .ref aV, .ref aM, .int (nI (n)), .int (nI (R))]))] [(cI, .int), (cZ, .boolean), (cJ, .long)] (va_A [(b0, .inr (0, [.ref u0, .ref f0, .ref e0, .ref g0, .ref aRp, .ref aNr, .ref aI, .ref c0, .ref h0, .int (an)])), (u0, .inr (1, [.ref aK, .ref aX, .ref aY, .ref aN, .ref aV, .ref aM, .int (nI (n)), .int (nI (R))]))] sz) t) (va_A [(b0, .inr (0, [.ref u0, .ref f0, .ref e0, .ref g0, .ref aRp, .ref aNr, .ref aI, .ref c0, .ref h0, .int (an)])), (u0, .inr (1, [.ref aK, .ref aX, .ref aY, .ref aN, .ref aV, .ref aM, .int (nI (n)), .int (nI (R))]))] sz)) 1 6 (va_A [(b0, .inr (0, [.ref u0, .ref f0, .ref e0, .ref g0, .ref aRp, .ref aNr, .ref aI, .ref c0, .ref h0, .int (an)])), (u0, .inr (1, [.ref aK, .ref aX, .ref aY, .ref aN, .ref aV, .ref aM, .int (nI (n)), .int (nI (R))]))] sz) := by
  refine va_MetW (hh := [(0, 10, 13, 24), (0, 10, 17, 13)]) (cc := cL_bits) (maxL := 5) (ret := (some .int)) (by decide) rfl ?_
  intro p e s m args below meth c s₁ B hml hv0
  obtain ⟨hv0, hNx, hLx⟩ := hv0
  have hx := B.exec
  have hb := B.bytes
  have hr := B.returns
  have hts := atoms_spec (ws := wsL_bits) B.pre
  have hown : s.vm.findClass RL = some m.cls := findClass_of_methodNamed B.named
  have hlocks := B.notSynchronized
  have htb := dx_table B (hts _ List.mem_cons_self)
  obtain ⟨rfl, hsz, hG⟩ := dw_enter hv0
  generalize va_A [(b0, .inr (0, [.ref u0, .ref f0, .ref e0, .ref g0, .ref aRp, .ref aNr, .ref aI, .ref c0, .ref h0, .int (an)])), (u0, .inr (1, [.ref aK, .ref aX, .ref aY, .ref aN, .ref aV, .ref aM, .int (nI (n)), .int (nI (R))]))] sz = A at hG ⊢
  have hl := lv_entry ([.ref b0, .int (nI (v)), .int (wh), .ref aOut]) (n := 5) (Nat.le_of_ble_eq_true rfl)
  rw [lg_entry_eq]
  generalize (lg_sl ([.ref b0, .int (nI (v)), .int (wh), .ref aOut]) ++ List.replicate (5 - (lg_sl ([.ref b0, .int (nI (v)), .int (wh), .ref aOut])).length) Slot.unset).toArray = ls at hl ⊢
  have hl : lv_has ls 5 [(0, .ref b0), (1, .int (nI (v))), (2, .int (wh)), (3, .ref aOut)] := hl
  refine dw_Q (fun Q hQ => ?_)
  suffices hgo : ∀ (H : Heap), H = s.heap → dw_G (dC, dI) vwCl [(cI, .int), (cZ, .boolean), (cJ, .long)] A s.heap s [(b0, .inr (0, [.ref u0, .ref f0, .ref e0, .ref g0, .ref aRp, .ref aNr, .ref aI, .ref c0, .ref h0, .int (an)])), (u0, .inr (1, [.ref aK, .ref aX, .ref aY, .ref aN, .ref aV, .ref aM, .int (nI (n)), .int (nI (R))]))] H [] → W p l e (headSpec wsL_bits { frames := 8, cells := 1, slots := 6, locals := 190 }).room s m [.ref b0, .int (nI (v)), .int (wh), .ref aOut].toArray below meth c H [] 0 0 Q (F0 m 0 ls []) from hgo _ rfl hG
  clear hG
  intro H hH hG
  refine lv_aload_n hx hb dL_bits_0 rfl (lv_at hl 3 rfl) ?_
  refine lv_iconst (v := 0) hx hb dL_bits_1 (by decide) ?_
  refine lv_aload_n hx hb dL_bits_2 rfl (lv_at hl 0 rfl) ?_
  refine lv_iload_n hx hb dL_bits_3 rfl (lv_at hl 1 rfl) ?_
  refine lv_iload_n hx hb dL_bits_4 rfl (lv_at hl 2 rfl) ?_
  refine dx_catch (As := [.int (nI (v)), .int (wh)]) (rest := [.int (0), .ref aOut]) ⟨hx, hb, hml, hown, hts⟩ (cx_bits_2 l dC dI cI cZ htr b0 u0 aK aX aY aN aV aM f0 e0 g0 aRp aNr aI c0 h0 n R an v wh H.size hn hv hbad) (dc_V 2 hts tw_436 tw_437 tw_438 tw_1 tw_439 rfl rfl (by decide +kernel) ⟨Nat.le_of_ble_eq_true rfl, Nat.le_of_ble_eq_true rfl⟩) (dw_preV (ci := 0) (wc := [(b0, .inr (0, [.ref u0, .ref f0, .ref e0, .ref g0, .ref aRp, .ref aNr, .ref aI, .ref c0, .ref h0, .int (an)])), (u0, .inr (1, [.ref aK, .ref aX, .ref aY, .ref aN, .ref aV, .ref aM, .int (nI (n)), .int (nI (R))]))]) hG [0, 1] [0, 1] rfl rfl (by decide) rfl rfl (q0 := 0) rfl) hG (fun T _ X => hNx.here X) rfl hl.1 rfl (Nat.le_of_ble_eq_true rfl) dL_bits_5 ⟨Nat.le_of_ble_eq_true rfl, Nat.le_of_ble_eq_true rfl⟩ [dx_ent (0, 10, 13, 24)] (dx_ent (0, 10, 17, 13)) [] htb (List.forall_mem_cons.mpr ⟨⟨xIO, by decide, dx_li hLx 2 rfl, dx_li hLx 10 rfl⟩, (fun _ h => nomatch h)⟩) (by decide) (by decide) (dx_li hLx 0 rfl) (dx_li hLx 3 rfl) (fun qx H hG => ?_)
  refine W.eq (g2 := F0 m 17 ls [.ref qx]) rfl ?_
  refine lv_astore (lv' := [(4, .ref qx), (0, .ref b0), (1, .int (nI (v))), (2, .int (wh)), (3, .ref aOut)]) hx hb dL_bits_17 hl (by decide) rfl (fun ls hl => ?_)
  refine lv_iconst (v := 2) hx hb dL_bits_19 (by decide) ?_
  subst hQ
  exact dw_iret hx hb hr hG (()) rfl rfl dL_bits_20 hlocks

set_option maxRecDepth 100000 in
set_option maxHeartbeats 4000000 in
theorem lw_replaced_1 (l : Launch) (dC : Nat → ClassId) (dI : Nat → Nat → Nat) (cI cZ : ClassId) (cJ : ClassId) (htr : l.stackTraces = false) (b0 u0 aK aX aY aN aV aM f0 e0 g0 aRp aNr aI c0 h0 n R : Nat) (an : Int32) (v : Int32) (aOut : Nat) (sz : Nat) (hinv : v < 0 ∨ nI n ≤ v) : Met l yL_replaced wsL_replaced { frames := 8, cells := 1, slots := 6, locals := 190 } (fun a U => (va_Pc [.ref b0, .int (v), .ref aOut] (dw_pre (dC, dI) vwCl [(b0, .inr (0, [.ref u0, .ref f0, .ref e0, .ref g0, .ref aRp, .ref aNr, .ref aI, .ref c0, .ref h0, .int (an)])), (u0, .inr (1, [.ref aK, .ref aX, .ref aY, .ref aN, .ref aV, .ref aM, .int (nI (n)), .int (nI (R))]))] [(cI, .int), (cZ, .boolean), (cJ, .long)] sz)) a U ∧ dx_N U ∧ dx_L U) (va_Qi (fun (r : Int32) (u : Unit) => r = 1) (fun u t => dw_post (dC, dI) vwCl [(b0, .inr (0, [.ref u0, .ref f0, .ref e0, .ref g0, .ref aRp, .ref aNr, .ref aI, .ref c0, .ref h0, .int (an)])), (u0, .inr (1, [.ref aK, .ref aX, .ref aY, .ref aN, .ref aV, .ref aM, .int (nI (n)), .int (nI (R))]))] [(cI, .int), (cZ, .boolean), (cJ, .long)] (va_A [(b0, .inr (0, [.ref u0, .ref f0, .ref e0, .ref g0, .ref aRp, .ref aNr, .ref aI, .ref c0, .ref h0, .int (an)])), (u0, .inr (1, [.ref aK, .ref aX, .ref aY, .ref aN, .ref aV, .ref aM, .int (nI (n)), .int (nI (R))]))] sz) t) (va_A [(b0, .inr (0, [.ref u0, .ref f0, .ref e0, .ref g0, .ref aRp, .ref aNr, .ref aI, .ref c0, .ref h0, .int (an)])), (u0, .inr (1, [.ref aK, .ref aX, .ref aY, .ref aN, .ref aV, .ref aM, .int (nI (n)), .int (nI (R))]))] sz)) 1 6 (va_A [(b0, .inr (0, [.ref u0, .ref f0, .ref e0, .ref g0, .ref aRp, .ref aNr, .ref aI, .ref c0, .ref h0, .int (an)])), (u0, .inr (1, [.ref aK, .ref aX, .ref aY, .ref aN, .ref aV, .ref aM, .int (nI (n)), .int (nI (R))]))] sz) := by
  refine va_MetW (hh := [(0, 9, 12, 24)]) (cc := cL_replaced) (maxL := 4) (ret := (some .int)) (by decide) rfl ?_
  intro p e s m args below meth c s₁ B hml hv0
  obtain ⟨hv0, hNx, hLx⟩ := hv0
  have hx := B.exec
  have hb := B.bytes
  have hr := B.returns
  have hts := atoms_spec (ws := wsL_replaced) B.pre
  have hown : s.vm.findClass RL = some m.cls := findClass_of_methodNamed B.named
  have hlocks := B.notSynchronized
  have htb := dx_table B (hts _ List.mem_cons_self)
  obtain ⟨rfl, hsz, hG⟩ := dw_enter hv0
  generalize va_A [(b0, .inr (0, [.ref u0, .ref f0, .ref e0, .ref g0, .ref aRp, .ref aNr, .ref aI, .ref c0, .ref h0, .int (an)])), (u0, .inr (1, [.ref aK, .ref aX, .ref aY, .ref aN, .ref aV, .ref aM, .int (nI (n)), .int (nI (R))]))] sz = A at hG ⊢
  have hl := lv_entry ([.ref b0, .int (v), .ref aOut]) (n := 4) (Nat.le_of_ble_eq_true rfl)
  rw [lg_entry_eq]
  generalize (lg_sl ([.ref b0, .int (v), .ref aOut]) ++ List.replicate (4 - (lg_sl ([.ref b0, .int (v), .ref aOut])).length) Slot.unset).toArray = ls at hl ⊢
  have hl : lv_has ls 4 [(0, .ref b0), (1, .int (v)), (2, .ref aOut)] := hl
  refine dw_Q (fun Q hQ => ?_)
  suffices hgo : ∀ (H : Heap), H = s.heap → dw_G (dC, dI) vwCl [(cI, .int), (cZ, .boolean), (cJ, .long)] A s.heap s [(b0, .inr (0, [.ref u0, .ref f0, .ref e0, .ref g0, .ref aRp, .ref aNr, .ref aI, .ref c0, .ref h0, .int (an)])), (u0, .inr (1, [.ref aK, .ref aX, .ref aY, .ref aN, .ref aV, .ref aM, .int (nI (n)), .int (nI (R))]))] H [] → W p l e (headSpec wsL_replaced { frames := 8, cells := 1, slots := 6, locals := 190 }).room s m [.ref b0, .int (v), .ref aOut].toArray below meth c H [] 0 0 Q (F0 m 0 ls []) from hgo _ rfl hG
  clear hG
  intro H hH hG
  refine lv_aload_n hx hb dL_replaced_0 rfl (lv_at hl 2 rfl) ?_
  refine lv_iconst (v := 0) hx hb dL_replaced_1 (by decide) ?_
  refine lv_aload_n hx hb dL_replaced_2 rfl (lv_at hl 0 rfl) ?_
  refine lv_iload_n hx hb dL_replaced_3 rfl (lv_at hl 1 rfl) ?_
  refine dx_catch (As := [.int (v)]) (rest := [.int (0), .ref aOut]) ⟨hx, hb, hml, hown, hts⟩ (cx_replaced_1 l dC dI cI cZ htr b0 u0 aK aX aY aN aV aM f0 e0 g0 aRp aNr aI c0 h0 n R an v H.size hinv) (dc_V 1 hts tw_447 tw_448 tw_449 tw_1 tw_450 rfl rfl (by decide +kernel) ⟨Nat.le_of_ble_eq_true rfl, Nat.le_of_ble_eq_true rfl⟩) (dw_preV (ci := 0) (wc := [(b0, .inr (0, [.ref u0, .ref f0, .ref e0, .ref g0, .ref aRp, .ref aNr, .ref aI, .ref c0, .ref h0, .int (an)])), (u0, .inr (1, [.ref aK, .ref aX, .ref aY, .ref aN, .ref aV, .ref aM, .int (nI (n)), .int (nI (R))]))]) hG [0, 1] [0, 1] rfl rfl (by decide) rfl rfl (q0 := 0) rfl) hG (fun T _ X => hNx.here X) rfl hl.1 rfl (Nat.le_of_ble_eq_true rfl) dL_replaced_4 ⟨Nat.le_of_ble_eq_true rfl, Nat.le_of_ble_eq_true rfl⟩ [] (dx_ent (0, 9, 12, 24)) [] htb (fun _ h => nomatch h) (by decide) (by decide) (dx_li hLx 2 rfl) (dx_li hLx 5 rfl) (fun qx H hG => ?_)
  refine W.eq (g2 := F0 m 12 ls [.ref qx]) rfl ?_
  refine lv_astore_n (lv' := [(3, .ref qx), (0, .ref b0), (1, .int (v)), (2, .ref aOut)]) hx hb dL_replaced_12 rfl hl (by decide) rfl (fun ls hl => ?_)
  refine lv_iconst (v := 1) hx hb dL_replaced_13 (by decide) ?_
  subst hQ
  exact dw_iret hx hb hr hG (()) rfl rfl dL_replaced_14 hlocks

set_option maxRecDepth 100000 in
set_option maxHeartbeats 4000000 in
theorem lw_run_1 (l : Launch) (dC : Nat → ClassId) (dI : Nat → Nat → Nat) (cI cZ : ClassId) (cJ : ClassId) (htr : l.stackTraces = false) (b0 u0 aK aX aY aN aV aM f0 e0 g0 aRp aNr aI c0 h0 n R : Nat) (an : Int32) (kr in0 in1 in2 : Int32) (aOut : Nat) (sz : Nat) (hbad : kr < 1 ∨ 50 < kr) : Met l yL_run wsL_run { frames := 8, cells := 1, slots := 6, locals := 190 } (fun a U => (va_Pc [.ref b0, .int (kr), .int (in0), .int (in1), .int (in2), .ref aOut] (dw_pre (dC, dI) vwCl [(b0, .inr (0, [.ref u0, .ref f0, .ref e0, .ref g0, .ref aRp, .ref aNr, .ref aI, .ref c0, .ref h0, .int (an)])), (u0, .inr (1, [.ref aK, .ref aX, .ref aY, .ref aN, .ref aV, .ref aM, .int (nI (n)), .int (nI (R))]))] [(cI, .int), (cZ, .boolean), (cJ, .long)] sz)) a U ∧ dx_N U ∧ dx_L U) (va_Qi (fun (r : Int32) (u : Unit) => r = 1) (fun u t => dw_post (dC, dI) vwCl [(b0, .inr (0, [.ref u0, .ref f0, .ref e0, .ref g0, .ref aRp, .ref aNr, .ref aI, .ref c0, .ref h0, .int (an)])), (u0, .inr (1, [.ref aK, .ref aX, .ref aY, .ref aN, .ref aV, .ref aM, .int (nI (n)), .int (nI (R))]))] [(cI, .int), (cZ, .boolean), (cJ, .long)] (va_A [(b0, .inr (0, [.ref u0, .ref f0, .ref e0, .ref g0, .ref aRp, .ref aNr, .ref aI, .ref c0, .ref h0, .int (an)])), (u0, .inr (1, [.ref aK, .ref aX, .ref aY, .ref aN, .ref aV, .ref aM, .int (nI (n)), .int (nI (R))]))] sz) t) (va_A [(b0, .inr (0, [.ref u0, .ref f0, .ref e0, .ref g0, .ref aRp, .ref aNr, .ref aI, .ref c0, .ref h0, .int (an)])), (u0, .inr (1, [.ref aK, .ref aX, .ref aY, .ref aN, .ref aV, .ref aM, .int (nI (n)), .int (nI (R))]))] sz)) 1 6 (va_A [(b0, .inr (0, [.ref u0, .ref f0, .ref e0, .ref g0, .ref aRp, .ref aNr, .ref aI, .ref c0, .ref h0, .int (an)])), (u0, .inr (1, [.ref aK, .ref aX, .ref aY, .ref aN, .ref aV, .ref aM, .int (nI (n)), .int (nI (R))]))] sz) := by
  refine va_MetW (hh := [(0, 14, 17, 13)]) (cc := cL_run) (maxL := 7) (ret := (some .int)) (by decide) rfl ?_
  intro p e s m args below meth c s₁ B hml hv0
  obtain ⟨hv0, hNx, hLx⟩ := hv0
  have hx := B.exec
  have hb := B.bytes
  have hr := B.returns
  have hts := atoms_spec (ws := wsL_run) B.pre
  have hown : s.vm.findClass RL = some m.cls := findClass_of_methodNamed B.named
  have hlocks := B.notSynchronized
  have htb := dx_table B (hts _ List.mem_cons_self)
  obtain ⟨rfl, hsz, hG⟩ := dw_enter hv0
  generalize va_A [(b0, .inr (0, [.ref u0, .ref f0, .ref e0, .ref g0, .ref aRp, .ref aNr, .ref aI, .ref c0, .ref h0, .int (an)])), (u0, .inr (1, [.ref aK, .ref aX, .ref aY, .ref aN, .ref aV, .ref aM, .int (nI (n)), .int (nI (R))]))] sz = A at hG ⊢
  have hl := lv_entry ([.ref b0, .int (kr), .int (in0), .int (in1), .int (in2), .ref aOut]) (n := 7) (Nat.le_of_ble_eq_true rfl)
  rw [lg_entry_eq]
  generalize (lg_sl ([.ref b0, .int (kr), .int (in0), .int (in1), .int (in2), .ref aOut]) ++ List.replicate (7 - (lg_sl ([.ref b0, .int (kr), .int (in0), .int (in1), .int (in2), .ref aOut])).length) Slot.unset).toArray = ls at hl ⊢
  have hl : lv_has ls 7 [(0, .ref b0), (1, .int (kr)), (2, .int (in0)), (3, .int (in1)), (4, .int (in2)), (5, .ref aOut)] := hl
  refine dw_Q (fun Q hQ => ?_)
  suffices hgo : ∀ (H : Heap), H = s.heap → dw_G (dC, dI) vwCl [(cI, .int), (cZ, .boolean), (cJ, .long)] A s.heap s [(b0, .inr (0, [.ref u0, .ref f0, .ref e0, .ref g0, .ref aRp, .ref aNr, .ref aI, .ref c0, .ref h0, .int (an)])), (u0, .inr (1, [.ref aK, .ref aX, .ref aY, .ref aN, .ref aV, .ref aM, .int (nI (n)), .int (nI (R))]))] H [] → W p l e (headSpec wsL_run { frames := 8, cells := 1, slots := 6, locals := 190 }).room s m [.ref b0, .int (kr), .int (in0), .int (in1), .int (in2), .ref aOut].toArray below meth c H [] 0 0 Q (F0 m 0 ls []) from hgo _ rfl hG
  clear hG
  intro H hH hG
  refine lv_aload hx hb dL_run_0 (lv_at hl 5 rfl) ?_
  refine lv_iconst (v := 0) hx hb dL_run_2 (by decide) ?_
  refine lv_aload_n hx hb dL_run_3 rfl (lv_at hl 0 rfl) ?_
  refine lv_iload_n hx hb dL_run_4 rfl (lv_at hl 1 rfl) ?_
  refine lv_iload_n hx hb dL_run_5 rfl (lv_at hl 2 rfl) ?_
  refine lv_iload_n hx hb dL_run_6 rfl (lv_at hl 3 rfl) ?_
  refine lv_iload hx hb dL_run_7 (lv_at hl 4 rfl) ?_
  refine dx_catch (As := [.int (kr), .int (in0), .int (in1), .int (in2)]) (rest := [.int (0), .ref aOut]) ⟨hx, hb, hml, hown, hts⟩ (cx_run_1 l dC dI cI cZ htr b0 u0 aK aX aY aN aV aM f0 e0 g0 aRp aNr aI c0 h0 n R an kr in0 in1 in2 H.size hbad) (dc_V 4 hts tw_454 tw_455 tw_456 tw_1 tw_457 rfl rfl (by decide +kernel) ⟨Nat.le_of_ble_eq_true rfl, Nat.le_of_ble_eq_true rfl⟩) (dw_preV (ci := 0) (wc := [(b0, .inr (0, [.ref u0, .ref f0, .ref e0, .ref g0, .ref aRp, .ref aNr, .ref aI, .ref c0, .ref h0, .int (an)])), (u0, .inr (1, [.ref aK, .ref aX, .ref aY, .ref aN, .ref aV, .ref aM, .int (nI (n)), .int (nI (R))]))]) hG [0, 1] [0, 1] rfl rfl (by decide) rfl rfl (q0 := 0) rfl) hG (fun T _ X => hNx.here X) rfl hl.1 rfl (Nat.le_of_ble_eq_true rfl) dL_run_9 ⟨Nat.le_of_ble_eq_true rfl, Nat.le_of_ble_eq_true rfl⟩ [] (dx_ent (0, 14, 17, 13)) [] htb (fun _ h => nomatch h) (by decide) (by decide) (dx_li hLx 0 rfl) (dx_li hLx 3 rfl) (fun qx H hG => ?_)
  refine W.eq (g2 := F0 m 17 ls [.ref qx]) rfl ?_
  refine lv_astore (lv' := [(6, .ref qx), (0, .ref b0), (1, .int (kr)), (2, .int (in0)), (3, .int (in1)), (4, .int (in2)), (5, .ref aOut)]) hx hb dL_run_17 hl (by decide) rfl (fun ls hl => ?_)
  refine lv_iconst (v := 1) hx hb dL_run_19 (by decide) ?_
  subst hQ
  exact dw_iret hx hb hr hG (()) rfl rfl dL_run_20 hlocks

set_option maxRecDepth 100000 in
set_option maxHeartbeats 4000000 in
theorem lw_observed0_1 (l : Launch) (dC : Nat → ClassId) (dI : Nat → Nat → Nat) (cI cZ : ClassId) (cJ : ClassId) (htr : l.stackTraces = false) (b0 u0 aK aX aY aN aV aM f0 e0 g0 aRp aNr aI c0 h0 n R : Nat) (an : Int32) (q9 : Int32) (aOut : Nat) (sz : Nat) (hbad : q9 < 0 ∨ nI R ≤ q9) : Met l yL_observed wsL_observed { frames := 8, cells := 1, slots := 6, locals := 190 } (fun a U => (va_Pc [.ref b0, .int (q9), .int (0), .ref aOut] (dw_pre (dC, dI) vwCl [(b0, .inr (0, [.ref u0, .ref f0, .ref e0, .ref g0, .ref aRp, .ref aNr, .ref aI, .ref c0, .ref h0, .int (an)])), (u0, .inr (1, [.ref aK, .ref aX, .ref aY, .ref aN, .ref aV, .ref aM, .int (nI (n)), .int (nI (R))]))] [(cI, .int), (cZ, .boolean), (cJ, .long)] sz)) a U ∧ dx_N U ∧ dx_L U) (va_Qi (fun (r : Int32) (u : Unit) => r = 1) (fun u t => dw_post (dC, dI) vwCl [(b0, .inr (0, [.ref u0, .ref f0, .ref e0, .ref g0, .ref aRp, .ref aNr, .ref aI, .ref c0, .ref h0, .int (an)])), (u0, .inr (1, [.ref aK, .ref aX, .ref aY, .ref aN, .ref aV, .ref aM, .int (nI (n)), .int (nI (R))]))] [(cI, .int), (cZ, .boolean), (cJ, .long)] (va_A [(b0, .inr (0, [.ref u0, .ref f0, .ref e0, .ref g0, .ref aRp, .ref aNr, .ref aI, .ref c0, .ref h0, .int (an)])), (u0, .inr (1, [.ref aK, .ref aX, .ref aY, .ref aN, .ref aV, .ref aM, .int (nI (n)), .int (nI (R))]))] sz) t) (va_A [(b0, .inr (0, [.ref u0, .ref f0, .ref e0, .ref g0, .ref aRp, .ref aNr, .ref aI, .ref c0, .ref h0, .int (an)])), (u0, .inr (1, [.ref aK, .ref aX, .ref aY, .ref aN, .ref aV, .ref aM, .int (nI (n)), .int (nI (R))]))] sz)) 1 6 (va_A [(b0, .inr (0, [.ref u0, .ref f0, .ref e0, .ref g0, .ref aRp, .ref aNr, .ref aI, .ref c0, .ref h0, .int (an)])), (u0, .inr (1, [.ref aK, .ref aX, .ref aY, .ref aN, .ref aV, .ref aM, .int (nI (n)), .int (nI (R))]))] sz) := by
  refine va_MetW (hh := [(0, 10, 13, 24)]) (cc := cL_observed) (maxL := 5) (ret := (some .int)) (by decide) rfl ?_
  intro p e s m args below meth c s₁ B hml hv0
  obtain ⟨hv0, hNx, hLx⟩ := hv0
  have hx := B.exec
  have hb := B.bytes
  have hr := B.returns
  have hts := atoms_spec (ws := wsL_observed) B.pre
  have hown : s.vm.findClass RL = some m.cls := findClass_of_methodNamed B.named
  have hlocks := B.notSynchronized
  have htb := dx_table B (hts _ List.mem_cons_self)
  obtain ⟨rfl, hsz, hG⟩ := dw_enter hv0
  generalize va_A [(b0, .inr (0, [.ref u0, .ref f0, .ref e0, .ref g0, .ref aRp, .ref aNr, .ref aI, .ref c0, .ref h0, .int (an)])), (u0, .inr (1, [.ref aK, .ref aX, .ref aY, .ref aN, .ref aV, .ref aM, .int (nI (n)), .int (nI (R))]))] sz = A at hG ⊢
  have hl := lv_entry ([.ref b0, .int (q9), .int (0), .ref aOut]) (n := 5) (Nat.le_of_ble_eq_true rfl)
  rw [lg_entry_eq]
  generalize (lg_sl ([.ref b0, .int (q9), .int (0), .ref aOut]) ++ List.replicate (5 - (lg_sl ([.ref b0, .int (q9), .int (0), .ref aOut])).length) Slot.unset).toArray = ls at hl ⊢
  have hl : lv_has ls 5 [(0, .ref b0), (1, .int (q9)), (2, .int (0)), (3, .ref aOut)] := hl
  refine dw_Q (fun Q hQ => ?_)
  suffices hgo : ∀ (H : Heap), H = s.heap → dw_G (dC, dI) vwCl [(cI, .int), (cZ, .boolean), (cJ, .long)] A s.heap s [(b0, .inr (0, [.ref u0, .ref f0, .ref e0, .ref g0, .ref aRp, .ref aNr, .ref aI, .ref c0, .ref h0, .int (an)])), (u0, .inr (1, [.ref aK, .ref aX, .ref aY, .ref aN, .ref aV, .ref aM, .int (nI (n)), .int (nI (R))]))] H [] → W p l e (headSpec wsL_observed { frames := 8, cells := 1, slots := 6, locals := 190 }).room s m [.ref b0, .int (q9), .int (0), .ref aOut].toArray below meth c H [] 0 0 Q (F0 m 0 ls []) from hgo _ rfl hG
  clear hG
  intro H hH hG
  refine lv_aload_n hx hb dL_observed_0 rfl (lv_at hl 3 rfl) ?_
  refine lv_iconst (v := 0) hx hb dL_observed_1 (by decide) ?_
  refine lv_aload_n hx hb dL_observed_2 rfl (lv_at hl 0 rfl) ?_
  refine lv_iload_n hx hb dL_observed_3 rfl (lv_at hl 1 rfl) ?_
  refine lv_iload_n hx hb dL_observed_4 rfl (lv_at hl 2 rfl) ?_
  refine dx_catch (As := [.int (q9), .int (0)]) (rest := [.int (0), .ref aOut]) ⟨hx, hb, hml, hown, hts⟩ (cx_observed0_1 l dC dI cI cZ htr b0 u0 aK aX aY aN aV aM f0 e0 g0 aRp aNr aI c0 h0 n R an q9 H.size hbad) (dc_V 2 hts tw_476 tw_477 tw_478 tw_1 tw_479 rfl rfl (by decide +kernel) ⟨Nat.le_of_ble_eq_true rfl, Nat.le_of_ble_eq_true rfl⟩) (dw_preV (ci := 0) (wc := [(b0, .inr (0, [.ref u0, .ref f0, .ref e0, .ref g0, .ref aRp, .ref aNr, .ref aI, .ref c0, .ref h0, .int (an)])), (u0, .inr (1, [.ref aK, .ref aX, .ref aY, .ref aN, .ref aV, .ref aM, .int (nI (n)), .int (nI (R))]))]) hG [0, 1] [0, 1] rfl rfl (by decide) rfl rfl (q0 := 0) rfl) hG (fun T _ X => hNx.here X) rfl hl.1 rfl (Nat.le_of_ble_eq_true rfl) dL_observed_5 ⟨Nat.le_of_ble_eq_true rfl, Nat.le_of_ble_eq_true rfl⟩ [] (dx_ent (0, 10, 13, 24)) [] htb (fun _ h => nomatch h) (by decide) (by decide) (dx_li hLx 2 rfl) (dx_li hLx 5 rfl) (fun qx H hG => ?_)
  refine W.eq (g2 := F0 m 13 ls [.ref qx]) rfl ?_
  refine lv_astore (lv' := [(4, .ref qx), (0, .ref b0), (1, .int (q9)), (2, .int (0)), (3, .ref aOut)]) hx hb dL_observed_13 hl (by decide) rfl (fun ls hl => ?_)
  refine lv_iconst (v := 1) hx hb dL_observed_15 (by decide) ?_
  subst hQ
  exact dw_iret hx hb hr hG (()) rfl rfl dL_observed_16 hlocks

set_option maxRecDepth 100000 in
set_option maxHeartbeats 4000000 in
theorem lw_value0_1 (l : Launch) (dC : Nat → ClassId) (dI : Nat → Nat → Nat) (cI cZ : ClassId) (cJ : ClassId) (htr : l.stackTraces = false) (b0 u0 aK aX aY aN aV aM f0 e0 g0 aRp aNr aI c0 h0 n R : Nat) (an : Int32) (v : Int32) (aOut : Nat) (sz : Nat) (hinv : v < 0 ∨ nI n ≤ v) : Met l yL_value wsL_value { frames := 8, cells := 1, slots := 6, locals := 190 } (fun a U => (va_Pc [.ref b0, .int (v), .int (0), .ref aOut] (dw_pre (dC, dI) vwCl [(b0, .inr (0, [.ref u0, .ref f0, .ref e0, .ref g0, .ref aRp, .ref aNr, .ref aI, .ref c0, .ref h0, .int (an)])), (u0, .inr (1, [.ref aK, .ref aX, .ref aY, .ref aN, .ref aV, .ref aM, .int (nI (n)), .int (nI (R))]))] [(cI, .int), (cZ, .boolean), (cJ, .long)] sz)) a U ∧ dx_N U ∧ dx_L U) (va_Qi (fun (r : Int32) (u : Unit) => r = 1) (fun u t => dw_post (dC, dI) vwCl [(b0, .inr (0, [.ref u0, .ref f0, .ref e0, .ref g0, .ref aRp, .ref aNr, .ref aI, .ref c0, .ref h0, .int (an)])), (u0, .inr (1, [.ref aK, .ref aX, .ref aY, .ref aN, .ref aV, .ref aM, .int (nI (n)), .int (nI (R))]))] [(cI, .int), (cZ, .boolean), (cJ, .long)] (va_A [(b0, .inr (0, [.ref u0, .ref f0, .ref e0, .ref g0, .ref aRp, .ref aNr, .ref aI, .ref c0, .ref h0, .int (an)])), (u0, .inr (1, [.ref aK, .ref aX, .ref aY, .ref aN, .ref aV, .ref aM, .int (nI (n)), .int (nI (R))]))] sz) t) (va_A [(b0, .inr (0, [.ref u0, .ref f0, .ref e0, .ref g0, .ref aRp, .ref aNr, .ref aI, .ref c0, .ref h0, .int (an)])), (u0, .inr (1, [.ref aK, .ref aX, .ref aY, .ref aN, .ref aV, .ref aM, .int (nI (n)), .int (nI (R))]))] sz)) 1 6 (va_A [(b0, .inr (0, [.ref u0, .ref f0, .ref e0, .ref g0, .ref aRp, .ref aNr, .ref aI, .ref c0, .ref h0, .int (an)])), (u0, .inr (1, [.ref aK, .ref aX, .ref aY, .ref aN, .ref aV, .ref aM, .int (nI (n)), .int (nI (R))]))] sz) := by
  refine va_MetW (hh := [(0, 10, 13, 24)]) (cc := cL_value) (maxL := 5) (ret := (some .int)) (by decide) rfl ?_
  intro p e s m args below meth c s₁ B hml hv0
  obtain ⟨hv0, hNx, hLx⟩ := hv0
  have hx := B.exec
  have hb := B.bytes
  have hr := B.returns
  have hts := atoms_spec (ws := wsL_value) B.pre
  have hown : s.vm.findClass RL = some m.cls := findClass_of_methodNamed B.named
  have hlocks := B.notSynchronized
  have htb := dx_table B (hts _ List.mem_cons_self)
  obtain ⟨rfl, hsz, hG⟩ := dw_enter hv0
  generalize va_A [(b0, .inr (0, [.ref u0, .ref f0, .ref e0, .ref g0, .ref aRp, .ref aNr, .ref aI, .ref c0, .ref h0, .int (an)])), (u0, .inr (1, [.ref aK, .ref aX, .ref aY, .ref aN, .ref aV, .ref aM, .int (nI (n)), .int (nI (R))]))] sz = A at hG ⊢
  have hl := lv_entry ([.ref b0, .int (v), .int (0), .ref aOut]) (n := 5) (Nat.le_of_ble_eq_true rfl)
  rw [lg_entry_eq]
  generalize (lg_sl ([.ref b0, .int (v), .int (0), .ref aOut]) ++ List.replicate (5 - (lg_sl ([.ref b0, .int (v), .int (0), .ref aOut])).length) Slot.unset).toArray = ls at hl ⊢
  have hl : lv_has ls 5 [(0, .ref b0), (1, .int (v)), (2, .int (0)), (3, .ref aOut)] := hl
  refine dw_Q (fun Q hQ => ?_)
  suffices hgo : ∀ (H : Heap), H = s.heap → dw_G (dC, dI) vwCl [(cI, .int), (cZ, .boolean), (cJ, .long)] A s.heap s [(b0, .inr (0, [.ref u0, .ref f0, .ref e0, .ref g0, .ref aRp, .ref aNr, .ref aI, .ref c0, .ref h0, .int (an)])), (u0, .inr (1, [.ref aK, .ref aX, .ref aY, .ref aN, .ref aV, .ref aM, .int (nI (n)), .int (nI (R))]))] H [] → W p l e (headSpec wsL_value { frames := 8, cells := 1, slots := 6, locals := 190 }).room s m [.ref b0, .int (v), .int (0), .ref aOut].toArray below meth c H [] 0 0 Q (F0 m 0 ls []) from hgo _ rfl hG
  clear hG
  intro H hH hG
  refine lv_aload_n hx hb dL_value_0 rfl (lv_at hl 3 rfl) ?_
  refine lv_iconst (v := 0) hx hb dL_value_1 (by decide) ?_
  refine lv_aload_n hx hb dL_value_2 rfl (lv_at hl 0 rfl) ?_
  refine lv_iload_n hx hb dL_value_3 rfl (lv_at hl 1 rfl) ?_
  refine lv_iload_n hx hb dL_value_4 rfl (lv_at hl 2 rfl) ?_
  refine dx_catch (As := [.int (v), .int (0)]) (rest := [.int (0), .ref aOut]) ⟨hx, hb, hml, hown, hts⟩ (cx_value0_1 l dC dI cI cZ htr b0 u0 aK aX aY aN aV aM f0 e0 g0 aRp aNr aI c0 h0 n R an v H.size hinv) (dc_V 2 hts tw_484 tw_485 tw_486 tw_1 tw_487 rfl rfl (by decide +kernel) ⟨Nat.le_of_ble_eq_true rfl, Nat.le_of_ble_eq_true rfl⟩) (dw_preV (ci := 0) (wc := [(b0, .inr (0, [.ref u0, .ref f0, .ref e0, .ref g0, .ref aRp, .ref aNr, .ref aI, .ref c0, .ref h0, .int (an)])), (u0, .inr (1, [.ref aK, .ref aX, .ref aY, .ref aN, .ref aV, .ref aM, .int (nI (n)), .int (nI (R))]))]) hG [0, 1] [0, 1] rfl rfl (by decide) rfl rfl (q0 := 0) rfl) hG (fun T _ X => hNx.here X) rfl hl.1 rfl (Nat.le_of_ble_eq_true rfl) dL_value_5 ⟨Nat.le_of_ble_eq_true rfl, Nat.le_of_ble_eq_true rfl⟩ [] (dx_ent (0, 10, 13, 24)) [] htb (fun _ h => nomatch h) (by decide) (by decide) (dx_li hLx 2 rfl) (dx_li hLx 5 rfl) (fun qx H hG => ?_)
  refine W.eq (g2 := F0 m 13 ls [.ref qx]) rfl ?_
  refine lv_astore (lv' := [(4, .ref qx), (0, .ref b0), (1, .int (v)), (2, .int (0)), (3, .ref aOut)]) hx hb dL_value_13 hl (by decide) rfl (fun ls hl => ?_)
  refine lv_iconst (v := 1) hx hb dL_value_15 (by decide) ?_
  subst hQ
  exact dw_iret hx hb hr hG (()) rfl rfl dL_value_16 hlocks

set_option maxRecDepth 100000 in
set_option maxHeartbeats 4000000 in
theorem lw_observed1_1 (l : Launch) (dC : Nat → ClassId) (dI : Nat → Nat → Nat) (cI cZ : ClassId) (cJ : ClassId) (htr : l.stackTraces = false) (b0 u0 aK aX aY aN aV aM f0 e0 g0 aRp aNr aI c0 h0 n R : Nat) (an : Int32) (q9 : Int32) (aOut : Nat) (sz : Nat) (hbad : q9 < 0 ∨ nI R ≤ q9) : Met l yL_observed wsL_observed { frames := 8, cells := 1, slots := 6, locals := 190 } (fun a U => (va_Pc [.ref b0, .int (q9), .int (1), .ref aOut] (dw_pre (dC, dI) vwCl [(b0, .inr (0, [.ref u0, .ref f0, .ref e0, .ref g0, .ref aRp, .ref aNr, .ref aI, .ref c0, .ref h0, .int (an)])), (u0, .inr (1, [.ref aK, .ref aX, .ref aY, .ref aN, .ref aV, .ref aM, .int (nI (n)), .int (nI (R))]))] [(cI, .int), (cZ, .boolean), (cJ, .long)] sz)) a U ∧ dx_N U ∧ dx_L U) (va_Qi (fun (r : Int32) (u : Unit) => r = 1) (fun u t => dw_post (dC, dI) vwCl [(b0, .inr (0, [.ref u0, .ref f0, .ref e0, .ref g0, .ref aRp, .ref aNr, .ref aI, .ref c0, .ref h0, .int (an)])), (u0, .inr (1, [.ref aK, .ref aX, .ref aY, .ref aN, .ref aV, .ref aM, .int (nI (n)), .int (nI (R))]))] [(cI, .int), (cZ, .boolean), (cJ, .long)] (va_A [(b0, .inr (0, [.ref u0, .ref f0, .ref e0, .ref g0, .ref aRp, .ref aNr, .ref aI, .ref c0, .ref h0, .int (an)])), (u0, .inr (1, [.ref aK, .ref aX, .ref aY, .ref aN, .ref aV, .ref aM, .int (nI (n)), .int (nI (R))]))] sz) t) (va_A [(b0, .inr (0, [.ref u0, .ref f0, .ref e0, .ref g0, .ref aRp, .ref aNr, .ref aI, .ref c0, .ref h0, .int (an)])), (u0, .inr (1, [.ref aK, .ref aX, .ref aY, .ref aN, .ref aV, .ref aM, .int (nI (n)), .int (nI (R))]))] sz)) 1 6 (va_A [(b0, .inr (0, [.ref u0, .ref f0, .ref e0, .ref g0, .ref aRp, .ref aNr, .ref aI, .ref c0, .ref h0, .int (an)])), (u0, .inr (1, [.ref aK, .ref aX, .ref aY, .ref aN, .ref aV, .ref aM, .int (nI (n)), .int (nI (R))]))] sz) := by
  refine va_MetW (hh := [(0, 10, 13, 24)]) (cc := cL_observed) (maxL := 5) (ret := (some .int)) (by decide) rfl ?_
  intro p e s m args below meth c s₁ B hml hv0
  obtain ⟨hv0, hNx, hLx⟩ := hv0
  have hx := B.exec
  have hb := B.bytes
  have hr := B.returns
  have hts := atoms_spec (ws := wsL_observed) B.pre
  have hown : s.vm.findClass RL = some m.cls := findClass_of_methodNamed B.named
  have hlocks := B.notSynchronized
  have htb := dx_table B (hts _ List.mem_cons_self)
  obtain ⟨rfl, hsz, hG⟩ := dw_enter hv0
  generalize va_A [(b0, .inr (0, [.ref u0, .ref f0, .ref e0, .ref g0, .ref aRp, .ref aNr, .ref aI, .ref c0, .ref h0, .int (an)])), (u0, .inr (1, [.ref aK, .ref aX, .ref aY, .ref aN, .ref aV, .ref aM, .int (nI (n)), .int (nI (R))]))] sz = A at hG ⊢
  have hl := lv_entry ([.ref b0, .int (q9), .int (1), .ref aOut]) (n := 5) (Nat.le_of_ble_eq_true rfl)
  rw [lg_entry_eq]
  generalize (lg_sl ([.ref b0, .int (q9), .int (1), .ref aOut]) ++ List.replicate (5 - (lg_sl ([.ref b0, .int (q9), .int (1), .ref aOut])).length) Slot.unset).toArray = ls at hl ⊢
  have hl : lv_has ls 5 [(0, .ref b0), (1, .int (q9)), (2, .int (1)), (3, .ref aOut)] := hl
  refine dw_Q (fun Q hQ => ?_)
  suffices hgo : ∀ (H : Heap), H = s.heap → dw_G (dC, dI) vwCl [(cI, .int), (cZ, .boolean), (cJ, .long)] A s.heap s [(b0, .inr (0, [.ref u0, .ref f0, .ref e0, .ref g0, .ref aRp, .ref aNr, .ref aI, .ref c0, .ref h0, .int (an)])), (u0, .inr (1, [.ref aK, .ref aX, .ref aY, .ref aN, .ref aV, .ref aM, .int (nI (n)), .int (nI (R))]))] H [] → W p l e (headSpec wsL_observed { frames := 8, cells := 1, slots := 6, locals := 190 }).room s m [.ref b0, .int (q9), .int (1), .ref aOut].toArray below meth c H [] 0 0 Q (F0 m 0 ls []) from hgo _ rfl hG
  clear hG
  intro H hH hG
  refine lv_aload_n hx hb dL_observed_0 rfl (lv_at hl 3 rfl) ?_
  refine lv_iconst (v := 0) hx hb dL_observed_1 (by decide) ?_
  refine lv_aload_n hx hb dL_observed_2 rfl (lv_at hl 0 rfl) ?_
  refine lv_iload_n hx hb dL_observed_3 rfl (lv_at hl 1 rfl) ?_
  refine lv_iload_n hx hb dL_observed_4 rfl (lv_at hl 2 rfl) ?_
  refine dx_catch (As := [.int (q9), .int (1)]) (rest := [.int (0), .ref aOut]) ⟨hx, hb, hml, hown, hts⟩ (cx_observed1_1 l dC dI cI cZ htr b0 u0 aK aX aY aN aV aM f0 e0 g0 aRp aNr aI c0 h0 n R an q9 H.size hbad) (dc_V 2 hts tw_476 tw_477 tw_478 tw_1 tw_479 rfl rfl (by decide +kernel) ⟨Nat.le_of_ble_eq_true rfl, Nat.le_of_ble_eq_true rfl⟩) (dw_preV (ci := 0) (wc := [(b0, .inr (0, [.ref u0, .ref f0, .ref e0, .ref g0, .ref aRp, .ref aNr, .ref aI, .ref c0, .ref h0, .int (an)])), (u0, .inr (1, [.ref aK, .ref aX, .ref aY, .ref aN, .ref aV, .ref aM, .int (nI (n)), .int (nI (R))]))]) hG [0, 1] [0, 1] rfl rfl (by decide) rfl rfl (q0 := 0) rfl) hG (fun T _ X => hNx.here X) rfl hl.1 rfl (Nat.le_of_ble_eq_true rfl) dL_observed_5 ⟨Nat.le_of_ble_eq_true rfl, Nat.le_of_ble_eq_true rfl⟩ [] (dx_ent (0, 10, 13, 24)) [] htb (fun _ h => nomatch h) (by decide) (by decide) (dx_li hLx 2 rfl) (dx_li hLx 5 rfl) (fun qx H hG => ?_)
  refine W.eq (g2 := F0 m 13 ls [.ref qx]) rfl ?_
  refine lv_astore (lv' := [(4, .ref qx), (0, .ref b0), (1, .int (q9)), (2, .int (1)), (3, .ref aOut)]) hx hb dL_observed_13 hl (by decide) rfl (fun ls hl => ?_)
  refine lv_iconst (v := 1) hx hb dL_observed_15 (by decide) ?_
  subst hQ
  exact dw_iret hx hb hr hG (()) rfl rfl dL_observed_16 hlocks

set_option maxRecDepth 100000 in
set_option maxHeartbeats 4000000 in
theorem lw_value1_1 (l : Launch) (dC : Nat → ClassId) (dI : Nat → Nat → Nat) (cI cZ : ClassId) (cJ : ClassId) (htr : l.stackTraces = false) (b0 u0 aK aX aY aN aV aM f0 e0 g0 aRp aNr aI c0 h0 n R : Nat) (an : Int32) (v : Int32) (aOut : Nat) (sz : Nat) (hinv : v < 0 ∨ nI n ≤ v) : Met l yL_value wsL_value { frames := 8, cells := 1, slots := 6, locals := 190 } (fun a U => (va_Pc [.ref b0, .int (v), .int (1), .ref aOut] (dw_pre (dC, dI) vwCl [(b0, .inr (0, [.ref u0, .ref f0, .ref e0, .ref g0, .ref aRp, .ref aNr, .ref aI, .ref c0, .ref h0, .int (an)])), (u0, .inr (1, [.ref aK, .ref aX, .ref aY, .ref aN, .ref aV, .ref aM, .int (nI (n)), .int (nI (R))]))] [(cI, .int), (cZ, .boolean), (cJ, .long)] sz)) a U ∧ dx_N U ∧ dx_L U) (va_Qi (fun (r : Int32) (u : Unit) => r = 1) (fun u t => dw_post (dC, dI) vwCl [(b0, .inr (0, [.ref u0, .ref f0, .ref e0, .ref g0, .ref aRp, .ref aNr, .ref aI, .ref c0, .ref h0, .int (an)])), (u0, .inr (1, [.ref aK, .ref aX, .ref aY, .ref aN, .ref aV, .ref aM, .int (nI (n)), .int (nI (R))]))] [(cI, .int), (cZ, .boolean), (cJ, .long)] (va_A [(b0, .inr (0, [.ref u0, .ref f0, .ref e0, .ref g0, .ref aRp, .ref aNr, .ref aI, .ref c0, .ref h0, .int (an)])), (u0, .inr (1, [.ref aK, .ref aX, .ref aY, .ref aN, .ref aV, .ref aM, .int (nI (n)), .int (nI (R))]))] sz) t) (va_A [(b0, .inr (0, [.ref u0, .ref f0, .ref e0, .ref g0, .ref aRp, .ref aNr, .ref aI, .ref c0, .ref h0, .int (an)])), (u0, .inr (1, [.ref aK, .ref aX, .ref aY, .ref aN, .ref aV, .ref aM, .int (nI (n)), .int (nI (R))]))] sz)) 1 6 (va_A [(b0, .inr (0, [.ref u0, .ref f0, .ref e0, .ref g0, .ref aRp, .ref aNr, .ref aI, .ref c0, .ref h0, .int (an)])), (u0, .inr (1, [.ref aK, .ref aX, .ref aY, .ref aN, .ref aV, .ref aM, .int (nI (n)), .int (nI (R))]))] sz) := by
  refine va_MetW (hh := [(0, 10, 13, 24)]) (cc := cL_value) (maxL := 5) (ret := (some .int)) (by decide) rfl ?_
  intro p e s m args below meth c s₁ B hml hv0
  obtain ⟨hv0, hNx, hLx⟩ := hv0
  have hx := B.exec
  have hb := B.bytes
  have hr := B.returns
  have hts := atoms_spec (ws := wsL_value) B.pre
  have hown : s.vm.findClass RL = some m.cls := findClass_of_methodNamed B.named
  have hlocks := B.notSynchronized
  have htb := dx_table B (hts _ List.mem_cons_self)
  obtain ⟨rfl, hsz, hG⟩ := dw_enter hv0
  generalize va_A [(b0, .inr (0, [.ref u0, .ref f0, .ref e0, .ref g0, .ref aRp, .ref aNr, .ref aI, .ref c0, .ref h0, .int (an)])), (u0, .inr (1, [.ref aK, .ref aX, .ref aY, .ref aN, .ref aV, .ref aM, .int (nI (n)), .int (nI (R))]))] sz = A at hG ⊢
  have hl := lv_entry ([.ref b0, .int (v), .int (1), .ref aOut]) (n := 5) (Nat.le_of_ble_eq_true rfl)
  rw [lg_entry_eq]
  generalize (lg_sl ([.ref b0, .int (v), .int (1), .ref aOut]) ++ List.replicate (5 - (lg_sl ([.ref b0, .int (v), .int (1), .ref aOut])).length) Slot.unset).toArray = ls at hl ⊢
  have hl : lv_has ls 5 [(0, .ref b0), (1, .int (v)), (2, .int (1)), (3, .ref aOut)] := hl
  refine dw_Q (fun Q hQ => ?_)
  suffices hgo : ∀ (H : Heap), H = s.heap → dw_G (dC, dI) vwCl [(cI, .int), (cZ, .boolean), (cJ, .long)] A s.heap s [(b0, .inr (0, [.ref u0, .ref f0, .ref e0, .ref g0, .ref aRp, .ref aNr, .ref aI, .ref c0, .ref h0, .int (an)])), (u0, .inr (1, [.ref aK, .ref aX, .ref aY, .ref aN, .ref aV, .ref aM, .int (nI (n)), .int (nI (R))]))] H [] → W p l e (headSpec wsL_value { frames := 8, cells := 1, slots := 6, locals := 190 }).room s m [.ref b0, .int (v), .int (1), .ref aOut].toArray below meth c H [] 0 0 Q (F0 m 0 ls []) from hgo _ rfl hG
  clear hG
  intro H hH hG
  refine lv_aload_n hx hb dL_value_0 rfl (lv_at hl 3 rfl) ?_
  refine lv_iconst (v := 0) hx hb dL_value_1 (by decide) ?_
  refine lv_aload_n hx hb dL_value_2 rfl (lv_at hl 0 rfl) ?_
  refine lv_iload_n hx hb dL_value_3 rfl (lv_at hl 1 rfl) ?_
  refine lv_iload_n hx hb dL_value_4 rfl (lv_at hl 2 rfl) ?_
  refine dx_catch (As := [.int (v), .int (1)]) (rest := [.int (0), .ref aOut]) ⟨hx, hb, hml, hown, hts⟩ (cx_value1_1 l dC dI cI cZ htr b0 u0 aK aX aY aN aV aM f0 e0 g0 aRp aNr aI c0 h0 n R an v H.size hinv) (dc_V 2 hts tw_484 tw_485 tw_486 tw_1 tw_487 rfl rfl (by decide +kernel) ⟨Nat.le_of_ble_eq_true rfl, Nat.le_of_ble_eq_true rfl⟩) (dw_preV (ci := 0) (wc := [(b0, .inr (0, [.ref u0, .ref f0, .ref e0, .ref g0, .ref aRp, .ref aNr, .ref aI, .ref c0, .ref h0, .int (an)])), (u0, .inr (1, [.ref aK, .ref aX, .ref aY, .ref aN, .ref aV, .ref aM, .int (nI (n)), .int (nI (R))]))]) hG [0, 1] [0, 1] rfl rfl (by decide) rfl rfl (q0 := 0) rfl) hG (fun T _ X => hNx.here X) rfl hl.1 rfl (Nat.le_of_ble_eq_true rfl) dL_value_5 ⟨Nat.le_of_ble_eq_true rfl, Nat.le_of_ble_eq_true rfl⟩ [] (dx_ent (0, 10, 13, 24)) [] htb (fun _ h => nomatch h) (by decide) (by decide) (dx_li hLx 2 rfl) (dx_li hLx 5 rfl) (fun qx H hG => ?_)
  refine W.eq (g2 := F0 m 13 ls [.ref qx]) rfl ?_
  refine lv_astore (lv' := [(4, .ref qx), (0, .ref b0), (1, .int (v)), (2, .int (1)), (3, .ref aOut)]) hx hb dL_value_13 hl (by decide) rfl (fun ls hl => ?_)
  refine lv_iconst (v := 1) hx hb dL_value_15 (by decide) ?_
  subst hQ
  exact dw_iret hx hb hr hG (()) rfl rfl dL_value_16 hlocks

