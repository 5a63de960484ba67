/-- a contract's end may say less -/
theorem dw_weaken_v {l : Launch} {y : MethodName} {ws : List Cond} {rm : Room} {Pc : Array Value → State → Prop} {S : Type} {p1 p2 : S → Prop} {B : S → State → Prop} {A : Nat → Prop} {mc ms : Nat} {free : Addr → Prop} (h : Met l y ws rm Pc (va_Qv p1 B A) mc ms free) (hw : ∀ u, p1 u → p2 u) : Met l y ws rm Pc (va_Qv p2 B A) mc ms free := va_MetF h (fun a st o t q => by
  obtain ⟨⟨u, q1, q2, q3⟩, q4⟩ := q
  exact ⟨⟨u, q1, hw u q2, q3⟩, q4⟩)

set_option maxRecDepth 100000 in
set_option maxHeartbeats 4000000 in
theorem ce_askF (l : Launch) (dC : Nat → ClassId) (dI : Nat → Nat → Nat) (cI cZ : ClassId) (e0 aD : Nat) (ec : Int32) (D : Nat → Int32) (f0 aZ aO : Nat) (ch : Int32) (Zs On : Nat → Int32) (u0 aK aX aY aN aV aM n R : Nat) (K X Y : Nat → Nat) (Nm : Nat → Int32) (v : Nat) (sz : Nat) (hn : n ≤ 24) (hwf : db_wf n K X Y Nm) (hvn : v < n) : Met l yE_ask wsE_ask { frames := 3, cells := 0, slots := 0, locals := 100 } (va_Pc [.ref e0, .ref u0, .ref f0, .int (-2), .int (nI (v))] (dw_pre (dC, dI) vwCl [(e0, .inr (3, [.ref aD, .int (ec)])), (aD, .inl (cI, 24, .inl (D))), (u0, .inr (1, [.ref aK, .ref aX, .ref aY, .ref aN, .ref aV, .ref aM, .int (nI (n)), .int (nI (R))])), (aK, .inl (cI, 24, .inl (fun w => nI (K w)))), (aX, .inl (cI, 24, .inl (fun w => nI (X w)))), (aY, .inl (cI, 24, .inl (fun w => nI (Y w)))), (aN, .inl (cI, 24, .inl (Nm))), (f0, .inr (2, [.ref aZ, .ref aO, .int (ch)])), (aZ, .inl (cI, 24, .inl (Zs))), (aO, .inl (cI, 24, .inl (On)))] [(cI, .int), (cZ, .boolean)] sz)) (va_Qv (fun (u : Int32) => u = ec) (fun u t => dw_post (dC, dI) vwCl [(e0, .inr (3, [.ref aD, .int (u)])), (aD, .inl (cI, 24, .inl (D))), (u0, .inr (1, [.ref aK, .ref aX, .ref aY, .ref aN, .ref aV, .ref aM, .int (nI (n)), .int (nI (R))])), (aK, .inl (cI, 24, .inl (fun w => nI (K w)))), (aX, .inl (cI, 24, .inl (fun w => nI (X w)))), (aY, .inl (cI, 24, .inl (fun w => nI (Y w)))), (aN, .inl (cI, 24, .inl (Nm))), (f0, .inr (2, [.ref aZ, .ref aO, .int (ch)])), (aZ, .inl (cI, 24, .inl (Zs))), (aO, .inl (cI, 24, .inl (On)))] [(cI, .int), (cZ, .boolean)] (va_A [(e0, .inr (3, [.ref aD, .int (ec)])), (aD, .inl (cI, 24, .inl (D))), (u0, .inr (1, [.ref aK, .ref aX, .ref aY, .ref aN, .ref aV, .ref aM, .int (nI (n)), .int (nI (R))])), (aK, .inl (cI, 24, .inl (fun w => nI (K w)))), (aX, .inl (cI, 24, .inl (fun w => nI (X w)))), (aY, .inl (cI, 24, .inl (fun w => nI (Y w)))), (aN, .inl (cI, 24, .inl (Nm))), (f0, .inr (2, [.ref aZ, .ref aO, .int (ch)])), (aZ, .inl (cI, 24, .inl (Zs))), (aO, .inl (cI, 24, .inl (On)))] sz) t) (va_A [(e0, .inr (3, [.ref aD, .int (ec)])), (aD, .inl (cI, 24, .inl (D))), (u0, .inr (1, [.ref aK, .ref aX, .ref aY, .ref aN, .ref aV, .ref aM, .int (nI (n)), .int (nI (R))])), (aK, .inl (cI, 24, .inl (fun w => nI (K w)))), (aX, .inl (cI, 24, .inl (fun w => nI (X w)))), (aY, .inl (cI, 24, .inl (fun w => nI (Y w)))), (aN, .inl (cI, 24, .inl (Nm))), (f0, .inr (2, [.ref aZ, .ref aO, .int (ch)])), (aZ, .inl (cI, 24, .inl (Zs))), (aO, .inl (cI, 24, .inl (On)))] sz)) 0 0 (va_A [(e0, .inr (3, [.ref aD, .int (ec)])), (aD, .inl (cI, 24, .inl (D))), (u0, .inr (1, [.ref aK, .ref aX, .ref aY, .ref aN, .ref aV, .ref aM, .int (nI (n)), .int (nI (R))])), (aK, .inl (cI, 24, .inl (fun w => nI (K w)))), (aX, .inl (cI, 24, .inl (fun w => nI (X w)))), (aY, .inl (cI, 24, .inl (fun w => nI (Y w)))), (aN, .inl (cI, 24, .inl (Nm))), (f0, .inr (2, [.ref aZ, .ref aO, .int (ch)])), (aZ, .inl (cI, 24, .inl (Zs))), (aO, .inl (cI, 24, .inl (On)))] sz) := by
  refine Met.ofW (cc := cE_ask) (maxL := 6) (ret := none) (by decide) rfl ?_
  intro p e s m args below meth c s₁ B hml hv0
  have hx := B.exec
  have hb := B.bytes
  have hr := B.returns
  have hts := atoms_spec (ws := wsE_ask) B.pre
  have hown : s.vm.findClass RE = some m.cls := findClass_of_methodNamed B.named
  have hlocks := B.notSynchronized
  obtain ⟨rfl, hsz, hG⟩ := dw_enter hv0
  generalize va_A [(e0, .inr (3, [.ref aD, .int (ec)])), (aD, .inl (cI, 24, .inl (D))), (u0, .inr (1, [.ref aK, .ref aX, .ref aY, .ref aN, .ref aV, .ref aM, .int (nI (n)), .int (nI (R))])), (aK, .inl (cI, 24, .inl (fun w => nI (K w)))), (aX, .inl (cI, 24, .inl (fun w => nI (X w)))), (aY, .inl (cI, 24, .inl (fun w => nI (Y w)))), (aN, .inl (cI, 24, .inl (Nm))), (f0, .inr (2, [.ref aZ, .ref aO, .int (ch)])), (aZ, .inl (cI, 24, .inl (Zs))), (aO, .inl (cI, 24, .inl (On)))] sz = A at hG ⊢
  have hl := lv_entry ([.ref e0, .ref u0, .ref f0, .int (-2), .int (nI (v))]) (n := 6) (Nat.le_of_ble_eq_true rfl)
  rw [lg_entry_eq]
  generalize (lg_sl ([.ref e0, .ref u0, .ref f0, .int (-2), .int (nI (v))]) ++ List.replicate (6 - (lg_sl ([.ref e0, .ref u0, .ref f0, .int (-2), .int (nI (v))])).length) Slot.unset).toArray = ls at hl ⊢
  have hl : lv_has ls 6 [(0, .ref e0), (1, .ref u0), (2, .ref f0), (3, .int (-2)), (4, .int (nI (v)))] := hl
  have hw109 := hts _ (List.mem_cons_of_mem _ tw_109)
  have hw1 : K v ≤ 13 := (hwf v hvn).1
  have hw2 := (hwf v hvn).2.1
  have hw3 := (hwf v hvn).2.2.1
  refine dw_Q (fun Q hQ => ?_)
  suffices hgo : ∀ (H : Heap) (locs : List Loc), dw_G (dC, dI) vwCl [(cI, .int), (cZ, .boolean)] A s.heap s [(e0, .inr (3, [.ref aD, .int (ec)])), (aD, .inl (cI, 24, .inl (D))), (u0, .inr (1, [.ref aK, .ref aX, .ref aY, .ref aN, .ref aV, .ref aM, .int (nI (n)), .int (nI (R))])), (aK, .inl (cI, 24, .inl (fun w => nI (K w)))), (aX, .inl (cI, 24, .inl (fun w => nI (X w)))), (aY, .inl (cI, 24, .inl (fun w => nI (Y w)))), (aN, .inl (cI, 24, .inl (Nm))), (f0, .inr (2, [.ref aZ, .ref aO, .int (ch)])), (aZ, .inl (cI, 24, .inl (Zs))), (aO, .inl (cI, 24, .inl (On)))] H locs → W p l e (headSpec wsE_ask { frames := 3, cells := 0, slots := 0, locals := 100 }).room s m [.ref e0, .ref u0, .ref f0, .int (-2), .int (nI (v))].toArray below meth c H locs 0 0 Q (F0 m 0 ls []) from hgo _ _ hG
  clear hG
  intro H locs hG
  refine lv_aload_n hx hb dE_ask_0 rfl (lv_at hl 0 rfl) ?_
  refine dw_get hx hb hts inEc hown hG 0 0 rfl rfl (by decide) hw109 rfl rfl dE_ask_1 ?_
  refine lv_iload hx hb dE_ask_4 (lv_at hl 4 rfl) ?_
  refine dw_ia (x := (D) (v)) hx hb hG 1 0 rfl rfl (v) rfl (by omega) (by decide) rfl dE_ask_6 ?_
  refine lv_istore (lv' := [(5, .int ((D) (v))), (0, .ref e0), (1, .ref u0), (2, .ref f0), (3, .int (-2)), (4, .int (nI (v)))]) hx hb dE_ask_7 hl (by decide) rfl (fun ls hl => ?_)
  refine lv_iload_n hx hb dE_ask_9 rfl (lv_at hl 4 rfl) ?_
  refine lv_bipush (v := -2) hx hb dE_ask_10 (by decide) ?_
  refine lv_icmp_ne (tgt := 16) hx hb dE_ask_12 (by decide) (fun h12 => ?_) (fun h12 => ?_)
  · skip
    exact absurd rfl h12
  subst hQ
  exact dw_vret hx hb hr hG (ec) rfl rfl dE_ask_15 hlocks

set_option maxRecDepth 100000 in
set_option maxHeartbeats 4000000 in
theorem ce_askN (l : Launch) (dC : Nat → ClassId) (dI : Nat → Nat → Nat) (cI cZ : ClassId) (e0 aD : Nat) (ec : Int32) (D : Nat → Int32) (f0 aZ aO : Nat) (ch : Int32) (Zs On : Nat → Int32) (u0 aK aX aY aN aV aM n R : Nat) (K X Y : Nat → Nat) (Nm : Nat → Int32) (v : Nat) (sz : Nat) (hn : n ≤ 24) (hwf : db_wf n K X Y Nm) (hvn : v < n) : Met l yE_ask wsE_ask { frames := 3, cells := 0, slots := 0, locals := 100 } (va_Pc [.ref e0, .ref u0, .ref f0, .int (-1), .int (nI (v))] (dw_pre (dC, dI) vwCl [(e0, .inr (3, [.ref aD, .int (ec)])), (aD, .inl (cI, 24, .inl (D))), (u0, .inr (1, [.ref aK, .ref aX, .ref aY, .ref aN, .ref aV, .ref aM, .int (nI (n)), .int (nI (R))])), (aK, .inl (cI, 24, .inl (fun w => nI (K w)))), (aX, .inl (cI, 24, .inl (fun w => nI (X w)))), (aY, .inl (cI, 24, .inl (fun w => nI (Y w)))), (aN, .inl (cI, 24, .inl (Nm))), (f0, .inr (2, [.ref aZ, .ref aO, .int (ch)])), (aZ, .inl (cI, 24, .inl (Zs))), (aO, .inl (cI, 24, .inl (On)))] [(cI, .int), (cZ, .boolean)] sz)) (va_Qv (fun (u : Int32) => db_dch ec u D (db_dem (db_dem D (X v) (db_askX (K v) (Nm v) (Zs (Y v)) (On (Y v)) (D v))) (Y v) (db_askY (K v) (Zs (X v)) (On (X v)) (Zs (Y v)) (On (Y v)) (D v)))) (fun u t => dw_post (dC, dI) vwCl [(e0, .inr (3, [.ref aD, .int (u)])), (aD, .inl (cI, 24, .inl ((db_dem (db_dem D (X v) (db_askX (K v) (Nm v) (Zs (Y v)) (On (Y v)) (D v))) (Y v) (db_askY (K v) (Zs (X v)) (On (X v)) (Zs (Y v)) (On (Y v)) (D v)))))), (u0, .inr (1, [.ref aK, .ref aX, .ref aY, .ref aN, .ref aV, .ref aM, .int (nI (n)), .int (nI (R))])), (aK, .inl (cI, 24, .inl (fun w => nI (K w)))), (aX, .inl (cI, 24, .inl (fun w => nI (X w)))), (aY, .inl (cI, 24, .inl (fun w => nI (Y w)))), (aN, .inl (cI, 24, .inl (Nm))), (f0, .inr (2, [.ref aZ, .ref aO, .int (ch)])), (aZ, .inl (cI, 24, .inl (Zs))), (aO, .inl (cI, 24, .inl (On)))] [(cI, .int), (cZ, .boolean)] (va_A [(e0, .inr (3, [.ref aD, .int (ec)])), (aD, .inl (cI, 24, .inl (D))), (u0, .inr (1, [.ref aK, .ref aX, .ref aY, .ref aN, .ref aV, .ref aM, .int (nI (n)), .int (nI (R))])), (aK, .inl (cI, 24, .inl (fun w => nI (K w)))), (aX, .inl (cI, 24, .inl (fun w => nI (X w)))), (aY, .inl (cI, 24, .inl (fun w => nI (Y w)))), (aN, .inl (cI, 24, .inl (Nm))), (f0, .inr (2, [.ref aZ, .ref aO, .int (ch)])), (aZ, .inl (cI, 24, .inl (Zs))), (aO, .inl (cI, 24, .inl (On)))] sz) t) (va_A [(e0, .inr (3, [.ref aD, .int (ec)])), (aD, .inl (cI, 24, .inl (D))), (u0, .inr (1, [.ref aK, .ref aX, .ref aY, .ref aN, .ref aV, .ref aM, .int (nI (n)), .int (nI (R))])), (aK, .inl (cI, 24, .inl (fun w => nI (K w)))), (aX, .inl (cI, 24, .inl (fun w => nI (X w)))), (aY, .inl (cI, 24, .inl (fun w => nI (Y w)))), (aN, .inl (cI, 24, .inl (Nm))), (f0, .inr (2, [.ref aZ, .ref aO, .int (ch)])), (aZ, .inl (cI, 24, .inl (Zs))), (aO, .inl (cI, 24, .inl (On)))] sz)) 0 0 (va_A [(e0, .inr (3, [.ref aD, .int (ec)])), (aD, .inl (cI, 24, .inl (D))), (u0, .inr (1, [.ref aK, .ref aX, .ref aY, .ref aN, .ref aV, .ref aM, .int (nI (n)), .int (nI (R))])), (aK, .inl (cI, 24, .inl (fun w => nI (K w)))), (aX, .inl (cI, 24, .inl (fun w => nI (X w)))), (aY, .inl (cI, 24, .inl (fun w => nI (Y w)))), (aN, .inl (cI, 24, .inl (Nm))), (f0, .inr (2, [.ref aZ, .ref aO, .int (ch)])), (aZ, .inl (cI, 24, .inl (Zs))), (aO, .inl (cI, 24, .inl (On)))] sz) := by
  refine Met.ofW (cc := cE_ask) (maxL := 6) (ret := none) (by decide) rfl ?_
  intro p e s m args below meth c s₁ B hml hv0
  have hx := B.exec
  have hb := B.bytes
  have hr := B.returns
  have hts := atoms_spec (ws := wsE_ask) B.pre
  have hown : s.vm.findClass RE = some m.cls := findClass_of_methodNamed B.named
  have hlocks := B.notSynchronized
  obtain ⟨rfl, hsz, hG⟩ := dw_enter hv0
  generalize va_A [(e0, .inr (3, [.ref aD, .int (ec)])), (aD, .inl (cI, 24, .inl (D))), (u0, .inr (1, [.ref aK, .ref aX, .ref aY, .ref aN, .ref aV, .ref aM, .int (nI (n)), .int (nI (R))])), (aK, .inl (cI, 24, .inl (fun w => nI (K w)))), (aX, .inl (cI, 24, .inl (fun w => nI (X w)))), (aY, .inl (cI, 24, .inl (fun w => nI (Y w)))), (aN, .inl (cI, 24, .inl (Nm))), (f0, .inr (2, [.ref aZ, .ref aO, .int (ch)])), (aZ, .inl (cI, 24, .inl (Zs))), (aO, .inl (cI, 24, .inl (On)))] sz = A at hG ⊢
  have hl := lv_entry ([.ref e0, .ref u0, .ref f0, .int (-1), .int (nI (v))]) (n := 6) (Nat.le_of_ble_eq_true rfl)
  rw [lg_entry_eq]
  generalize (lg_sl ([.ref e0, .ref u0, .ref f0, .int (-1), .int (nI (v))]) ++ List.replicate (6 - (lg_sl ([.ref e0, .ref u0, .ref f0, .int (-1), .int (nI (v))])).length) Slot.unset).toArray = ls at hl ⊢
  have hl : lv_has ls 6 [(0, .ref e0), (1, .ref u0), (2, .ref f0), (3, .int (-1)), (4, .int (nI (v)))] := hl
  have hw109 := hts _ (List.mem_cons_of_mem _ tw_109)
  have hw38 := hts _ (List.mem_cons_of_mem _ tw_38)
  have hw42 := hts _ (List.mem_cons_of_mem _ tw_42)
  have hw1 : K v ≤ 13 := (hwf v hvn).1
  have hw2 := (hwf v hvn).2.1
  have hw3 := (hwf v hvn).2.2.1
  refine dw_Q (fun Q hQ => ?_)
  suffices hgo : ∀ (H : Heap) (locs : List Loc), dw_G (dC, dI) vwCl [(cI, .int), (cZ, .boolean)] A s.heap s [(e0, .inr (3, [.ref aD, .int (ec)])), (aD, .inl (cI, 24, .inl (D))), (u0, .inr (1, [.ref aK, .ref aX, .ref aY, .ref aN, .ref aV, .ref aM, .int (nI (n)), .int (nI (R))])), (aK, .inl (cI, 24, .inl (fun w => nI (K w)))), (aX, .inl (cI, 24, .inl (fun w => nI (X w)))), (aY, .inl (cI, 24, .inl (fun w => nI (Y w)))), (aN, .inl (cI, 24, .inl (Nm))), (f0, .inr (2, [.ref aZ, .ref aO, .int (ch)])), (aZ, .inl (cI, 24, .inl (Zs))), (aO, .inl (cI, 24, .inl (On)))] H locs → W p l e (headSpec wsE_ask { frames := 3, cells := 0, slots := 0, locals := 100 }).room s m [.ref e0, .ref u0, .ref f0, .int (-1), .int (nI (v))].toArray below meth c H locs 0 0 Q (F0 m 0 ls []) from hgo _ _ hG
  clear hG
  intro H locs hG
  refine lv_aload_n hx hb dE_ask_0 rfl (lv_at hl 0 rfl) ?_
  refine dw_get hx hb hts inEc hown hG 0 0 rfl rfl (by decide) hw109 rfl rfl dE_ask_1 ?_
  refine lv_iload hx hb dE_ask_4 (lv_at hl 4 rfl) ?_
  refine dw_ia (x := (D) (v)) hx hb hG 1 0 rfl rfl (v) rfl (by omega) (by decide) rfl dE_ask_6 ?_
  refine lv_istore (lv' := [(5, .int ((D) (v))), (0, .ref e0), (1, .ref u0), (2, .ref f0), (3, .int (-1)), (4, .int (nI (v)))]) hx hb dE_ask_7 hl (by decide) rfl (fun ls hl => ?_)
  refine lv_iload_n hx hb dE_ask_9 rfl (lv_at hl 4 rfl) ?_
  refine lv_bipush (v := -2) hx hb dE_ask_10 (by decide) ?_
  refine lv_icmp_ne (tgt := 16) hx hb dE_ask_12 (by decide) (fun h12 => ?_) (fun h12 => ?_)
  · skip
    refine lv_iload_n hx hb dE_ask_16 rfl (lv_at hl 4 rfl) ?_
    refine lv_iconst (v := -1) hx hb dE_ask_17 (by decide) ?_
    refine lv_icmp_eq (tgt := 29) hx hb dE_ask_18 (by decide) (fun h18 => ?_) (fun h18 => ?_)
    · skip
      refine lv_aload_n hx hb dE_ask_29 rfl (lv_at hl 1 rfl) ?_
      refine lv_aload_n hx hb dE_ask_30 rfl (lv_at hl 2 rfl) ?_
      refine dw_get hx hb hts inUc hown hG 2 1 rfl rfl (by decide) hw38 rfl rfl dE_ask_31 ?_
      refine lv_iload hx hb dE_ask_34 (lv_at hl 5 rfl) ?_
      refine dw_ia (x := nI (X v)) hx hb hG 4 0 rfl rfl (v) rfl (by omega) (by decide) rfl dE_ask_36 ?_
      refine lv_aload_n hx hb dE_ask_37 rfl (lv_at hl 2 rfl) ?_
      refine lv_aload_n hx hb dE_ask_38 rfl (lv_at hl 3 rfl) ?_
      refine lv_iload hx hb dE_ask_39 (lv_at hl 5 rfl) ?_
      refine lv_iload hx hb dE_ask_41 (lv_at hl 0 rfl) ?_
      refine dw_calli (wc := [(u0, .inr (1, [.ref aK, .ref aX, .ref aY, .ref aN, .ref aV, .ref aM, .int (nI (n)), .int (nI (R))])), (aK, .inl (cI, 24, .inl (fun w => nI (K w)))), (aX, .inl (cI, 24, .inl (fun w => nI (X w)))), (aY, .inl (cI, 24, .inl (fun w => nI (Y w)))), (aN, .inl (cI, 24, .inl (Nm))), (f0, .inr (2, [.ref aZ, .ref aO, .int (ch)])), (aZ, .inl (cI, 24, .inl (Zs))), (aO, .inl (cI, 24, .inl (On)))]) (wr := [(e0, .inr (3, [.ref aD, .int (ec)])), (aD, .inl (cI, 24, .inl (D)))]) hG [2, 3, 4, 5, 6, 7, 8, 9] [0, 1] rfl rfl (by decide) (by decide) (va_runS (As := [.ref u0, .ref f0, .int (nI (v)), .int ((D) (v))]) (rest := [.int (nI (X v)), .ref e0]) ⟨hx, hb, hml, hown, hts⟩ (ce_askedOfX l dC dI cI cZ f0 aZ aO ch Zs On u0 aK aX aY aN aV aM n R (fun w => nI (K w)) (fun w => nI (X w)) (fun w => nI (Y w)) Nm v (X v) (Y v) ((D) (v)) (K v) H.size (by omega) (by omega) (by omega) rfl rfl hw1 rfl) (dc_S 4 hts tw_225 tw_226 tw_4 tw_227 rfl rfl (by decide +kernel) ⟨Nat.le_of_ble_eq_true rfl, Nat.le_of_ble_eq_true rfl⟩) (dw_preS hG [2, 3, 4, 5, 6, 7, 8, 9] [0, 1] rfl rfl (by decide) rfl) rfl rfl hl.1 rfl (lv_room (Nat.le_of_ble_eq_true rfl)) dE_ask_43 ⟨Nat.le_refl _, Nat.le_refl _⟩) (fun r u H locs hp hG => ?_)
      subst hp
      have hG : dw_G (dC, dI) vwCl [(cI, .int), (cZ, .boolean)] A s.heap s [(e0, .inr (3, [.ref aD, .int (ec)])), (aD, .inl (cI, 24, .inl (D))), (u0, .inr (1, [.ref aK, .ref aX, .ref aY, .ref aN, .ref aV, .ref aM, .int (nI (n)), .int (nI (R))])), (aK, .inl (cI, 24, .inl (fun w => nI (K w)))), (aX, .inl (cI, 24, .inl (fun w => nI (X w)))), (aY, .inl (cI, 24, .inl (fun w => nI (Y w)))), (aN, .inl (cI, 24, .inl (Nm))), (f0, .inr (2, [.ref aZ, .ref aO, .int (ch)])), (aZ, .inl (cI, 24, .inl (Zs))), (aO, .inl (cI, 24, .inl (On)))] H locs := hG
      refine dw_callv (wc := [(e0, .inr (3, [.ref aD, .int (ec)])), (aD, .inl (cI, 24, .inl (D)))]) (wr := [(u0, .inr (1, [.ref aK, .ref aX, .ref aY, .ref aN, .ref aV, .ref aM, .int (nI (n)), .int (nI (R))])), (aK, .inl (cI, 24, .inl (fun w => nI (K w)))), (aX, .inl (cI, 24, .inl (fun w => nI (X w)))), (aY, .inl (cI, 24, .inl (fun w => nI (Y w)))), (aN, .inl (cI, 24, .inl (Nm))), (f0, .inr (2, [.ref aZ, .ref aO, .int (ch)])), (aZ, .inl (cI, 24, .inl (Zs))), (aO, .inl (cI, 24, .inl (On)))]) hG [0, 1] [2, 3, 4, 5, 6, 7, 8, 9] rfl rfl (by decide) (by decide) (va_runV (As := [.int (nI (X v)), .int (db_askX (K v) (Nm v) (Zs (Y v)) (On (Y v)) ((D) (v)))]) (rest := []) ⟨hx, hb, hml, hown, hts⟩ (ce_demand l dC dI cI cZ e0 aD (ec) (D) (X v) (db_askX (K v) (Nm v) (Zs (Y v)) (On (Y v)) ((D) (v))) H.size (by omega)) (dc_V 2 hts tw_217 tw_219 tp_E_demand tw_4 tw_220 rfl rfl (by decide +kernel) ⟨Nat.le_of_ble_eq_true rfl, Nat.le_of_ble_eq_true rfl⟩) (dw_preV (ci := 3) hG [0, 1] [0, 1] rfl rfl (by decide) rfl rfl (q0 := 0) rfl) rfl rfl hl.1 rfl (lv_room (Nat.le_of_ble_eq_true rfl)) dE_ask_46 ⟨Nat.le_refl _, Nat.le_refl _⟩) (fun d1 H locs hd1 hG => ?_)
      have hG : dw_G (dC, dI) vwCl [(cI, .int), (cZ, .boolean)] A s.heap s [(u0, .inr (1, [.ref aK, .ref aX, .ref aY, .ref aN, .ref aV, .ref aM, .int (nI (n)), .int (nI (R))])), (aK, .inl (cI, 24, .inl (fun w => nI (K w)))), (aX, .inl (cI, 24, .inl (fun w => nI (X w)))), (aY, .inl (cI, 24, .inl (fun w => nI (Y w)))), (aN, .inl (cI, 24, .inl (Nm))), (f0, .inr (2, [.ref aZ, .ref aO, .int (ch)])), (aZ, .inl (cI, 24, .inl (Zs))), (aO, .inl (cI, 24, .inl (On))), (e0, .inr (3, [.ref aD, .int (d1)])), (aD, .inl (cI, 24, .inl (db_dem (D) (X v) (db_askX (K v) (Nm v) (Zs (Y v)) (On (Y v)) ((D) (v))))))] H locs := hG
      refine lv_aload_n hx hb dE_ask_49 rfl (lv_at hl 1 rfl) ?_
      refine lv_aload_n hx hb dE_ask_50 rfl (lv_at hl 2 rfl) ?_
      refine dw_get hx hb hts inUc hown hG 0 2 rfl rfl (by decide) hw42 rfl rfl dE_ask_51 ?_
      refine lv_iload hx hb dE_ask_54 (lv_at hl 5 rfl) ?_
      refine dw_ia (x := nI (Y v)) hx hb hG 3 0 rfl rfl (v) rfl (by omega) (by decide) rfl dE_ask_56 ?_
      refine lv_aload_n hx hb dE_ask_57 rfl (lv_at hl 2 rfl) ?_
      refine lv_aload_n hx hb dE_ask_58 rfl (lv_at hl 3 rfl) ?_
      refine lv_iload hx hb dE_ask_59 (lv_at hl 5 rfl) ?_
      refine lv_iload hx hb dE_ask_61 (lv_at hl 0 rfl) ?_
      refine dw_calli (wc := [(u0, .inr (1, [.ref aK, .ref aX, .ref aY, .ref aN, .ref aV, .ref aM, .int (nI (n)), .int (nI (R))])), (aK, .inl (cI, 24, .inl (fun w => nI (K w)))), (aX, .inl (cI, 24, .inl (fun w => nI (X w)))), (aY, .inl (cI, 24, .inl (fun w => nI (Y w)))), (aN, .inl (cI, 24, .inl (Nm))), (f0, .inr (2, [.ref aZ, .ref aO, .int (ch)])), (aZ, .inl (cI, 24, .inl (Zs))), (aO, .inl (cI, 24, .inl (On)))]) (wr := [(e0, .inr (3, [.ref aD, .int (d1)])), (aD, .inl (cI, 24, .inl (db_dem (D) (X v) (db_askX (K v) (Nm v) (Zs (Y v)) (On (Y v)) ((D) (v))))))]) hG [0, 1, 2, 3, 4, 5, 6, 7] [8, 9] rfl rfl (by decide) (by decide) (va_runS (As := [.ref u0, .ref f0, .int (nI (v)), .int ((D) (v))]) (rest := [.int (nI (Y v)), .ref e0]) ⟨hx, hb, hml, hown, hts⟩ (ce_askedOfY l dC dI cI cZ f0 aZ aO ch Zs On u0 aK aX aY aN aV aM n R (fun w => nI (K w)) (fun w => nI (X w)) (fun w => nI (Y w)) Nm v (X v) (Y v) ((D) (v)) (K v) H.size (by omega) (by omega) (by omega) rfl rfl hw1 rfl) (dc_S 4 hts tw_239 tw_240 tw_4 tw_241 rfl rfl (by decide +kernel) ⟨Nat.le_of_ble_eq_true rfl, Nat.le_of_ble_eq_true rfl⟩) (dw_preS hG [0, 1, 2, 3, 4, 5, 6, 7] [0, 1] rfl rfl (by decide) rfl) rfl rfl hl.1 rfl (lv_room (Nat.le_of_ble_eq_true rfl)) dE_ask_63 ⟨Nat.le_refl _, Nat.le_refl _⟩) (fun r u H locs hp hG => ?_)
      subst hp
      have hG : dw_G (dC, dI) vwCl [(cI, .int), (cZ, .boolean)] A s.heap s [(e0, .inr (3, [.ref aD, .int (d1)])), (aD, .inl (cI, 24, .inl (db_dem (D) (X v) (db_askX (K v) (Nm v) (Zs (Y v)) (On (Y v)) ((D) (v)))))), (u0, .inr (1, [.ref aK, .ref aX, .ref aY, .ref aN, .ref aV, .ref aM, .int (nI (n)), .int (nI (R))])), (aK, .inl (cI, 24, .inl (fun w => nI (K w)))), (aX, .inl (cI, 24, .inl (fun w => nI (X w)))), (aY, .inl (cI, 24, .inl (fun w => nI (Y w)))), (aN, .inl (cI, 24, .inl (Nm))), (f0, .inr (2, [.ref aZ, .ref aO, .int (ch)])), (aZ, .inl (cI, 24, .inl (Zs))), (aO, .inl (cI, 24, .inl (On)))] H locs := hG
      refine dw_callv (wc := [(e0, .inr (3, [.ref aD, .int (d1)])), (aD, .inl (cI, 24, .inl (db_dem (D) (X v) (db_askX (K v) (Nm v) (Zs (Y v)) (On (Y v)) ((D) (v))))))]) (wr := [(u0, .inr (1, [.ref aK, .ref aX, .ref aY, .ref aN, .ref aV, .ref aM, .int (nI (n)), .int (nI (R))])), (aK, .inl (cI, 24, .inl (fun w => nI (K w)))), (aX, .inl (cI, 24, .inl (fun w => nI (X w)))), (aY, .inl (cI, 24, .inl (fun w => nI (Y w)))), (aN, .inl (cI, 24, .inl (Nm))), (f0, .inr (2, [.ref aZ, .ref aO, .int (ch)])), (aZ, .inl (cI, 24, .inl (Zs))), (aO, .inl (cI, 24, .inl (On)))]) hG [0, 1] [2, 3, 4, 5, 6, 7, 8, 9] rfl rfl (by decide) (by decide) (va_runV (As := [.int (nI (Y v)), .int (db_askY (K v) (Zs (X v)) (On (X v)) (Zs (Y v)) (On (Y v)) ((D) (v)))]) (rest := []) ⟨hx, hb, hml, hown, hts⟩ (ce_demand l dC dI cI cZ e0 aD (d1) (db_dem (D) (X v) (db_askX (K v) (Nm v) (Zs (Y v)) (On (Y v)) ((D) (v)))) (Y v) (db_askY (K v) (Zs (X v)) (On (X v)) (Zs (Y v)) (On (Y v)) ((D) (v))) H.size (by omega)) (dc_V 2 hts tw_217 tw_219 tp_E_demand tw_4 tw_220 rfl rfl (by decide +kernel) ⟨Nat.le_of_ble_eq_true rfl, Nat.le_of_ble_eq_true rfl⟩) (dw_preV (ci := 3) hG [0, 1] [0, 1] rfl rfl (by decide) rfl rfl (q0 := 0) rfl) rfl rfl hl.1 rfl (lv_room (Nat.le_of_ble_eq_true rfl)) dE_ask_66 ⟨Nat.le_refl _, Nat.le_refl _⟩) (fun d2 H locs hd2 hG => ?_)
      have hG : dw_G (dC, dI) vwCl [(cI, .int), (cZ, .boolean)] A s.heap s [(u0, .inr (1, [.ref aK, .ref aX, .ref aY, .ref aN, .ref aV, .ref aM, .int (nI (n)), .int (nI (R))])), (aK, .inl (cI, 24, .inl (fun w => nI (K w)))), (aX, .inl (cI, 24, .inl (fun w => nI (X w)))), (aY, .inl (cI, 24, .inl (fun w => nI (Y w)))), (aN, .inl (cI, 24, .inl (Nm))), (f0, .inr (2, [.ref aZ, .ref aO, .int (ch)])), (aZ, .inl (cI, 24, .inl (Zs))), (aO, .inl (cI, 24, .inl (On))), (e0, .inr (3, [.ref aD, .int (d2)])), (aD, .inl (cI, 24, .inl (db_dem (db_dem (D) (X v) (db_askX (K v) (Nm v) (Zs (Y v)) (On (Y v)) ((D) (v)))) (Y v) (db_askY (K v) (Zs (X v)) (On (X v)) (Zs (Y v)) (On (Y v)) ((D) (v))))))] H locs := hG
      subst hQ
      exact dw_vret hx hb hr (dw_perm hG [8, 9, 0, 1, 2, 3, 4, 5, 6, 7] (by decide) rfl rfl) (d2) rfl (db_dch_trans hd1 hd2) dE_ask_69 hlocks
    exact absurd rfl h18
  exact absurd h12 (by decide)

set_option maxRecDepth 100000 in
set_option maxHeartbeats 4000000 in
theorem ce_askX (l : Launch) (dC : Nat → ClassId) (dI : Nat → Nat → Nat) (cI cZ : ClassId) (e0 aD : Nat) (ec : Int32) (D : Nat → Int32) (f0 aZ aO : Nat) (ch : Int32) (Zs On : Nat → Int32) (u0 aK aX aY aN aV aM n R : Nat) (K X Y : Nat → Nat) (Nm : Nat → Int32) (v : Nat) (x9 : Nat) (sz : Nat) (hn : n ≤ 24) (hwf : db_wf n K X Y Nm) (hvn : v < n) (hx9 : x9 < n) : Met l yE_ask wsE_ask { frames := 3, cells := 0, slots := 0, locals := 100 } (va_Pc [.ref e0, .ref u0, .ref f0, .int (nI (x9)), .int (nI (v))] (dw_pre (dC, dI) vwCl [(e0, .inr (3, [.ref aD, .int (ec)])), (aD, .inl (cI, 24, .inl (D))), (u0, .inr (1, [.ref aK, .ref aX, .ref aY, .ref aN, .ref aV, .ref aM, .int (nI (n)), .int (nI (R))])), (aK, .inl (cI, 24, .inl (fun w => nI (K w)))), (aX, .inl (cI, 24, .inl (fun w => nI (X w)))), (aY, .inl (cI, 24, .inl (fun w => nI (Y w)))), (aN, .inl (cI, 24, .inl (Nm))), (f0, .inr (2, [.ref aZ, .ref aO, .int (ch)])), (aZ, .inl (cI, 24, .inl (Zs))), (aO, .inl (cI, 24, .inl (On)))] [(cI, .int), (cZ, .boolean)] sz)) (va_Qv (fun (u : Int32) => db_dch ec u D (db_dem D x9 (D v))) (fun u t => dw_post (dC, dI) vwCl [(e0, .inr (3, [.ref aD, .int (u)])), (aD, .inl (cI, 24, .inl (db_dem D x9 (D v)))), (u0, .inr (1, [.ref aK, .ref aX, .ref aY, .ref aN, .ref aV, .ref aM, .int (nI (n)), .int (nI (R))])), (aK, .inl (cI, 24, .inl (fun w => nI (K w)))), (aX, .inl (cI, 24, .inl (fun w => nI (X w)))), (aY, .inl (cI, 24, .inl (fun w => nI (Y w)))), (aN, .inl (cI, 24, .inl (Nm))), (f0, .inr (2, [.ref aZ, .ref aO, .int (ch)])), (aZ, .inl (cI, 24, .inl (Zs))), (aO, .inl (cI, 24, .inl (On)))] [(cI, .int), (cZ, .boolean)] (va_A [(e0, .inr (3, [.ref aD, .int (ec)])), (aD, .inl (cI, 24, .inl (D))), (u0, .inr (1, [.ref aK, .ref aX, .ref aY, .ref aN, .ref aV, .ref aM, .int (nI (n)), .int (nI (R))])), (aK, .inl (cI, 24, .inl (fun w => nI (K w)))), (aX, .inl (cI, 24, .inl (fun w => nI (X w)))), (aY, .inl (cI, 24, .inl (fun w => nI (Y w)))), (aN, .inl (cI, 24, .inl (Nm))), (f0, .inr (2, [.ref aZ, .ref aO, .int (ch)])), (aZ, .inl (cI, 24, .inl (Zs))), (aO, .inl (cI, 24, .inl (On)))] sz) t) (va_A [(e0, .inr (3, [.ref aD, .int (ec)])), (aD, .inl (cI, 24, .inl (D))), (u0, .inr (1, [.ref aK, .ref aX, .ref aY, .ref aN, .ref aV, .ref aM, .int (nI (n)), .int (nI (R))])), (aK, .inl (cI, 24, .inl (fun w => nI (K w)))), (aX, .inl (cI, 24, .inl (fun w => nI (X w)))), (aY, .inl (cI, 24, .inl (fun w => nI (Y w)))), (aN, .inl (cI, 24, .inl (Nm))), (f0, .inr (2, [.ref aZ, .ref aO, .int (ch)])), (aZ, .inl (cI, 24, .inl (Zs))), (aO, .inl (cI, 24, .inl (On)))] sz)) 0 0 (va_A [(e0, .inr (3, [.ref aD, .int (ec)])), (aD, .inl (cI, 24, .inl (D))), (u0, .inr (1, [.ref aK, .ref aX, .ref aY, .ref aN, .ref aV, .ref aM, .int (nI (n)), .int (nI (R))])), (aK, .inl (cI, 24, .inl (fun w => nI (K w)))), (aX, .inl (cI, 24, .inl (fun w => nI (X w)))), (aY, .inl (cI, 24, .inl (fun w => nI (Y w)))), (aN, .inl (cI, 24, .inl (Nm))), (f0, .inr (2, [.ref aZ, .ref aO, .int (ch)])), (aZ, .inl (cI, 24, .inl (Zs))), (aO, .inl (cI, 24, .inl (On)))] sz) := by
  refine Met.ofW (cc := cE_ask) (maxL := 6) (ret := none) (by decide) rfl ?_
  intro p e s m args below meth c s₁ B hml hv0
  have hx := B.exec
  have hb := B.bytes
  have hr := B.returns
  have hts := atoms_spec (ws := wsE_ask) B.pre
  have hown : s.vm.findClass RE = some m.cls := findClass_of_methodNamed B.named
  have hlocks := B.notSynchronized
  obtain ⟨rfl, hsz, hG⟩ := dw_enter hv0
  generalize va_A [(e0, .inr (3, [.ref aD, .int (ec)])), (aD, .inl (cI, 24, .inl (D))), (u0, .inr (1, [.ref aK, .ref aX, .ref aY, .ref aN, .ref aV, .ref aM, .int (nI (n)), .int (nI (R))])), (aK, .inl (cI, 24, .inl (fun w => nI (K w)))), (aX, .inl (cI, 24, .inl (fun w => nI (X w)))), (aY, .inl (cI, 24, .inl (fun w => nI (Y w)))), (aN, .inl (cI, 24, .inl (Nm))), (f0, .inr (2, [.ref aZ, .ref aO, .int (ch)])), (aZ, .inl (cI, 24, .inl (Zs))), (aO, .inl (cI, 24, .inl (On)))] sz = A at hG ⊢
  have hl := lv_entry ([.ref e0, .ref u0, .ref f0, .int (nI (x9)), .int (nI (v))]) (n := 6) (Nat.le_of_ble_eq_true rfl)
  rw [lg_entry_eq]
  generalize (lg_sl ([.ref e0, .ref u0, .ref f0, .int (nI (x9)), .int (nI (v))]) ++ List.replicate (6 - (lg_sl ([.ref e0, .ref u0, .ref f0, .int (nI (x9)), .int (nI (v))])).length) Slot.unset).toArray = ls at hl ⊢
  have hl : lv_has ls 6 [(0, .ref e0), (1, .ref u0), (2, .ref f0), (3, .int (nI (x9))), (4, .int (nI (v)))] := hl
  have hw109 := hts _ (List.mem_cons_of_mem _ tw_109)
  have hw1 : K v ≤ 13 := (hwf v hvn).1
  have hw2 := (hwf v hvn).2.1
  have hw3 := (hwf v hvn).2.2.1
  refine dw_Q (fun Q hQ => ?_)
  suffices hgo : ∀ (H : Heap) (locs : List Loc), dw_G (dC, dI) vwCl [(cI, .int), (cZ, .boolean)] A s.heap s [(e0, .inr (3, [.ref aD, .int (ec)])), (aD, .inl (cI, 24, .inl (D))), (u0, .inr (1, [.ref aK, .ref aX, .ref aY, .ref aN, .ref aV, .ref aM, .int (nI (n)), .int (nI (R))])), (aK, .inl (cI, 24, .inl (fun w => nI (K w)))), (aX, .inl (cI, 24, .inl (fun w => nI (X w)))), (aY, .inl (cI, 24, .inl (fun w => nI (Y w)))), (aN, .inl (cI, 24, .inl (Nm))), (f0, .inr (2, [.ref aZ, .ref aO, .int (ch)])), (aZ, .inl (cI, 24, .inl (Zs))), (aO, .inl (cI, 24, .inl (On)))] H locs → W p l e (headSpec wsE_ask { frames := 3, cells := 0, slots := 0, locals := 100 }).room s m [.ref e0, .ref u0, .ref f0, .int (nI (x9)), .int (nI (v))].toArray below meth c H locs 0 0 Q (F0 m 0 ls []) from hgo _ _ hG
  clear hG
  intro H locs hG
  refine lv_aload_n hx hb dE_ask_0 rfl (lv_at hl 0 rfl) ?_
  refine dw_get hx hb hts inEc hown hG 0 0 rfl rfl (by decide) hw109 rfl rfl dE_ask_1 ?_
  refine lv_iload hx hb dE_ask_4 (lv_at hl 4 rfl) ?_
  refine dw_ia (x := (D) (v)) hx hb hG 1 0 rfl rfl (v) rfl (by omega) (by decide) rfl dE_ask_6 ?_
  refine lv_istore (lv' := [(5, .int ((D) (v))), (0, .ref e0), (1, .ref u0), (2, .ref f0), (3, .int (nI (x9))), (4, .int (nI (v)))]) hx hb dE_ask_7 hl (by decide) rfl (fun ls hl => ?_)
  refine lv_iload_n hx hb dE_ask_9 rfl (lv_at hl 4 rfl) ?_
  refine lv_bipush (v := -2) hx hb dE_ask_10 (by decide) ?_
  refine lv_icmp_ne (tgt := 16) hx hb dE_ask_12 (by decide) (fun h12 => ?_) (fun h12 => ?_)
  · skip
    refine lv_iload_n hx hb dE_ask_16 rfl (lv_at hl 4 rfl) ?_
    refine lv_iconst (v := -1) hx hb dE_ask_17 (by decide) ?_
    refine lv_icmp_eq (tgt := 29) hx hb dE_ask_18 (by decide) (fun h18 => ?_) (fun h18 => ?_)
    · skip
      exact absurd h18 (fun q => nI_pos (n := x9) (by omega) (by rw [q]; decide))
    refine lv_aload_n hx hb dE_ask_21 rfl (lv_at hl 1 rfl) ?_
    refine lv_iload_n hx hb dE_ask_22 rfl (lv_at hl 4 rfl) ?_
    refine lv_iload hx hb dE_ask_23 (lv_at hl 0 rfl) ?_
    refine dw_callv (wc := [(e0, .inr (3, [.ref aD, .int (ec)])), (aD, .inl (cI, 24, .inl (D)))]) (wr := [(u0, .inr (1, [.ref aK, .ref aX, .ref aY, .ref aN, .ref aV, .ref aM, .int (nI (n)), .int (nI (R))])), (aK, .inl (cI, 24, .inl (fun w => nI (K w)))), (aX, .inl (cI, 24, .inl (fun w => nI (X w)))), (aY, .inl (cI, 24, .inl (fun w => nI (Y w)))), (aN, .inl (cI, 24, .inl (Nm))), (f0, .inr (2, [.ref aZ, .ref aO, .int (ch)])), (aZ, .inl (cI, 24, .inl (Zs))), (aO, .inl (cI, 24, .inl (On)))]) hG [0, 1] [2, 3, 4, 5, 6, 7, 8, 9] rfl rfl (by decide) (by decide) (va_runV (As := [.int (nI (x9)), .int ((D) (v))]) (rest := []) ⟨hx, hb, hml, hown, hts⟩ (ce_demand l dC dI cI cZ e0 aD (ec) (D) (x9) ((D) (v)) H.size (by omega)) (dc_V 2 hts tw_217 tw_219 tp_E_demand tw_4 tw_220 rfl rfl (by decide +kernel) ⟨Nat.le_of_ble_eq_true rfl, Nat.le_of_ble_eq_true rfl⟩) (dw_preV (ci := 3) hG [0, 1] [0, 1] rfl rfl (by decide) rfl rfl (q0 := 0) rfl) rfl rfl hl.1 rfl (lv_room (Nat.le_of_ble_eq_true rfl)) dE_ask_25 ⟨Nat.le_refl _, Nat.le_refl _⟩) (fun d3 H locs hd3 hG => ?_)
    have hG : dw_G (dC, dI) vwCl [(cI, .int), (cZ, .boolean)] A s.heap s [(u0, .inr (1, [.ref aK, .ref aX, .ref aY, .ref aN, .ref aV, .ref aM, .int (nI (n)), .int (nI (R))])), (aK, .inl (cI, 24, .inl (fun w => nI (K w)))), (aX, .inl (cI, 24, .inl (fun w => nI (X w)))), (aY, .inl (cI, 24, .inl (fun w => nI (Y w)))), (aN, .inl (cI, 24, .inl (Nm))), (f0, .inr (2, [.ref aZ, .ref aO, .int (ch)])), (aZ, .inl (cI, 24, .inl (Zs))), (aO, .inl (cI, 24, .inl (On))), (e0, .inr (3, [.ref aD, .int (d3)])), (aD, .inl (cI, 24, .inl (db_dem (D) (x9) ((D) (v)))))] H locs := hG
    subst hQ
    exact dw_vret hx hb hr (dw_perm hG [8, 9, 0, 1, 2, 3, 4, 5, 6, 7] (by decide) rfl rfl) (d3) rfl hd3 dE_ask_28 hlocks
  exact absurd h12 (fun q => nI_pos (n := x9) (by omega) (by rw [q]; decide))

set_option maxRecDepth 100000 in
theorem ce_ask (l : Launch) (dC : Nat → ClassId) (dI : Nat → Nat → Nat) (cI cZ : ClassId) (e0 aD : Nat) (ec : Int32) (D : Nat → Int32) (f0 aZ aO : Nat) (ch : Int32) (Zs On : Nat → Int32) (u0 aK aX aY aN aV aM n R : Nat) (K X Y : Nat → Nat) (Nm : Nat → Int32) (v : Nat) (Bw : Nat → Int32) (sz : Nat) (hn : n ≤ 24) (hwf : db_wf n K X Y Nm) (hvn : v < n) (hB : Bw v = -1 ∨ Bw v = -2 ∨ ∃ x, x < n ∧ Bw v = nI x) : Met l yE_ask wsE_ask { frames := 3, cells := 0, slots := 0, locals := 100 } (va_Pc [.ref e0, .ref u0, .ref f0, .int (Bw v), .int (nI (v))] (dw_pre (dC, dI) vwCl [(e0, .inr (3, [.ref aD, .int (ec)])), (aD, .inl (cI, 24, .inl (D))), (u0, .inr (1, [.ref aK, .ref aX, .ref aY, .ref aN, .ref aV, .ref aM, .int (nI (n)), .int (nI (R))])), (aK, .inl (cI, 24, .inl (fun w => nI (K w)))), (aX, .inl (cI, 24, .inl (fun w => nI (X w)))), (aY, .inl (cI, 24, .inl (fun w => nI (Y w)))), (aN, .inl (cI, 24, .inl (Nm))), (f0, .inr (2, [.ref aZ, .ref aO, .int (ch)])), (aZ, .inl (cI, 24, .inl (Zs))), (aO, .inl (cI, 24, .inl (On)))] [(cI, .int), (cZ, .boolean)] sz)) (va_Qv (fun (u : Int32) => db_dch ec u D (db_dst K X Y Nm (Zs, On) Bw v D)) (fun u t => dw_post (dC, dI) vwCl [(e0, .inr (3, [.ref aD, .int (u)])), (aD, .inl (cI, 24, .inl (db_dst K X Y Nm (Zs, On) Bw v D))), (u0, .inr (1, [.ref aK, .ref aX, .ref aY, .ref aN, .ref aV, .ref aM, .int (nI (n)), .int (nI (R))])), (aK, .inl (cI, 24, .inl (fun w => nI (K w)))), (aX, .inl (cI, 24, .inl (fun w => nI (X w)))), (aY, .inl (cI, 24, .inl (fun w => nI (Y w)))), (aN, .inl (cI, 24, .inl (Nm))), (f0, .inr (2, [.ref aZ, .ref aO, .int (ch)])), (aZ, .inl (cI, 24, .inl (Zs))), (aO, .inl (cI, 24, .inl (On)))] [(cI, .int), (cZ, .boolean)] (va_A [(e0, .inr (3, [.ref aD, .int (ec)])), (aD, .inl (cI, 24, .inl (D))), (u0, .inr (1, [.ref aK, .ref aX, .ref aY, .ref aN, .ref aV, .ref aM, .int (nI (n)), .int (nI (R))])), (aK, .inl (cI, 24, .inl (fun w => nI (K w)))), (aX, .inl (cI, 24, .inl (fun w => nI (X w)))), (aY, .inl (cI, 24, .inl (fun w => nI (Y w)))), (aN, .inl (cI, 24, .inl (Nm))), (f0, .inr (2, [.ref aZ, .ref aO, .int (ch)])), (aZ, .inl (cI, 24, .inl (Zs))), (aO, .inl (cI, 24, .inl (On)))] sz) t) (va_A [(e0, .inr (3, [.ref aD, .int (ec)])), (aD, .inl (cI, 24, .inl (D))), (u0, .inr (1, [.ref aK, .ref aX, .ref aY, .ref aN, .ref aV, .ref aM, .int (nI (n)), .int (nI (R))])), (aK, .inl (cI, 24, .inl (fun w => nI (K w)))), (aX, .inl (cI, 24, .inl (fun w => nI (X w)))), (aY, .inl (cI, 24, .inl (fun w => nI (Y w)))), (aN, .inl (cI, 24, .inl (Nm))), (f0, .inr (2, [.ref aZ, .ref aO, .int (ch)])), (aZ, .inl (cI, 24, .inl (Zs))), (aO, .inl (cI, 24, .inl (On)))] sz)) 0 0 (va_A [(e0, .inr (3, [.ref aD, .int (ec)])), (aD, .inl (cI, 24, .inl (D))), (u0, .inr (1, [.ref aK, .ref aX, .ref aY, .ref aN, .ref aV, .ref aM, .int (nI (n)), .int (nI (R))])), (aK, .inl (cI, 24, .inl (fun w => nI (K w)))), (aX, .inl (cI, 24, .inl (fun w => nI (X w)))), (aY, .inl (cI, 24, .inl (fun w => nI (Y w)))), (aN, .inl (cI, 24, .inl (Nm))), (f0, .inr (2, [.ref aZ, .ref aO, .int (ch)])), (aZ, .inl (cI, 24, .inl (Zs))), (aO, .inl (cI, 24, .inl (On)))] sz) := by
  rcases hB with e | e | ⟨x9, hx9, e⟩
  · rw [db_dst_N e, e]
    exact ce_askN l dC dI cI cZ e0 aD ec D f0 aZ aO ch Zs On u0 aK aX aY aN aV aM n R K X Y Nm v sz hn hwf hvn
  · rw [db_dst_F e, e]
    have z := ce_askF l dC dI cI cZ e0 aD ec D f0 aZ aO ch Zs On u0 aK aX aY aN aV aM n R K X Y Nm v sz hn hwf hvn
    refine dw_weaken_v z (fun u q => Or.inl ⟨rfl, q⟩)
  · rw [db_dst_X (by omega) e, e]
    exact ce_askX l dC dI cI cZ e0 aD ec D f0 aZ aO ch Zs On u0 aK aX aY aN aV aM n R K X Y Nm v x9 sz hn hwf hvn hx9

