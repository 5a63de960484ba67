set_option maxRecDepth 100000 in
set_option maxHeartbeats 4000000 in
theorem jd_fill (l : Launch) (dC : Nat → ClassId) (dI : Nat → Nat → Nat) (cI cZ : ClassId) (aG : Nat) (Gf : Nat → Int32) (x : Int32) (sz : Nat)  : Met l yA_fill wsA_fill { frames := 0, cells := 0, slots := 0, locals := 0 } (va_Pc [.ref aG, .int (x)] (dw_pre (dC, dI) vwCl [(aG, .inl (cI, 24, .inl (Gf)))] [(cI, .int), (cZ, .boolean)] sz)) (va_Qv (fun (u : Nat → Int32) => ∀ j, j < 24 → u j = x) (fun u t => dw_post (dC, dI) vwCl [(aG, .inl (cI, 24, .inl (u)))] [(cI, .int), (cZ, .boolean)] (va_A [(aG, .inl (cI, 24, .inl (Gf)))] sz) t) (va_A [(aG, .inl (cI, 24, .inl (Gf)))] sz)) 0 0 (va_A [(aG, .inl (cI, 24, .inl (Gf)))] sz) := by
  refine Met.ofW (cc := cA_fill) (maxL := 4) (ret := none) (by decide) rfl ?_
  intro p e s m args below meth c s₁ B hml hv0
  have hx := B.exec
  have hb := B.bytes
  have hr := B.returns
  have hts := atoms_spec (ws := wsA_fill) B.pre
  have hown : s.vm.findClass RA = some m.cls := findClass_of_methodNamed B.named
  have hlocks := B.notSynchronized
  obtain ⟨rfl, hsz, hG⟩ := dw_enter hv0
  generalize va_A [(aG, .inl (cI, 24, .inl (Gf)))] sz = A at hG ⊢
  have hl := lv_entry ([.ref aG, .int (x)]) (n := 4) (Nat.le_of_ble_eq_true rfl)
  rw [lg_entry_eq]
  generalize (lg_sl ([.ref aG, .int (x)]) ++ List.replicate (4 - (lg_sl ([.ref aG, .int (x)])).length) Slot.unset).toArray = ls at hl ⊢
  have hl : lv_has ls 4 [(0, .ref aG), (1, .int (x))] := hl
  refine dw_Q (fun Q hQ => ?_)
  suffices hgo : ∀ (H : Heap) (locs : List Loc), dw_G (dC, dI) vwCl [(cI, .int), (cZ, .boolean)] A s.heap s [(aG, .inl (cI, 24, .inl (Gf)))] H locs → W p l e (headSpec wsA_fill { frames := 0, cells := 0, slots := 0, locals := 0 }).room s m [.ref aG, .int (x)].toArray below meth c H locs 0 0 Q (F0 m 0 ls []) from hgo _ _ hG
  clear hG
  intro H locs hG
  refine lv_iconst (v := 0) hx hb dA_fill_0 (by decide) ?_
  refine lv_istore_n (lv' := [(2, .int (0)), (0, .ref aG), (1, .int (x))]) hx hb dA_fill_1 rfl hl (by decide) rfl (fun ls hl => ?_)
  refine lv_aload_n hx hb dA_fill_2 rfl (lv_at hl 1 rfl) ?_
  refine va_alen (v := 24) hx hb hG.1 hG.2.1 0 0 rfl rfl rfl dA_fill_3 ?_
  refine lv_istore_n (lv' := [(3, .int (24)), (2, .int (0)), (0, .ref aG), (1, .int (x))]) hx hb dA_fill_4 rfl hl (by decide) rfl (fun ls hl => ?_)
  have L5 : ∀ (zz : Nat) (j : Nat) (g : Nat → Int32) (ls : Array Slot) (H : Heap) (locs : List Loc), 24 - j < zz → j ≤ 24 → (∀ i, i < j → g i = x) → lv_has ls 4 [(0, .ref aG), (1, .int (x)), (2, .int (nI (j))), (3, .int (24))] → dw_G (dC, dI) vwCl [(cI, .int), (cZ, .boolean)] A s.heap s [(aG, .inl (cI, 24, .inl (g)))] H locs → W p l e (headSpec wsA_fill { frames := 0, cells := 0, slots := 0, locals := 0 }).room s m [.ref aG, .int (x)].toArray below meth c H locs 0 0 Q (F0 m 5 ls []) := by
    intro zz
    induction zz with
    | zero => intro j g ls H locs hz; exact absurd hz (Nat.not_lt_zero _)
    | succ zz L5_ih =>
      intro j g ls H locs hz hj hg hl hG
      refine lv_iload_n hx hb dA_fill_5 rfl (lv_at hl 2 rfl) ?_
      refine lv_iload_n hx hb dA_fill_6 rfl (lv_at hl 3 rfl) ?_
      refine lv_icmp_ge (tgt := 20) hx hb dA_fill_7 (by decide) (fun h7 => ?_) (fun h7 => ?_)
      · skip
        replace h7 := (nI_leI (a := 24) (b := j) (by omega) (by omega)).mp h7
        subst hQ
        exact dw_vret hx hb hr hG (g) rfl (fun i hi => hg i (by omega)) dA_fill_20 hlocks
      replace h7 : ¬ 24 ≤ j := fun hq0 => h7 ((nI_leI (a := 24) (b := j) (by omega) (by omega)).mpr hq0)
      refine lv_aload_n hx hb dA_fill_10 rfl (lv_at hl 0 rfl) ?_
      refine lv_iload_n hx hb dA_fill_11 rfl (lv_at hl 2 rfl) ?_
      refine lv_iload_n hx hb dA_fill_12 rfl (lv_at hl 1 rfl) ?_
      refine dw_is (ws' := [(aG, .inl (cI, 24, .inl (upd (g) (j) (x))))]) hx hb hG 0 0 rfl rfl (j) rfl (by omega) (by decide) dA_fill_13 rfl (fun H locs hG => ?_)
      refine lv_iinc (v := nI (j + 1)) (lv' := [(2, .int (nI (j + 1))), (0, .ref aG), (1, .int (x)), (3, .int (24))]) hx hb dA_fill_14 hl (k := 2) rfl (dw_inc (j)) (by decide) rfl (fun ls hl => ?_)
      refine lv_goto (tgt := 5) hx hb dA_fill_17 (by decide) ?_
      exact L5_ih (j + 1) (upd (g) (j) (x)) ls H locs (by omega) (by omega) (fun i hi => (Decidable.em (i = j)).elim (fun e => by rw [e, pk_us]) (fun e => by rw [pk_un e]; exact hg i (by omega))) (lv_sub hl [1, 2, 0, 3] rfl) hG
  exact L5 _ (0) (Gf) ls H locs (Nat.lt_succ_self _) (by omega) (fun i hi => by omega) (lv_sub hl [2, 3, 1, 0] rfl) hG

set_option maxRecDepth 100000 in
set_option maxHeartbeats 4000000 in
theorem ce_signIf (l : Launch) (dC : Nat → ClassId) (dI : Nat → Nat → Nat) (cI cZ : ClassId) (a b : Int32) (sz : Nat)  : Met l yE_signIf wsE_signIf { frames := 0, cells := 0, slots := 0, locals := 0 } (va_Pc [.int (a), .int (b)] (dw_pre (dC, dI) vwCl [] [(cI, .int), (cZ, .boolean)] sz)) (va_Qi (fun (r : Int32) (u : Unit) => r = db_sign a b) (fun u t => dw_post (dC, dI) vwCl [] [(cI, .int), (cZ, .boolean)] (va_A [] sz) t) (va_A [] sz)) 0 0 (va_A [] sz) := by
  refine Met.ofW (cc := cE_signIf) (maxL := 2) (ret := (some .int)) (by decide) rfl ?_
  intro p e s m args below meth c s₁ B hml hv0
  have hx := B.exec
  have hb := B.bytes
  have hr := B.returns
  have hts := atoms_spec (ws := wsE_signIf) B.pre
  have hown : s.vm.findClass RE = some m.cls := findClass_of_methodNamed B.named
  have hlocks := B.notSynchronized
  obtain ⟨rfl, hsz, hG⟩ := dw_enter hv0
  generalize va_A [] sz = A at hG ⊢
  have hl := lv_entry ([.int (a), .int (b)]) (n := 2) (Nat.le_of_ble_eq_true rfl)
  rw [lg_entry_eq]
  generalize (lg_sl ([.int (a), .int (b)]) ++ List.replicate (2 - (lg_sl ([.int (a), .int (b)])).length) Slot.unset).toArray = ls at hl ⊢
  have hl : lv_has ls 2 [(0, .int (a)), (1, .int (b))] := hl
  refine dw_Q (fun Q hQ => ?_)
  suffices hgo : ∀ (H : Heap) (locs : List Loc), dw_G (dC, dI) vwCl [(cI, .int), (cZ, .boolean)] A s.heap s [] H locs → W p l e (headSpec wsE_signIf { frames := 0, cells := 0, slots := 0, locals := 0 }).room s m [.int (a), .int (b)].toArray below meth c H locs 0 0 Q (F0 m 0 ls []) from hgo _ _ hG
  clear hG
  intro H locs hG
  refine lv_iload_n hx hb dE_signIf_0 rfl (lv_at hl 0 rfl) ?_
  refine lv_if_ne (tgt := 8) hx hb dE_signIf_1 (by decide) (fun h1 => ?_) (fun h1 => ?_)
  · skip
    refine lv_iconst (v := 1) hx hb dE_signIf_8 (by decide) ?_
    refine lv_iload_n hx hb dE_signIf_9 rfl (lv_at hl 1 rfl) ?_
    refine lv_ishl hx hb dE_signIf_10 ?_
    subst hQ
    exact dw_iret hx hb hr hG (()) rfl (if_neg h1).symm dE_signIf_11 hlocks
  refine lv_iconst (v := 0) hx hb dE_signIf_4 (by decide) ?_
  refine lv_goto (tgt := 11) hx hb dE_signIf_5 (by decide) ?_
  subst hQ
  exact dw_iret hx hb hr hG (()) rfl (if_pos h1).symm dE_signIf_11 hlocks

set_option maxRecDepth 100000 in
set_option maxHeartbeats 4000000 in
theorem ce_demand (l : Launch) (dC : Nat → ClassId) (dI : Nat → Nat → Nat) (cI cZ : ClassId) (e0 aD : Nat) (ec : Int32) (D : Nat → Int32) (v : Nat) (d : Int32) (sz : Nat) (hv : v < 24) : Met l yE_demand wsE_demand { frames := 0, cells := 0, slots := 0, locals := 0 } (va_Pc [.ref e0, .int (nI (v)), .int (d)] (dw_pre (dC, dI) vwCl [(e0, .inr (3, [.ref aD, .int (ec)])), (aD, .inl (cI, 24, .inl (D)))] [(cI, .int), (cZ, .boolean)] sz)) (va_Qv (fun (u : Int32) => db_dch ec u D (db_dem D v d)) (fun u t => dw_post (dC, dI) vwCl [(e0, .inr (3, [.ref aD, .int (u)])), (aD, .inl (cI, 24, .inl (db_dem D v d)))] [(cI, .int), (cZ, .boolean)] (va_A [(e0, .inr (3, [.ref aD, .int (ec)])), (aD, .inl (cI, 24, .inl (D)))] sz) t) (va_A [(e0, .inr (3, [.ref aD, .int (ec)])), (aD, .inl (cI, 24, .inl (D)))] sz)) 0 0 (va_A [(e0, .inr (3, [.ref aD, .int (ec)])), (aD, .inl (cI, 24, .inl (D)))] sz) := by
  refine Met.ofW (cc := cE_demand) (maxL := 4) (ret := none) (by decide) rfl ?_
  intro p e s m args below meth c s₁ B hml hv0
  have hx := B.exec
  have hb := B.bytes
  have hr := B.returns
  have hts := atoms_spec (ws := wsE_demand) B.pre
  have hown : s.vm.findClass RE = some m.cls := findClass_of_methodNamed B.named
  have hlocks := B.notSynchronized
  obtain ⟨rfl, hsz, hG⟩ := dw_enter hv0
  generalize va_A [(e0, .inr (3, [.ref aD, .int (ec)])), (aD, .inl (cI, 24, .inl (D)))] sz = A at hG ⊢
  have hl := lv_entry ([.ref e0, .int (nI (v)), .int (d)]) (n := 4) (Nat.le_of_ble_eq_true rfl)
  rw [lg_entry_eq]
  generalize (lg_sl ([.ref e0, .int (nI (v)), .int (d)]) ++ List.replicate (4 - (lg_sl ([.ref e0, .int (nI (v)), .int (d)])).length) Slot.unset).toArray = ls at hl ⊢
  have hl : lv_has ls 4 [(0, .ref e0), (1, .int (nI (v))), (2, .int (d))] := hl
  have hw109 := hts _ (List.mem_cons_of_mem _ tw_109)
  have hw111 := hts _ (List.mem_cons_of_mem _ tw_111)
  refine dw_Q (fun Q hQ => ?_)
  suffices hgo : ∀ (H : Heap) (locs : List Loc), dw_G (dC, dI) vwCl [(cI, .int), (cZ, .boolean)] A s.heap s [(e0, .inr (3, [.ref aD, .int (ec)])), (aD, .inl (cI, 24, .inl (D)))] H locs → W p l e (headSpec wsE_demand { frames := 0, cells := 0, slots := 0, locals := 0 }).room s m [.ref e0, .int (nI (v)), .int (d)].toArray below meth c H locs 0 0 Q (F0 m 0 ls []) from hgo _ _ hG
  clear hG
  intro H locs hG
  refine lv_aload_n hx hb dE_demand_0 rfl (lv_at hl 0 rfl) ?_
  refine dw_get hx hb hts inEc hown hG 0 0 rfl rfl (by decide) hw109 rfl rfl dE_demand_1 ?_
  refine lv_iload_n hx hb dE_demand_4 rfl (lv_at hl 1 rfl) ?_
  refine dw_ia (x := (D) (v)) hx hb hG 1 0 rfl rfl (v) rfl (by omega) (by decide) rfl dE_demand_5 ?_
  refine lv_iload_n hx hb dE_demand_6 rfl (lv_at hl 2 rfl) ?_
  refine lv_ior hx hb dE_demand_7 ?_
  refine lv_istore_n (lv' := [(3, .int (((D) (v)) ||| (d))), (0, .ref e0), (1, .int (nI (v))), (2, .int (d))]) hx hb dE_demand_8 rfl hl (by decide) rfl (fun ls hl => ?_)
  refine lv_iload_n hx hb dE_demand_9 rfl (lv_at hl 0 rfl) ?_
  refine lv_aload_n hx hb dE_demand_10 rfl (lv_at hl 1 rfl) ?_
  refine dw_get hx hb hts inEc hown hG 0 0 rfl rfl (by decide) hw109 rfl rfl dE_demand_11 ?_
  refine lv_iload_n hx hb dE_demand_14 rfl (lv_at hl 2 rfl) ?_
  refine dw_ia (x := (D) (v)) hx hb hG 1 0 rfl rfl (v) rfl (by omega) (by decide) rfl dE_demand_15 ?_
  refine lv_icmp_eq (tgt := 31) hx hb dE_demand_16 (by decide) (fun h16 => ?_) (fun h16 => ?_)
  · skip
    subst hQ
    exact dw_vret hx hb hr hG (ec) (by rw [db_dem_same h16]) (db_dch_same h16) dE_demand_31 hlocks
  refine lv_aload_n hx hb dE_demand_19 rfl (lv_at hl 1 rfl) ?_
  refine dw_get hx hb hts inEc hown hG 0 0 rfl rfl (by decide) hw109 rfl rfl dE_demand_20 ?_
  refine lv_iload_n hx hb dE_demand_23 rfl (lv_at hl 2 rfl) ?_
  refine lv_iload_n hx hb dE_demand_24 rfl (lv_at hl 0 rfl) ?_
  refine dw_is (ws' := [(e0, .inr (3, [.ref aD, .int (ec)])), (aD, .inl (cI, 24, .inl (upd (D) (v) (((D) (v)) ||| (d)))))]) hx hb hG 1 0 rfl rfl (v) rfl (by omega) (by decide) dE_demand_25 rfl (fun H locs hG => ?_)
  refine lv_aload_n hx hb dE_demand_26 rfl (lv_at hl 1 rfl) ?_
  refine lv_iconst (v := 1) hx hb dE_demand_27 (by decide) ?_
  refine dw_put (ws' := [(e0, .inr (3, [.ref aD, .int (1)])), (aD, .inl (cI, 24, .inl (upd (D) (v) (((D) (v)) ||| (d)))))]) hx hb hts inEc tyE tyE_ok nmE hown hG 0 1 rfl rfl (by decide) hw111 rfl rfl (ty := .boolean) (by decide +kernel) rfl rfl (Nat.le_of_ble_eq_true rfl) dE_demand_28 rfl (fun H locs hG => ?_)
  subst hQ
  exact dw_vret hx hb hr hG (1) rfl (db_dch_dem hv h16) dE_demand_31 hlocks

set_option maxRecDepth 100000 in
set_option maxHeartbeats 4000000 in
theorem ce_askedOfX0 (l : Launch) (dC : Nat → ClassId) (dI : Nat → Nat → Nat) (cI cZ : ClassId) (f0 aZ aO : Nat) (ch : Int32) (Zs On : Nat → Int32) (u0 aK aX aY aN aV aM n R : Nat) (Kf Xf Yf Nf : Nat → Int32) (v x y : Nat) (d : Int32) (sz : Nat) (hv : v < 24) (hx9 : x < 24) (hy9 : y < 24) (ex : Xf v = nI x) (ey : Yf v = nI y) (ek : Kf v = nI 0) : Met l yE_askedOfX wsE_askedOfX { frames := 2, cells := 0, slots := 0, locals := 60 } (va_Pc [.ref u0, .ref f0, .int (nI (v)), .int (d)] (dw_pre (dC, dI) vwCl [(u0, .inr (1, [.ref aK, .ref aX, .ref aY, .ref aN, .ref aV, .ref aM, .int (nI (n)), .int (nI (R))])), (aK, .inl (cI, 24, .inl (Kf))), (aX, .inl (cI, 24, .inl (Xf))), (aY, .inl (cI, 24, .inl (Yf))), (aN, .inl (cI, 24, .inl (Nf))), (f0, .inr (2, [.ref aZ, .ref aO, .int (ch)])), (aZ, .inl (cI, 24, .inl (Zs))), (aO, .inl (cI, 24, .inl (On)))] [(cI, .int), (cZ, .boolean)] sz)) (va_Qi (fun (r : Int32) (u : Unit) => r = db_askX 0 (Nf v) (Zs y) (On y) d) (fun u t => dw_post (dC, dI) vwCl [(u0, .inr (1, [.ref aK, .ref aX, .ref aY, .ref aN, .ref aV, .ref aM, .int (nI (n)), .int (nI (R))])), (aK, .inl (cI, 24, .inl (Kf))), (aX, .inl (cI, 24, .inl (Xf))), (aY, .inl (cI, 24, .inl (Yf))), (aN, .inl (cI, 24, .inl (Nf))), (f0, .inr (2, [.ref aZ, .ref aO, .int (ch)])), (aZ, .inl (cI, 24, .inl (Zs))), (aO, .inl (cI, 24, .inl (On)))] [(cI, .int), (cZ, .boolean)] (va_A [(u0, .inr (1, [.ref aK, .ref aX, .ref aY, .ref aN, .ref aV, .ref aM, .int (nI (n)), .int (nI (R))])), (aK, .inl (cI, 24, .inl (Kf))), (aX, .inl (cI, 24, .inl (Xf))), (aY, .inl (cI, 24, .inl (Yf))), (aN, .inl (cI, 24, .inl (Nf))), (f0, .inr (2, [.ref aZ, .ref aO, .int (ch)])), (aZ, .inl (cI, 24, .inl (Zs))), (aO, .inl (cI, 24, .inl (On)))] sz) t) (va_A [(u0, .inr (1, [.ref aK, .ref aX, .ref aY, .ref aN, .ref aV, .ref aM, .int (nI (n)), .int (nI (R))])), (aK, .inl (cI, 24, .inl (Kf))), (aX, .inl (cI, 24, .inl (Xf))), (aY, .inl (cI, 24, .inl (Yf))), (aN, .inl (cI, 24, .inl (Nf))), (f0, .inr (2, [.ref aZ, .ref aO, .int (ch)])), (aZ, .inl (cI, 24, .inl (Zs))), (aO, .inl (cI, 24, .inl (On)))] sz)) 0 0 (va_A [(u0, .inr (1, [.ref aK, .ref aX, .ref aY, .ref aN, .ref aV, .ref aM, .int (nI (n)), .int (nI (R))])), (aK, .inl (cI, 24, .inl (Kf))), (aX, .inl (cI, 24, .inl (Xf))), (aY, .inl (cI, 24, .inl (Yf))), (aN, .inl (cI, 24, .inl (Nf))), (f0, .inr (2, [.ref aZ, .ref aO, .int (ch)])), (aZ, .inl (cI, 24, .inl (Zs))), (aO, .inl (cI, 24, .inl (On)))] sz) := by
  refine Met.ofW (cc := cE_askedOfX) (maxL := 6) (ret := (some .int)) (by decide) rfl ?_
  intro p e s m args below meth c s₁ B hml hv0
  have hx := B.exec
  have hb := B.bytes
  have hr := B.returns
  have hts := atoms_spec (ws := wsE_askedOfX) B.pre
  have hown : s.vm.findClass RE = some m.cls := findClass_of_methodNamed B.named
  have hlocks := B.notSynchronized
  obtain ⟨rfl, hsz, hG⟩ := dw_enter hv0
  generalize va_A [(u0, .inr (1, [.ref aK, .ref aX, .ref aY, .ref aN, .ref aV, .ref aM, .int (nI (n)), .int (nI (R))])), (aK, .inl (cI, 24, .inl (Kf))), (aX, .inl (cI, 24, .inl (Xf))), (aY, .inl (cI, 24, .inl (Yf))), (aN, .inl (cI, 24, .inl (Nf))), (f0, .inr (2, [.ref aZ, .ref aO, .int (ch)])), (aZ, .inl (cI, 24, .inl (Zs))), (aO, .inl (cI, 24, .inl (On)))] sz = A at hG ⊢
  have hl := lv_entry ([.ref u0, .ref f0, .int (nI (v)), .int (d)]) (n := 6) (Nat.le_of_ble_eq_true rfl)
  rw [lg_entry_eq]
  generalize (lg_sl ([.ref u0, .ref f0, .int (nI (v)), .int (d)]) ++ List.replicate (6 - (lg_sl ([.ref u0, .ref f0, .int (nI (v)), .int (d)])).length) Slot.unset).toArray = ls at hl ⊢
  have hl : lv_has ls 6 [(0, .ref u0), (1, .ref f0), (2, .int (nI (v))), (3, .int (d))] := hl
  have hw42 := hts _ (List.mem_cons_of_mem _ tw_42)
  have hw47 := hts _ (List.mem_cons_of_mem _ tw_47)
  have hw33 := hts _ (List.mem_cons_of_mem _ tw_33)
  refine dw_Q (fun Q hQ => ?_)
  suffices hgo : ∀ (H : Heap) (locs : List Loc), dw_G (dC, dI) vwCl [(cI, .int), (cZ, .boolean)] A s.heap s [(u0, .inr (1, [.ref aK, .ref aX, .ref aY, .ref aN, .ref aV, .ref aM, .int (nI (n)), .int (nI (R))])), (aK, .inl (cI, 24, .inl (Kf))), (aX, .inl (cI, 24, .inl (Xf))), (aY, .inl (cI, 24, .inl (Yf))), (aN, .inl (cI, 24, .inl (Nf))), (f0, .inr (2, [.ref aZ, .ref aO, .int (ch)])), (aZ, .inl (cI, 24, .inl (Zs))), (aO, .inl (cI, 24, .inl (On)))] H locs → W p l e (headSpec wsE_askedOfX { frames := 2, cells := 0, slots := 0, locals := 60 }).room s m [.ref u0, .ref f0, .int (nI (v)), .int (d)].toArray below meth c H locs 0 0 Q (F0 m 0 ls []) from hgo _ _ hG
  clear hG
  intro H locs hG
  refine lv_aload_n hx hb dE_askedOfX_0 rfl (lv_at hl 0 rfl) ?_
  refine dw_get hx hb hts inUc hown hG 0 2 rfl rfl (by decide) hw42 rfl rfl dE_askedOfX_1 ?_
  refine lv_iload_n hx hb dE_askedOfX_4 rfl (lv_at hl 2 rfl) ?_
  refine dw_ia (x := nI (y)) hx hb hG 3 0 rfl rfl (v) rfl (by omega) (by decide) ey dE_askedOfX_5 ?_
  refine lv_istore (lv' := [(4, .int (nI (y))), (0, .ref u0), (1, .ref f0), (2, .int (nI (v))), (3, .int (d))]) hx hb dE_askedOfX_6 hl (by decide) rfl (fun ls hl => ?_)
  refine lv_aload_n hx hb dE_askedOfX_8 rfl (lv_at hl 1 rfl) ?_
  refine dw_get hx hb hts inUc hown hG 0 3 rfl rfl (by decide) hw47 rfl rfl dE_askedOfX_9 ?_
  refine lv_iload_n hx hb dE_askedOfX_12 rfl (lv_at hl 3 rfl) ?_
  refine dw_ia (x := (Nf) (v)) hx hb hG 4 0 rfl rfl (v) rfl (by omega) (by decide) rfl dE_askedOfX_13 ?_
  refine lv_istore (lv' := [(5, .int ((Nf) (v))), (4, .int (nI (y))), (0, .ref u0), (1, .ref f0), (2, .int (nI (v))), (3, .int (d))]) hx hb dE_askedOfX_14 hl (by decide) rfl (fun ls hl => ?_)
  refine lv_aload_n hx hb dE_askedOfX_16 rfl (lv_at hl 2 rfl) ?_
  refine dw_get hx hb hts inUc hown hG 0 0 rfl rfl (by decide) hw33 rfl rfl dE_askedOfX_17 ?_
  refine lv_iload_n hx hb dE_askedOfX_20 rfl (lv_at hl 4 rfl) ?_
  refine dw_ia (x := 0) hx hb hG 1 0 rfl rfl (v) rfl (by omega) (by decide) ek dE_askedOfX_21 ?_
  refine lv_tableIn (tgt := 92) hx hb dE_askedOfX_22 (by decide) (by decide) rfl (by decide) ?_
  refine lv_iload_n hx hb dE_askedOfX_92 rfl (lv_at hl 5 rfl) ?_
  refine dw_calli (wc := []) (wr := [(u0, .inr (1, [.ref aK, .ref aX, .ref aY, .ref aN, .ref aV, .ref aM, .int (nI (n)), .int (nI (R))])), (aK, .inl (cI, 24, .inl (Kf))), (aX, .inl (cI, 24, .inl (Xf))), (aY, .inl (cI, 24, .inl (Yf))), (aN, .inl (cI, 24, .inl (Nf))), (f0, .inr (2, [.ref aZ, .ref aO, .int (ch)])), (aZ, .inl (cI, 24, .inl (Zs))), (aO, .inl (cI, 24, .inl (On)))]) hG [] [0, 1, 2, 3, 4, 5, 6, 7] rfl rfl (by decide) (by decide) (va_runSN (As := [.int (d)]) (rest := []) ⟨hx, hb, hml, hown, hts⟩ (cb_upTo l dC dI cI cZ (d) H.size ) (dc_N 1 hts hG.2.2.2.2.2 5 rfl tw_229 tw_1 tw_230 rfl rfl (by decide +kernel) ⟨Nat.le_of_ble_eq_true rfl, Nat.le_of_ble_eq_true rfl⟩) (dw_preS hG [] [0, 1] rfl rfl (by decide) rfl) rfl rfl hl.1 rfl (lv_room (Nat.le_of_ble_eq_true rfl)) dE_askedOfX_93 ⟨Nat.le_refl _, Nat.le_refl _⟩) (fun r u H locs hp hG => ?_)
  subst hp
  have hG : dw_G (dC, dI) vwCl [(cI, .int), (cZ, .boolean)] A s.heap s [(u0, .inr (1, [.ref aK, .ref aX, .ref aY, .ref aN, .ref aV, .ref aM, .int (nI (n)), .int (nI (R))])), (aK, .inl (cI, 24, .inl (Kf))), (aX, .inl (cI, 24, .inl (Xf))), (aY, .inl (cI, 24, .inl (Yf))), (aN, .inl (cI, 24, .inl (Nf))), (f0, .inr (2, [.ref aZ, .ref aO, .int (ch)])), (aZ, .inl (cI, 24, .inl (Zs))), (aO, .inl (cI, 24, .inl (On)))] H locs := hG
  subst hQ
  exact dw_iret hx hb hr hG (()) rfl rfl dE_askedOfX_96 hlocks

set_option maxRecDepth 100000 in
set_option maxHeartbeats 4000000 in
theorem ce_askedOfX1 (l : Launch) (dC : Nat → ClassId) (dI : Nat → Nat → Nat) (cI cZ : ClassId) (f0 aZ aO : Nat) (ch : Int32) (Zs On : Nat → Int32) (u0 aK aX aY aN aV aM n R : Nat) (Kf Xf Yf Nf : Nat → Int32) (v x y : Nat) (d : Int32) (sz : Nat) (hv : v < 24) (hx9 : x < 24) (hy9 : y < 24) (ex : Xf v = nI x) (ey : Yf v = nI y) (ek : Kf v = nI 1) : Met l yE_askedOfX wsE_askedOfX { frames := 2, cells := 0, slots := 0, locals := 60 } (va_Pc [.ref u0, .ref f0, .int (nI (v)), .int (d)] (dw_pre (dC, dI) vwCl [(u0, .inr (1, [.ref aK, .ref aX, .ref aY, .ref aN, .ref aV, .ref aM, .int (nI (n)), .int (nI (R))])), (aK, .inl (cI, 24, .inl (Kf))), (aX, .inl (cI, 24, .inl (Xf))), (aY, .inl (cI, 24, .inl (Yf))), (aN, .inl (cI, 24, .inl (Nf))), (f0, .inr (2, [.ref aZ, .ref aO, .int (ch)])), (aZ, .inl (cI, 24, .inl (Zs))), (aO, .inl (cI, 24, .inl (On)))] [(cI, .int), (cZ, .boolean)] sz)) (va_Qi (fun (r : Int32) (u : Unit) => r = db_askX 1 (Nf v) (Zs y) (On y) d) (fun u t => dw_post (dC, dI) vwCl [(u0, .inr (1, [.ref aK, .ref aX, .ref aY, .ref aN, .ref aV, .ref aM, .int (nI (n)), .int (nI (R))])), (aK, .inl (cI, 24, .inl (Kf))), (aX, .inl (cI, 24, .inl (Xf))), (aY, .inl (cI, 24, .inl (Yf))), (aN, .inl (cI, 24, .inl (Nf))), (f0, .inr (2, [.ref aZ, .ref aO, .int (ch)])), (aZ, .inl (cI, 24, .inl (Zs))), (aO, .inl (cI, 24, .inl (On)))] [(cI, .int), (cZ, .boolean)] (va_A [(u0, .inr (1, [.ref aK, .ref aX, .ref aY, .ref aN, .ref aV, .ref aM, .int (nI (n)), .int (nI (R))])), (aK, .inl (cI, 24, .inl (Kf))), (aX, .inl (cI, 24, .inl (Xf))), (aY, .inl (cI, 24, .inl (Yf))), (aN, .inl (cI, 24, .inl (Nf))), (f0, .inr (2, [.ref aZ, .ref aO, .int (ch)])), (aZ, .inl (cI, 24, .inl (Zs))), (aO, .inl (cI, 24, .inl (On)))] sz) t) (va_A [(u0, .inr (1, [.ref aK, .ref aX, .ref aY, .ref aN, .ref aV, .ref aM, .int (nI (n)), .int (nI (R))])), (aK, .inl (cI, 24, .inl (Kf))), (aX, .inl (cI, 24, .inl (Xf))), (aY, .inl (cI, 24, .inl (Yf))), (aN, .inl (cI, 24, .inl (Nf))), (f0, .inr (2, [.ref aZ, .ref aO, .int (ch)])), (aZ, .inl (cI, 24, .inl (Zs))), (aO, .inl (cI, 24, .inl (On)))] sz)) 0 0 (va_A [(u0, .inr (1, [.ref aK, .ref aX, .ref aY, .ref aN, .ref aV, .ref aM, .int (nI (n)), .int (nI (R))])), (aK, .inl (cI, 24, .inl (Kf))), (aX, .inl (cI, 24, .inl (Xf))), (aY, .inl (cI, 24, .inl (Yf))), (aN, .inl (cI, 24, .inl (Nf))), (f0, .inr (2, [.ref aZ, .ref aO, .int (ch)])), (aZ, .inl (cI, 24, .inl (Zs))), (aO, .inl (cI, 24, .inl (On)))] sz) := by
  refine Met.ofW (cc := cE_askedOfX) (maxL := 6) (ret := (some .int)) (by decide) rfl ?_
  intro p e s m args below meth c s₁ B hml hv0
  have hx := B.exec
  have hb := B.bytes
  have hr := B.returns
  have hts := atoms_spec (ws := wsE_askedOfX) B.pre
  have hown : s.vm.findClass RE = some m.cls := findClass_of_methodNamed B.named
  have hlocks := B.notSynchronized
  obtain ⟨rfl, hsz, hG⟩ := dw_enter hv0
  generalize va_A [(u0, .inr (1, [.ref aK, .ref aX, .ref aY, .ref aN, .ref aV, .ref aM, .int (nI (n)), .int (nI (R))])), (aK, .inl (cI, 24, .inl (Kf))), (aX, .inl (cI, 24, .inl (Xf))), (aY, .inl (cI, 24, .inl (Yf))), (aN, .inl (cI, 24, .inl (Nf))), (f0, .inr (2, [.ref aZ, .ref aO, .int (ch)])), (aZ, .inl (cI, 24, .inl (Zs))), (aO, .inl (cI, 24, .inl (On)))] sz = A at hG ⊢
  have hl := lv_entry ([.ref u0, .ref f0, .int (nI (v)), .int (d)]) (n := 6) (Nat.le_of_ble_eq_true rfl)
  rw [lg_entry_eq]
  generalize (lg_sl ([.ref u0, .ref f0, .int (nI (v)), .int (d)]) ++ List.replicate (6 - (lg_sl ([.ref u0, .ref f0, .int (nI (v)), .int (d)])).length) Slot.unset).toArray = ls at hl ⊢
  have hl : lv_has ls 6 [(0, .ref u0), (1, .ref f0), (2, .int (nI (v))), (3, .int (d))] := hl
  have hw42 := hts _ (List.mem_cons_of_mem _ tw_42)
  have hw47 := hts _ (List.mem_cons_of_mem _ tw_47)
  have hw33 := hts _ (List.mem_cons_of_mem _ tw_33)
  refine dw_Q (fun Q hQ => ?_)
  suffices hgo : ∀ (H : Heap) (locs : List Loc), dw_G (dC, dI) vwCl [(cI, .int), (cZ, .boolean)] A s.heap s [(u0, .inr (1, [.ref aK, .ref aX, .ref aY, .ref aN, .ref aV, .ref aM, .int (nI (n)), .int (nI (R))])), (aK, .inl (cI, 24, .inl (Kf))), (aX, .inl (cI, 24, .inl (Xf))), (aY, .inl (cI, 24, .inl (Yf))), (aN, .inl (cI, 24, .inl (Nf))), (f0, .inr (2, [.ref aZ, .ref aO, .int (ch)])), (aZ, .inl (cI, 24, .inl (Zs))), (aO, .inl (cI, 24, .inl (On)))] H locs → W p l e (headSpec wsE_askedOfX { frames := 2, cells := 0, slots := 0, locals := 60 }).room s m [.ref u0, .ref f0, .int (nI (v)), .int (d)].toArray below meth c H locs 0 0 Q (F0 m 0 ls []) from hgo _ _ hG
  clear hG
  intro H locs hG
  refine lv_aload_n hx hb dE_askedOfX_0 rfl (lv_at hl 0 rfl) ?_
  refine dw_get hx hb hts inUc hown hG 0 2 rfl rfl (by decide) hw42 rfl rfl dE_askedOfX_1 ?_
  refine lv_iload_n hx hb dE_askedOfX_4 rfl (lv_at hl 2 rfl) ?_
  refine dw_ia (x := nI (y)) hx hb hG 3 0 rfl rfl (v) rfl (by omega) (by decide) ey dE_askedOfX_5 ?_
  refine lv_istore (lv' := [(4, .int (nI (y))), (0, .ref u0), (1, .ref f0), (2, .int (nI (v))), (3, .int (d))]) hx hb dE_askedOfX_6 hl (by decide) rfl (fun ls hl => ?_)
  refine lv_aload_n hx hb dE_askedOfX_8 rfl (lv_at hl 1 rfl) ?_
  refine dw_get hx hb hts inUc hown hG 0 3 rfl rfl (by decide) hw47 rfl rfl dE_askedOfX_9 ?_
  refine lv_iload_n hx hb dE_askedOfX_12 rfl (lv_at hl 3 rfl) ?_
  refine dw_ia (x := (Nf) (v)) hx hb hG 4 0 rfl rfl (v) rfl (by omega) (by decide) rfl dE_askedOfX_13 ?_
  refine lv_istore (lv' := [(5, .int ((Nf) (v))), (4, .int (nI (y))), (0, .ref u0), (1, .ref f0), (2, .int (nI (v))), (3, .int (d))]) hx hb dE_askedOfX_14 hl (by decide) rfl (fun ls hl => ?_)
  refine lv_aload_n hx hb dE_askedOfX_16 rfl (lv_at hl 2 rfl) ?_
  refine dw_get hx hb hts inUc hown hG 0 0 rfl rfl (by decide) hw33 rfl rfl dE_askedOfX_17 ?_
  refine lv_iload_n hx hb dE_askedOfX_20 rfl (lv_at hl 4 rfl) ?_
  refine dw_ia (x := 1) hx hb hG 1 0 rfl rfl (v) rfl (by omega) (by decide) ek dE_askedOfX_21 ?_
  refine lv_tableIn (tgt := 92) hx hb dE_askedOfX_22 (by decide) (by decide) rfl (by decide) ?_
  refine lv_iload_n hx hb dE_askedOfX_92 rfl (lv_at hl 5 rfl) ?_
  refine dw_calli (wc := []) (wr := [(u0, .inr (1, [.ref aK, .ref aX, .ref aY, .ref aN, .ref aV, .ref aM, .int (nI (n)), .int (nI (R))])), (aK, .inl (cI, 24, .inl (Kf))), (aX, .inl (cI, 24, .inl (Xf))), (aY, .inl (cI, 24, .inl (Yf))), (aN, .inl (cI, 24, .inl (Nf))), (f0, .inr (2, [.ref aZ, .ref aO, .int (ch)])), (aZ, .inl (cI, 24, .inl (Zs))), (aO, .inl (cI, 24, .inl (On)))]) hG [] [0, 1, 2, 3, 4, 5, 6, 7] rfl rfl (by decide) (by decide) (va_runSN (As := [.int (d)]) (rest := []) ⟨hx, hb, hml, hown, hts⟩ (cb_upTo l dC dI cI cZ (d) H.size ) (dc_N 1 hts hG.2.2.2.2.2 5 rfl tw_229 tw_1 tw_230 rfl rfl (by decide +kernel) ⟨Nat.le_of_ble_eq_true rfl, Nat.le_of_ble_eq_true rfl⟩) (dw_preS hG [] [0, 1] rfl rfl (by decide) rfl) rfl rfl hl.1 rfl (lv_room (Nat.le_of_ble_eq_true rfl)) dE_askedOfX_93 ⟨Nat.le_refl _, Nat.le_refl _⟩) (fun r u H locs hp hG => ?_)
  subst hp
  have hG : dw_G (dC, dI) vwCl [(cI, .int), (cZ, .boolean)] A s.heap s [(u0, .inr (1, [.ref aK, .ref aX, .ref aY, .ref aN, .ref aV, .ref aM, .int (nI (n)), .int (nI (R))])), (aK, .inl (cI, 24, .inl (Kf))), (aX, .inl (cI, 24, .inl (Xf))), (aY, .inl (cI, 24, .inl (Yf))), (aN, .inl (cI, 24, .inl (Nf))), (f0, .inr (2, [.ref aZ, .ref aO, .int (ch)])), (aZ, .inl (cI, 24, .inl (Zs))), (aO, .inl (cI, 24, .inl (On)))] H locs := hG
  subst hQ
  exact dw_iret hx hb hr hG (()) rfl rfl dE_askedOfX_96 hlocks

set_option maxRecDepth 100000 in
set_option maxHeartbeats 4000000 in
theorem ce_askedOfX2 (l : Launch) (dC : Nat → ClassId) (dI : Nat → Nat → Nat) (cI cZ : ClassId) (f0 aZ aO : Nat) (ch : Int32) (Zs On : Nat → Int32) (u0 aK aX aY aN aV aM n R : Nat) (Kf Xf Yf Nf : Nat → Int32) (v x y : Nat) (d : Int32) (sz : Nat) (hv : v < 24) (hx9 : x < 24) (hy9 : y < 24) (ex : Xf v = nI x) (ey : Yf v = nI y) (ek : Kf v = nI 2) : Met l yE_askedOfX wsE_askedOfX { frames := 2, cells := 0, slots := 0, locals := 60 } (va_Pc [.ref u0, .ref f0, .int (nI (v)), .int (d)] (dw_pre (dC, dI) vwCl [(u0, .inr (1, [.ref aK, .ref aX, .ref aY, .ref aN, .ref aV, .ref aM, .int (nI (n)), .int (nI (R))])), (aK, .inl (cI, 24, .inl (Kf))), (aX, .inl (cI, 24, .inl (Xf))), (aY, .inl (cI, 24, .inl (Yf))), (aN, .inl (cI, 24, .inl (Nf))), (f0, .inr (2, [.ref aZ, .ref aO, .int (ch)])), (aZ, .inl (cI, 24, .inl (Zs))), (aO, .inl (cI, 24, .inl (On)))] [(cI, .int), (cZ, .boolean)] sz)) (va_Qi (fun (r : Int32) (u : Unit) => r = db_askX 2 (Nf v) (Zs y) (On y) d) (fun u t => dw_post (dC, dI) vwCl [(u0, .inr (1, [.ref aK, .ref aX, .ref aY, .ref aN, .ref aV, .ref aM, .int (nI (n)), .int (nI (R))])), (aK, .inl (cI, 24, .inl (Kf))), (aX, .inl (cI, 24, .inl (Xf))), (aY, .inl (cI, 24, .inl (Yf))), (aN, .inl (cI, 24, .inl (Nf))), (f0, .inr (2, [.ref aZ, .ref aO, .int (ch)])), (aZ, .inl (cI, 24, .inl (Zs))), (aO, .inl (cI, 24, .inl (On)))] [(cI, .int), (cZ, .boolean)] (va_A [(u0, .inr (1, [.ref aK, .ref aX, .ref aY, .ref aN, .ref aV, .ref aM, .int (nI (n)), .int (nI (R))])), (aK, .inl (cI, 24, .inl (Kf))), (aX, .inl (cI, 24, .inl (Xf))), (aY, .inl (cI, 24, .inl (Yf))), (aN, .inl (cI, 24, .inl (Nf))), (f0, .inr (2, [.ref aZ, .ref aO, .int (ch)])), (aZ, .inl (cI, 24, .inl (Zs))), (aO, .inl (cI, 24, .inl (On)))] sz) t) (va_A [(u0, .inr (1, [.ref aK, .ref aX, .ref aY, .ref aN, .ref aV, .ref aM, .int (nI (n)), .int (nI (R))])), (aK, .inl (cI, 24, .inl (Kf))), (aX, .inl (cI, 24, .inl (Xf))), (aY, .inl (cI, 24, .inl (Yf))), (aN, .inl (cI, 24, .inl (Nf))), (f0, .inr (2, [.ref aZ, .ref aO, .int (ch)])), (aZ, .inl (cI, 24, .inl (Zs))), (aO, .inl (cI, 24, .inl (On)))] sz)) 0 0 (va_A [(u0, .inr (1, [.ref aK, .ref aX, .ref aY, .ref aN, .ref aV, .ref aM, .int (nI (n)), .int (nI (R))])), (aK, .inl (cI, 24, .inl (Kf))), (aX, .inl (cI, 24, .inl (Xf))), (aY, .inl (cI, 24, .inl (Yf))), (aN, .inl (cI, 24, .inl (Nf))), (f0, .inr (2, [.ref aZ, .ref aO, .int (ch)])), (aZ, .inl (cI, 24, .inl (Zs))), (aO, .inl (cI, 24, .inl (On)))] sz) := by
  refine Met.ofW (cc := cE_askedOfX) (maxL := 6) (ret := (some .int)) (by decide) rfl ?_
  intro p e s m args below meth c s₁ B hml hv0
  have hx := B.exec
  have hb := B.bytes
  have hr := B.returns
  have hts := atoms_spec (ws := wsE_askedOfX) B.pre
  have hown : s.vm.findClass RE = some m.cls := findClass_of_methodNamed B.named
  have hlocks := B.notSynchronized
  obtain ⟨rfl, hsz, hG⟩ := dw_enter hv0
  generalize va_A [(u0, .inr (1, [.ref aK, .ref aX, .ref aY, .ref aN, .ref aV, .ref aM, .int (nI (n)), .int (nI (R))])), (aK, .inl (cI, 24, .inl (Kf))), (aX, .inl (cI, 24, .inl (Xf))), (aY, .inl (cI, 24, .inl (Yf))), (aN, .inl (cI, 24, .inl (Nf))), (f0, .inr (2, [.ref aZ, .ref aO, .int (ch)])), (aZ, .inl (cI, 24, .inl (Zs))), (aO, .inl (cI, 24, .inl (On)))] sz = A at hG ⊢
  have hl := lv_entry ([.ref u0, .ref f0, .int (nI (v)), .int (d)]) (n := 6) (Nat.le_of_ble_eq_true rfl)
  rw [lg_entry_eq]
  generalize (lg_sl ([.ref u0, .ref f0, .int (nI (v)), .int (d)]) ++ List.replicate (6 - (lg_sl ([.ref u0, .ref f0, .int (nI (v)), .int (d)])).length) Slot.unset).toArray = ls at hl ⊢
  have hl : lv_has ls 6 [(0, .ref u0), (1, .ref f0), (2, .int (nI (v))), (3, .int (d))] := hl
  have hw42 := hts _ (List.mem_cons_of_mem _ tw_42)
  have hw47 := hts _ (List.mem_cons_of_mem _ tw_47)
  have hw33 := hts _ (List.mem_cons_of_mem _ tw_33)
  refine dw_Q (fun Q hQ => ?_)
  suffices hgo : ∀ (H : Heap) (locs : List Loc), dw_G (dC, dI) vwCl [(cI, .int), (cZ, .boolean)] A s.heap s [(u0, .inr (1, [.ref aK, .ref aX, .ref aY, .ref aN, .ref aV, .ref aM, .int (nI (n)), .int (nI (R))])), (aK, .inl (cI, 24, .inl (Kf))), (aX, .inl (cI, 24, .inl (Xf))), (aY, .inl (cI, 24, .inl (Yf))), (aN, .inl (cI, 24, .inl (Nf))), (f0, .inr (2, [.ref aZ, .ref aO, .int (ch)])), (aZ, .inl (cI, 24, .inl (Zs))), (aO, .inl (cI, 24, .inl (On)))] H locs → W p l e (headSpec wsE_askedOfX { frames := 2, cells := 0, slots := 0, locals := 60 }).room s m [.ref u0, .ref f0, .int (nI (v)), .int (d)].toArray below meth c H locs 0 0 Q (F0 m 0 ls []) from hgo _ _ hG
  clear hG
  intro H locs hG
  refine lv_aload_n hx hb dE_askedOfX_0 rfl (lv_at hl 0 rfl) ?_
  refine dw_get hx hb hts inUc hown hG 0 2 rfl rfl (by decide) hw42 rfl rfl dE_askedOfX_1 ?_
  refine lv_iload_n hx hb dE_askedOfX_4 rfl (lv_at hl 2 rfl) ?_
  refine dw_ia (x := nI (y)) hx hb hG 3 0 rfl rfl (v) rfl (by omega) (by decide) ey dE_askedOfX_5 ?_
  refine lv_istore (lv' := [(4, .int (nI (y))), (0, .ref u0), (1, .ref f0), (2, .int (nI (v))), (3, .int (d))]) hx hb dE_askedOfX_6 hl (by decide) rfl (fun ls hl => ?_)
  refine lv_aload_n hx hb dE_askedOfX_8 rfl (lv_at hl 1 rfl) ?_
  refine dw_get hx hb hts inUc hown hG 0 3 rfl rfl (by decide) hw47 rfl rfl dE_askedOfX_9 ?_
  refine lv_iload_n hx hb dE_askedOfX_12 rfl (lv_at hl 3 rfl) ?_
  refine dw_ia (x := (Nf) (v)) hx hb hG 4 0 rfl rfl (v) rfl (by omega) (by decide) rfl dE_askedOfX_13 ?_
  refine lv_istore (lv' := [(5, .int ((Nf) (v))), (4, .int (nI (y))), (0, .ref u0), (1, .ref f0), (2, .int (nI (v))), (3, .int (d))]) hx hb dE_askedOfX_14 hl (by decide) rfl (fun ls hl => ?_)
  refine lv_aload_n hx hb dE_askedOfX_16 rfl (lv_at hl 2 rfl) ?_
  refine dw_get hx hb hts inUc hown hG 0 0 rfl rfl (by decide) hw33 rfl rfl dE_askedOfX_17 ?_
  refine lv_iload_n hx hb dE_askedOfX_20 rfl (lv_at hl 4 rfl) ?_
  refine dw_ia (x := 2) hx hb hG 1 0 rfl rfl (v) rfl (by omega) (by decide) ek dE_askedOfX_21 ?_
  refine lv_tableIn (tgt := 92) hx hb dE_askedOfX_22 (by decide) (by decide) rfl (by decide) ?_
  refine lv_iload_n hx hb dE_askedOfX_92 rfl (lv_at hl 5 rfl) ?_
  refine dw_calli (wc := []) (wr := [(u0, .inr (1, [.ref aK, .ref aX, .ref aY, .ref aN, .ref aV, .ref aM, .int (nI (n)), .int (nI (R))])), (aK, .inl (cI, 24, .inl (Kf))), (aX, .inl (cI, 24, .inl (Xf))), (aY, .inl (cI, 24, .inl (Yf))), (aN, .inl (cI, 24, .inl (Nf))), (f0, .inr (2, [.ref aZ, .ref aO, .int (ch)])), (aZ, .inl (cI, 24, .inl (Zs))), (aO, .inl (cI, 24, .inl (On)))]) hG [] [0, 1, 2, 3, 4, 5, 6, 7] rfl rfl (by decide) (by decide) (va_runSN (As := [.int (d)]) (rest := []) ⟨hx, hb, hml, hown, hts⟩ (cb_upTo l dC dI cI cZ (d) H.size ) (dc_N 1 hts hG.2.2.2.2.2 5 rfl tw_229 tw_1 tw_230 rfl rfl (by decide +kernel) ⟨Nat.le_of_ble_eq_true rfl, Nat.le_of_ble_eq_true rfl⟩) (dw_preS hG [] [0, 1] rfl rfl (by decide) rfl) rfl rfl hl.1 rfl (lv_room (Nat.le_of_ble_eq_true rfl)) dE_askedOfX_93 ⟨Nat.le_refl _, Nat.le_refl _⟩) (fun r u H locs hp hG => ?_)
  subst hp
  have hG : dw_G (dC, dI) vwCl [(cI, .int), (cZ, .boolean)] A s.heap s [(u0, .inr (1, [.ref aK, .ref aX, .ref aY, .ref aN, .ref aV, .ref aM, .int (nI (n)), .int (nI (R))])), (aK, .inl (cI, 24, .inl (Kf))), (aX, .inl (cI, 24, .inl (Xf))), (aY, .inl (cI, 24, .inl (Yf))), (aN, .inl (cI, 24, .inl (Nf))), (f0, .inr (2, [.ref aZ, .ref aO, .int (ch)])), (aZ, .inl (cI, 24, .inl (Zs))), (aO, .inl (cI, 24, .inl (On)))] H locs := hG
  subst hQ
  exact dw_iret hx hb hr hG (()) rfl rfl dE_askedOfX_96 hlocks

set_option maxRecDepth 100000 in
set_option maxHeartbeats 4000000 in
theorem ce_askedOfX3 (l : Launch) (dC : Nat → ClassId) (dI : Nat → Nat → Nat) (cI cZ : ClassId) (f0 aZ aO : Nat) (ch : Int32) (Zs On : Nat → Int32) (u0 aK aX aY aN aV aM n R : Nat) (Kf Xf Yf Nf : Nat → Int32) (v x y : Nat) (d : Int32) (sz : Nat) (hv : v < 24) (hx9 : x < 24) (hy9 : y < 24) (ex : Xf v = nI x) (ey : Yf v = nI y) (ek : Kf v = nI 3) : Met l yE_askedOfX wsE_askedOfX { frames := 2, cells := 0, slots := 0, locals := 60 } (va_Pc [.ref u0, .ref f0, .int (nI (v)), .int (d)] (dw_pre (dC, dI) vwCl [(u0, .inr (1, [.ref aK, .ref aX, .ref aY, .ref aN, .ref aV, .ref aM, .int (nI (n)), .int (nI (R))])), (aK, .inl (cI, 24, .inl (Kf))), (aX, .inl (cI, 24, .inl (Xf))), (aY, .inl (cI, 24, .inl (Yf))), (aN, .inl (cI, 24, .inl (Nf))), (f0, .inr (2, [.ref aZ, .ref aO, .int (ch)])), (aZ, .inl (cI, 24, .inl (Zs))), (aO, .inl (cI, 24, .inl (On)))] [(cI, .int), (cZ, .boolean)] sz)) (va_Qi (fun (r : Int32) (u : Unit) => r = db_askX 3 (Nf v) (Zs y) (On y) d) (fun u t => dw_post (dC, dI) vwCl [(u0, .inr (1, [.ref aK, .ref aX, .ref aY, .ref aN, .ref aV, .ref aM, .int (nI (n)), .int (nI (R))])), (aK, .inl (cI, 24, .inl (Kf))), (aX, .inl (cI, 24, .inl (Xf))), (aY, .inl (cI, 24, .inl (Yf))), (aN, .inl (cI, 24, .inl (Nf))), (f0, .inr (2, [.ref aZ, .ref aO, .int (ch)])), (aZ, .inl (cI, 24, .inl (Zs))), (aO, .inl (cI, 24, .inl (On)))] [(cI, .int), (cZ, .boolean)] (va_A [(u0, .inr (1, [.ref aK, .ref aX, .ref aY, .ref aN, .ref aV, .ref aM, .int (nI (n)), .int (nI (R))])), (aK, .inl (cI, 24, .inl (Kf))), (aX, .inl (cI, 24, .inl (Xf))), (aY, .inl (cI, 24, .inl (Yf))), (aN, .inl (cI, 24, .inl (Nf))), (f0, .inr (2, [.ref aZ, .ref aO, .int (ch)])), (aZ, .inl (cI, 24, .inl (Zs))), (aO, .inl (cI, 24, .inl (On)))] sz) t) (va_A [(u0, .inr (1, [.ref aK, .ref aX, .ref aY, .ref aN, .ref aV, .ref aM, .int (nI (n)), .int (nI (R))])), (aK, .inl (cI, 24, .inl (Kf))), (aX, .inl (cI, 24, .inl (Xf))), (aY, .inl (cI, 24, .inl (Yf))), (aN, .inl (cI, 24, .inl (Nf))), (f0, .inr (2, [.ref aZ, .ref aO, .int (ch)])), (aZ, .inl (cI, 24, .inl (Zs))), (aO, .inl (cI, 24, .inl (On)))] sz)) 0 0 (va_A [(u0, .inr (1, [.ref aK, .ref aX, .ref aY, .ref aN, .ref aV, .ref aM, .int (nI (n)), .int (nI (R))])), (aK, .inl (cI, 24, .inl (Kf))), (aX, .inl (cI, 24, .inl (Xf))), (aY, .inl (cI, 24, .inl (Yf))), (aN, .inl (cI, 24, .inl (Nf))), (f0, .inr (2, [.ref aZ, .ref aO, .int (ch)])), (aZ, .inl (cI, 24, .inl (Zs))), (aO, .inl (cI, 24, .inl (On)))] sz) := by
  refine Met.ofW (cc := cE_askedOfX) (maxL := 6) (ret := (some .int)) (by decide) rfl ?_
  intro p e s m args below meth c s₁ B hml hv0
  have hx := B.exec
  have hb := B.bytes
  have hr := B.returns
  have hts := atoms_spec (ws := wsE_askedOfX) B.pre
  have hown : s.vm.findClass RE = some m.cls := findClass_of_methodNamed B.named
  have hlocks := B.notSynchronized
  obtain ⟨rfl, hsz, hG⟩ := dw_enter hv0
  generalize va_A [(u0, .inr (1, [.ref aK, .ref aX, .ref aY, .ref aN, .ref aV, .ref aM, .int (nI (n)), .int (nI (R))])), (aK, .inl (cI, 24, .inl (Kf))), (aX, .inl (cI, 24, .inl (Xf))), (aY, .inl (cI, 24, .inl (Yf))), (aN, .inl (cI, 24, .inl (Nf))), (f0, .inr (2, [.ref aZ, .ref aO, .int (ch)])), (aZ, .inl (cI, 24, .inl (Zs))), (aO, .inl (cI, 24, .inl (On)))] sz = A at hG ⊢
  have hl := lv_entry ([.ref u0, .ref f0, .int (nI (v)), .int (d)]) (n := 6) (Nat.le_of_ble_eq_true rfl)
  rw [lg_entry_eq]
  generalize (lg_sl ([.ref u0, .ref f0, .int (nI (v)), .int (d)]) ++ List.replicate (6 - (lg_sl ([.ref u0, .ref f0, .int (nI (v)), .int (d)])).length) Slot.unset).toArray = ls at hl ⊢
  have hl : lv_has ls 6 [(0, .ref u0), (1, .ref f0), (2, .int (nI (v))), (3, .int (d))] := hl
  have hw42 := hts _ (List.mem_cons_of_mem _ tw_42)
  have hw47 := hts _ (List.mem_cons_of_mem _ tw_47)
  have hw33 := hts _ (List.mem_cons_of_mem _ tw_33)
  have hw90 := hts _ (List.mem_cons_of_mem _ tw_90)
  refine dw_Q (fun Q hQ => ?_)
  suffices hgo : ∀ (H : Heap) (locs : List Loc), dw_G (dC, dI) vwCl [(cI, .int), (cZ, .boolean)] A s.heap s [(u0, .inr (1, [.ref aK, .ref aX, .ref aY, .ref aN, .ref aV, .ref aM, .int (nI (n)), .int (nI (R))])), (aK, .inl (cI, 24, .inl (Kf))), (aX, .inl (cI, 24, .inl (Xf))), (aY, .inl (cI, 24, .inl (Yf))), (aN, .inl (cI, 24, .inl (Nf))), (f0, .inr (2, [.ref aZ, .ref aO, .int (ch)])), (aZ, .inl (cI, 24, .inl (Zs))), (aO, .inl (cI, 24, .inl (On)))] H locs → W p l e (headSpec wsE_askedOfX { frames := 2, cells := 0, slots := 0, locals := 60 }).room s m [.ref u0, .ref f0, .int (nI (v)), .int (d)].toArray below meth c H locs 0 0 Q (F0 m 0 ls []) from hgo _ _ hG
  clear hG
  intro H locs hG
  refine lv_aload_n hx hb dE_askedOfX_0 rfl (lv_at hl 0 rfl) ?_
  refine dw_get hx hb hts inUc hown hG 0 2 rfl rfl (by decide) hw42 rfl rfl dE_askedOfX_1 ?_
  refine lv_iload_n hx hb dE_askedOfX_4 rfl (lv_at hl 2 rfl) ?_
  refine dw_ia (x := nI (y)) hx hb hG 3 0 rfl rfl (v) rfl (by omega) (by decide) ey dE_askedOfX_5 ?_
  refine lv_istore (lv' := [(4, .int (nI (y))), (0, .ref u0), (1, .ref f0), (2, .int (nI (v))), (3, .int (d))]) hx hb dE_askedOfX_6 hl (by decide) rfl (fun ls hl => ?_)
  refine lv_aload_n hx hb dE_askedOfX_8 rfl (lv_at hl 1 rfl) ?_
  refine dw_get hx hb hts inUc hown hG 0 3 rfl rfl (by decide) hw47 rfl rfl dE_askedOfX_9 ?_
  refine lv_iload_n hx hb dE_askedOfX_12 rfl (lv_at hl 3 rfl) ?_
  refine dw_ia (x := (Nf) (v)) hx hb hG 4 0 rfl rfl (v) rfl (by omega) (by decide) rfl dE_askedOfX_13 ?_
  refine lv_istore (lv' := [(5, .int ((Nf) (v))), (4, .int (nI (y))), (0, .ref u0), (1, .ref f0), (2, .int (nI (v))), (3, .int (d))]) hx hb dE_askedOfX_14 hl (by decide) rfl (fun ls hl => ?_)
  refine lv_aload_n hx hb dE_askedOfX_16 rfl (lv_at hl 2 rfl) ?_
  refine dw_get hx hb hts inUc hown hG 0 0 rfl rfl (by decide) hw33 rfl rfl dE_askedOfX_17 ?_
  refine lv_iload_n hx hb dE_askedOfX_20 rfl (lv_at hl 4 rfl) ?_
  refine dw_ia (x := 3) hx hb hG 1 0 rfl rfl (v) rfl (by omega) (by decide) ek dE_askedOfX_21 ?_
  refine lv_tableIn (tgt := 97) hx hb dE_askedOfX_22 (by decide) (by decide) rfl (by decide) ?_
  refine lv_iload_n hx hb dE_askedOfX_97 rfl (lv_at hl 5 rfl) ?_
  refine lv_aload_n hx hb dE_askedOfX_98 rfl (lv_at hl 3 rfl) ?_
  refine dw_get hx hb hts inFc hown hG 5 0 rfl rfl (by decide) hw90 rfl rfl dE_askedOfX_99 ?_
  refine lv_iload hx hb dE_askedOfX_102 (lv_at hl 1 rfl) ?_
  refine dw_ia (x := (Zs) (y)) hx hb hG 6 0 rfl rfl (y) rfl (by omega) (by decide) rfl dE_askedOfX_104 ?_
  refine lv_iconst (v := -1) hx hb dE_askedOfX_105 (by decide) ?_
  refine lv_ixor hx hb dE_askedOfX_106 ?_
  refine lv_iand hx hb dE_askedOfX_107 ?_
  subst hQ
  exact dw_iret hx hb hr hG (()) rfl rfl dE_askedOfX_108 hlocks

set_option maxRecDepth 100000 in
set_option maxHeartbeats 4000000 in
theorem ce_askedOfX4 (l : Launch) (dC : Nat → ClassId) (dI : Nat → Nat → Nat) (cI cZ : ClassId) (f0 aZ aO : Nat) (ch : Int32) (Zs On : Nat → Int32) (u0 aK aX aY aN aV aM n R : Nat) (Kf Xf Yf Nf : Nat → Int32) (v x y : Nat) (d : Int32) (sz : Nat) (hv : v < 24) (hx9 : x < 24) (hy9 : y < 24) (ex : Xf v = nI x) (ey : Yf v = nI y) (ek : Kf v = nI 4) : Met l yE_askedOfX wsE_askedOfX { frames := 2, cells := 0, slots := 0, locals := 60 } (va_Pc [.ref u0, .ref f0, .int (nI (v)), .int (d)] (dw_pre (dC, dI) vwCl [(u0, .inr (1, [.ref aK, .ref aX, .ref aY, .ref aN, .ref aV, .ref aM, .int (nI (n)), .int (nI (R))])), (aK, .inl (cI, 24, .inl (Kf))), (aX, .inl (cI, 24, .inl (Xf))), (aY, .inl (cI, 24, .inl (Yf))), (aN, .inl (cI, 24, .inl (Nf))), (f0, .inr (2, [.ref aZ, .ref aO, .int (ch)])), (aZ, .inl (cI, 24, .inl (Zs))), (aO, .inl (cI, 24, .inl (On)))] [(cI, .int), (cZ, .boolean)] sz)) (va_Qi (fun (r : Int32) (u : Unit) => r = db_askX 4 (Nf v) (Zs y) (On y) d) (fun u t => dw_post (dC, dI) vwCl [(u0, .inr (1, [.ref aK, .ref aX, .ref aY, .ref aN, .ref aV, .ref aM, .int (nI (n)), .int (nI (R))])), (aK, .inl (cI, 24, .inl (Kf))), (aX, .inl (cI, 24, .inl (Xf))), (aY, .inl (cI, 24, .inl (Yf))), (aN, .inl (cI, 24, .inl (Nf))), (f0, .inr (2, [.ref aZ, .ref aO, .int (ch)])), (aZ, .inl (cI, 24, .inl (Zs))), (aO, .inl (cI, 24, .inl (On)))] [(cI, .int), (cZ, .boolean)] (va_A [(u0, .inr (1, [.ref aK, .ref aX, .ref aY, .ref aN, .ref aV, .ref aM, .int (nI (n)), .int (nI (R))])), (aK, .inl (cI, 24, .inl (Kf))), (aX, .inl (cI, 24, .inl (Xf))), (aY, .inl (cI, 24, .inl (Yf))), (aN, .inl (cI, 24, .inl (Nf))), (f0, .inr (2, [.ref aZ, .ref aO, .int (ch)])), (aZ, .inl (cI, 24, .inl (Zs))), (aO, .inl (cI, 24, .inl (On)))] sz) t) (va_A [(u0, .inr (1, [.ref aK, .ref aX, .ref aY, .ref aN, .ref aV, .ref aM, .int (nI (n)), .int (nI (R))])), (aK, .inl (cI, 24, .inl (Kf))), (aX, .inl (cI, 24, .inl (Xf))), (aY, .inl (cI, 24, .inl (Yf))), (aN, .inl (cI, 24, .inl (Nf))), (f0, .inr (2, [.ref aZ, .ref aO, .int (ch)])), (aZ, .inl (cI, 24, .inl (Zs))), (aO, .inl (cI, 24, .inl (On)))] sz)) 0 0 (va_A [(u0, .inr (1, [.ref aK, .ref aX, .ref aY, .ref aN, .ref aV, .ref aM, .int (nI (n)), .int (nI (R))])), (aK, .inl (cI, 24, .inl (Kf))), (aX, .inl (cI, 24, .inl (Xf))), (aY, .inl (cI, 24, .inl (Yf))), (aN, .inl (cI, 24, .inl (Nf))), (f0, .inr (2, [.ref aZ, .ref aO, .int (ch)])), (aZ, .inl (cI, 24, .inl (Zs))), (aO, .inl (cI, 24, .inl (On)))] sz) := by
  refine Met.ofW (cc := cE_askedOfX) (maxL := 6) (ret := (some .int)) (by decide) rfl ?_
  intro p e s m args below meth c s₁ B hml hv0
  have hx := B.exec
  have hb := B.bytes
  have hr := B.returns
  have hts := atoms_spec (ws := wsE_askedOfX) B.pre
  have hown : s.vm.findClass RE = some m.cls := findClass_of_methodNamed B.named
  have hlocks := B.notSynchronized
  obtain ⟨rfl, hsz, hG⟩ := dw_enter hv0
  generalize va_A [(u0, .inr (1, [.ref aK, .ref aX, .ref aY, .ref aN, .ref aV, .ref aM, .int (nI (n)), .int (nI (R))])), (aK, .inl (cI, 24, .inl (Kf))), (aX, .inl (cI, 24, .inl (Xf))), (aY, .inl (cI, 24, .inl (Yf))), (aN, .inl (cI, 24, .inl (Nf))), (f0, .inr (2, [.ref aZ, .ref aO, .int (ch)])), (aZ, .inl (cI, 24, .inl (Zs))), (aO, .inl (cI, 24, .inl (On)))] sz = A at hG ⊢
  have hl := lv_entry ([.ref u0, .ref f0, .int (nI (v)), .int (d)]) (n := 6) (Nat.le_of_ble_eq_true rfl)
  rw [lg_entry_eq]
  generalize (lg_sl ([.ref u0, .ref f0, .int (nI (v)), .int (d)]) ++ List.replicate (6 - (lg_sl ([.ref u0, .ref f0, .int (nI (v)), .int (d)])).length) Slot.unset).toArray = ls at hl ⊢
  have hl : lv_has ls 6 [(0, .ref u0), (1, .ref f0), (2, .int (nI (v))), (3, .int (d))] := hl
  have hw42 := hts _ (List.mem_cons_of_mem _ tw_42)
  have hw47 := hts _ (List.mem_cons_of_mem _ tw_47)
  have hw33 := hts _ (List.mem_cons_of_mem _ tw_33)
  have hw93 := hts _ (List.mem_cons_of_mem _ tw_93)
  refine dw_Q (fun Q hQ => ?_)
  suffices hgo : ∀ (H : Heap) (locs : List Loc), dw_G (dC, dI) vwCl [(cI, .int), (cZ, .boolean)] A s.heap s [(u0, .inr (1, [.ref aK, .ref aX, .ref aY, .ref aN, .ref aV, .ref aM, .int (nI (n)), .int (nI (R))])), (aK, .inl (cI, 24, .inl (Kf))), (aX, .inl (cI, 24, .inl (Xf))), (aY, .inl (cI, 24, .inl (Yf))), (aN, .inl (cI, 24, .inl (Nf))), (f0, .inr (2, [.ref aZ, .ref aO, .int (ch)])), (aZ, .inl (cI, 24, .inl (Zs))), (aO, .inl (cI, 24, .inl (On)))] H locs → W p l e (headSpec wsE_askedOfX { frames := 2, cells := 0, slots := 0, locals := 60 }).room s m [.ref u0, .ref f0, .int (nI (v)), .int (d)].toArray below meth c H locs 0 0 Q (F0 m 0 ls []) from hgo _ _ hG
  clear hG
  intro H locs hG
  refine lv_aload_n hx hb dE_askedOfX_0 rfl (lv_at hl 0 rfl) ?_
  refine dw_get hx hb hts inUc hown hG 0 2 rfl rfl (by decide) hw42 rfl rfl dE_askedOfX_1 ?_
  refine lv_iload_n hx hb dE_askedOfX_4 rfl (lv_at hl 2 rfl) ?_
  refine dw_ia (x := nI (y)) hx hb hG 3 0 rfl rfl (v) rfl (by omega) (by decide) ey dE_askedOfX_5 ?_
  refine lv_istore (lv' := [(4, .int (nI (y))), (0, .ref u0), (1, .ref f0), (2, .int (nI (v))), (3, .int (d))]) hx hb dE_askedOfX_6 hl (by decide) rfl (fun ls hl => ?_)
  refine lv_aload_n hx hb dE_askedOfX_8 rfl (lv_at hl 1 rfl) ?_
  refine dw_get hx hb hts inUc hown hG 0 3 rfl rfl (by decide) hw47 rfl rfl dE_askedOfX_9 ?_
  refine lv_iload_n hx hb dE_askedOfX_12 rfl (lv_at hl 3 rfl) ?_
  refine dw_ia (x := (Nf) (v)) hx hb hG 4 0 rfl rfl (v) rfl (by omega) (by decide) rfl dE_askedOfX_13 ?_
  refine lv_istore (lv' := [(5, .int ((Nf) (v))), (4, .int (nI (y))), (0, .ref u0), (1, .ref f0), (2, .int (nI (v))), (3, .int (d))]) hx hb dE_askedOfX_14 hl (by decide) rfl (fun ls hl => ?_)
  refine lv_aload_n hx hb dE_askedOfX_16 rfl (lv_at hl 2 rfl) ?_
  refine dw_get hx hb hts inUc hown hG 0 0 rfl rfl (by decide) hw33 rfl rfl dE_askedOfX_17 ?_
  refine lv_iload_n hx hb dE_askedOfX_20 rfl (lv_at hl 4 rfl) ?_
  refine dw_ia (x := 4) hx hb hG 1 0 rfl rfl (v) rfl (by omega) (by decide) ek dE_askedOfX_21 ?_
  refine lv_tableIn (tgt := 109) hx hb dE_askedOfX_22 (by decide) (by decide) rfl (by decide) ?_
  refine lv_iload_n hx hb dE_askedOfX_109 rfl (lv_at hl 5 rfl) ?_
  refine lv_aload_n hx hb dE_askedOfX_110 rfl (lv_at hl 3 rfl) ?_
  refine dw_get hx hb hts inFc hown hG 5 1 rfl rfl (by decide) hw93 rfl rfl dE_askedOfX_111 ?_
  refine lv_iload hx hb dE_askedOfX_114 (lv_at hl 1 rfl) ?_
  refine dw_ia (x := (On) (y)) hx hb hG 7 0 rfl rfl (y) rfl (by omega) (by decide) rfl dE_askedOfX_116 ?_
  refine lv_iconst (v := -1) hx hb dE_askedOfX_117 (by decide) ?_
  refine lv_ixor hx hb dE_askedOfX_118 ?_
  refine lv_iand hx hb dE_askedOfX_119 ?_
  subst hQ
  exact dw_iret hx hb hr hG (()) rfl rfl dE_askedOfX_120 hlocks

set_option maxRecDepth 100000 in
set_option maxHeartbeats 4000000 in
theorem ce_askedOfX5 (l : Launch) (dC : Nat → ClassId) (dI : Nat → Nat → Nat) (cI cZ : ClassId) (f0 aZ aO : Nat) (ch : Int32) (Zs On : Nat → Int32) (u0 aK aX aY aN aV aM n R : Nat) (Kf Xf Yf Nf : Nat → Int32) (v x y : Nat) (d : Int32) (sz : Nat) (hv : v < 24) (hx9 : x < 24) (hy9 : y < 24) (ex : Xf v = nI x) (ey : Yf v = nI y) (ek : Kf v = nI 5) : Met l yE_askedOfX wsE_askedOfX { frames := 2, cells := 0, slots := 0, locals := 60 } (va_Pc [.ref u0, .ref f0, .int (nI (v)), .int (d)] (dw_pre (dC, dI) vwCl [(u0, .inr (1, [.ref aK, .ref aX, .ref aY, .ref aN, .ref aV, .ref aM, .int (nI (n)), .int (nI (R))])), (aK, .inl (cI, 24, .inl (Kf))), (aX, .inl (cI, 24, .inl (Xf))), (aY, .inl (cI, 24, .inl (Yf))), (aN, .inl (cI, 24, .inl (Nf))), (f0, .inr (2, [.ref aZ, .ref aO, .int (ch)])), (aZ, .inl (cI, 24, .inl (Zs))), (aO, .inl (cI, 24, .inl (On)))] [(cI, .int), (cZ, .boolean)] sz)) (va_Qi (fun (r : Int32) (u : Unit) => r = db_askX 5 (Nf v) (Zs y) (On y) d) (fun u t => dw_post (dC, dI) vwCl [(u0, .inr (1, [.ref aK, .ref aX, .ref aY, .ref aN, .ref aV, .ref aM, .int (nI (n)), .int (nI (R))])), (aK, .inl (cI, 24, .inl (Kf))), (aX, .inl (cI, 24, .inl (Xf))), (aY, .inl (cI, 24, .inl (Yf))), (aN, .inl (cI, 24, .inl (Nf))), (f0, .inr (2, [.ref aZ, .ref aO, .int (ch)])), (aZ, .inl (cI, 24, .inl (Zs))), (aO, .inl (cI, 24, .inl (On)))] [(cI, .int), (cZ, .boolean)] (va_A [(u0, .inr (1, [.ref aK, .ref aX, .ref aY, .ref aN, .ref aV, .ref aM, .int (nI (n)), .int (nI (R))])), (aK, .inl (cI, 24, .inl (Kf))), (aX, .inl (cI, 24, .inl (Xf))), (aY, .inl (cI, 24, .inl (Yf))), (aN, .inl (cI, 24, .inl (Nf))), (f0, .inr (2, [.ref aZ, .ref aO, .int (ch)])), (aZ, .inl (cI, 24, .inl (Zs))), (aO, .inl (cI, 24, .inl (On)))] sz) t) (va_A [(u0, .inr (1, [.ref aK, .ref aX, .ref aY, .ref aN, .ref aV, .ref aM, .int (nI (n)), .int (nI (R))])), (aK, .inl (cI, 24, .inl (Kf))), (aX, .inl (cI, 24, .inl (Xf))), (aY, .inl (cI, 24, .inl (Yf))), (aN, .inl (cI, 24, .inl (Nf))), (f0, .inr (2, [.ref aZ, .ref aO, .int (ch)])), (aZ, .inl (cI, 24, .inl (Zs))), (aO, .inl (cI, 24, .inl (On)))] sz)) 0 0 (va_A [(u0, .inr (1, [.ref aK, .ref aX, .ref aY, .ref aN, .ref aV, .ref aM, .int (nI (n)), .int (nI (R))])), (aK, .inl (cI, 24, .inl (Kf))), (aX, .inl (cI, 24, .inl (Xf))), (aY, .inl (cI, 24, .inl (Yf))), (aN, .inl (cI, 24, .inl (Nf))), (f0, .inr (2, [.ref aZ, .ref aO, .int (ch)])), (aZ, .inl (cI, 24, .inl (Zs))), (aO, .inl (cI, 24, .inl (On)))] sz) := by
  refine Met.ofW (cc := cE_askedOfX) (maxL := 6) (ret := (some .int)) (by decide) rfl ?_
  intro p e s m args below meth c s₁ B hml hv0
  have hx := B.exec
  have hb := B.bytes
  have hr := B.returns
  have hts := atoms_spec (ws := wsE_askedOfX) B.pre
  have hown : s.vm.findClass RE = some m.cls := findClass_of_methodNamed B.named
  have hlocks := B.notSynchronized
  obtain ⟨rfl, hsz, hG⟩ := dw_enter hv0
  generalize va_A [(u0, .inr (1, [.ref aK, .ref aX, .ref aY, .ref aN, .ref aV, .ref aM, .int (nI (n)), .int (nI (R))])), (aK, .inl (cI, 24, .inl (Kf))), (aX, .inl (cI, 24, .inl (Xf))), (aY, .inl (cI, 24, .inl (Yf))), (aN, .inl (cI, 24, .inl (Nf))), (f0, .inr (2, [.ref aZ, .ref aO, .int (ch)])), (aZ, .inl (cI, 24, .inl (Zs))), (aO, .inl (cI, 24, .inl (On)))] sz = A at hG ⊢
  have hl := lv_entry ([.ref u0, .ref f0, .int (nI (v)), .int (d)]) (n := 6) (Nat.le_of_ble_eq_true rfl)
  rw [lg_entry_eq]
  generalize (lg_sl ([.ref u0, .ref f0, .int (nI (v)), .int (d)]) ++ List.replicate (6 - (lg_sl ([.ref u0, .ref f0, .int (nI (v)), .int (d)])).length) Slot.unset).toArray = ls at hl ⊢
  have hl : lv_has ls 6 [(0, .ref u0), (1, .ref f0), (2, .int (nI (v))), (3, .int (d))] := hl
  have hw42 := hts _ (List.mem_cons_of_mem _ tw_42)
  have hw47 := hts _ (List.mem_cons_of_mem _ tw_47)
  have hw33 := hts _ (List.mem_cons_of_mem _ tw_33)
  refine dw_Q (fun Q hQ => ?_)
  suffices hgo : ∀ (H : Heap) (locs : List Loc), dw_G (dC, dI) vwCl [(cI, .int), (cZ, .boolean)] A s.heap s [(u0, .inr (1, [.ref aK, .ref aX, .ref aY, .ref aN, .ref aV, .ref aM, .int (nI (n)), .int (nI (R))])), (aK, .inl (cI, 24, .inl (Kf))), (aX, .inl (cI, 24, .inl (Xf))), (aY, .inl (cI, 24, .inl (Yf))), (aN, .inl (cI, 24, .inl (Nf))), (f0, .inr (2, [.ref aZ, .ref aO, .int (ch)])), (aZ, .inl (cI, 24, .inl (Zs))), (aO, .inl (cI, 24, .inl (On)))] H locs → W p l e (headSpec wsE_askedOfX { frames := 2, cells := 0, slots := 0, locals := 60 }).room s m [.ref u0, .ref f0, .int (nI (v)), .int (d)].toArray below meth c H locs 0 0 Q (F0 m 0 ls []) from hgo _ _ hG
  clear hG
  intro H locs hG
  refine lv_aload_n hx hb dE_askedOfX_0 rfl (lv_at hl 0 rfl) ?_
  refine dw_get hx hb hts inUc hown hG 0 2 rfl rfl (by decide) hw42 rfl rfl dE_askedOfX_1 ?_
  refine lv_iload_n hx hb dE_askedOfX_4 rfl (lv_at hl 2 rfl) ?_
  refine dw_ia (x := nI (y)) hx hb hG 3 0 rfl rfl (v) rfl (by omega) (by decide) ey dE_askedOfX_5 ?_
  refine lv_istore (lv' := [(4, .int (nI (y))), (0, .ref u0), (1, .ref f0), (2, .int (nI (v))), (3, .int (d))]) hx hb dE_askedOfX_6 hl (by decide) rfl (fun ls hl => ?_)
  refine lv_aload_n hx hb dE_askedOfX_8 rfl (lv_at hl 1 rfl) ?_
  refine dw_get hx hb hts inUc hown hG 0 3 rfl rfl (by decide) hw47 rfl rfl dE_askedOfX_9 ?_
  refine lv_iload_n hx hb dE_askedOfX_12 rfl (lv_at hl 3 rfl) ?_
  refine dw_ia (x := (Nf) (v)) hx hb hG 4 0 rfl rfl (v) rfl (by omega) (by decide) rfl dE_askedOfX_13 ?_
  refine lv_istore (lv' := [(5, .int ((Nf) (v))), (4, .int (nI (y))), (0, .ref u0), (1, .ref f0), (2, .int (nI (v))), (3, .int (d))]) hx hb dE_askedOfX_14 hl (by decide) rfl (fun ls hl => ?_)
  refine lv_aload_n hx hb dE_askedOfX_16 rfl (lv_at hl 2 rfl) ?_
  refine dw_get hx hb hts inUc hown hG 0 0 rfl rfl (by decide) hw33 rfl rfl dE_askedOfX_17 ?_
  refine lv_iload_n hx hb dE_askedOfX_20 rfl (lv_at hl 4 rfl) ?_
  refine dw_ia (x := 5) hx hb hG 1 0 rfl rfl (v) rfl (by omega) (by decide) ek dE_askedOfX_21 ?_
  refine lv_tableIn (tgt := 121) hx hb dE_askedOfX_22 (by decide) (by decide) rfl (by decide) ?_
  refine lv_iload_n hx hb dE_askedOfX_121 rfl (lv_at hl 5 rfl) ?_
  subst hQ
  exact dw_iret hx hb hr hG (()) rfl rfl dE_askedOfX_122 hlocks

set_option maxRecDepth 100000 in
set_option maxHeartbeats 4000000 in
theorem ce_askedOfX6 (l : Launch) (dC : Nat → ClassId) (dI : Nat → Nat → Nat) (cI cZ : ClassId) (f0 aZ aO : Nat) (ch : Int32) (Zs On : Nat → Int32) (u0 aK aX aY aN aV aM n R : Nat) (Kf Xf Yf Nf : Nat → Int32) (v x y : Nat) (d : Int32) (sz : Nat) (hv : v < 24) (hx9 : x < 24) (hy9 : y < 24) (ex : Xf v = nI x) (ey : Yf v = nI y) (ek : Kf v = nI 6) : Met l yE_askedOfX wsE_askedOfX { frames := 2, cells := 0, slots := 0, locals := 60 } (va_Pc [.ref u0, .ref f0, .int (nI (v)), .int (d)] (dw_pre (dC, dI) vwCl [(u0, .inr (1, [.ref aK, .ref aX, .ref aY, .ref aN, .ref aV, .ref aM, .int (nI (n)), .int (nI (R))])), (aK, .inl (cI, 24, .inl (Kf))), (aX, .inl (cI, 24, .inl (Xf))), (aY, .inl (cI, 24, .inl (Yf))), (aN, .inl (cI, 24, .inl (Nf))), (f0, .inr (2, [.ref aZ, .ref aO, .int (ch)])), (aZ, .inl (cI, 24, .inl (Zs))), (aO, .inl (cI, 24, .inl (On)))] [(cI, .int), (cZ, .boolean)] sz)) (va_Qi (fun (r : Int32) (u : Unit) => r = db_askX 6 (Nf v) (Zs y) (On y) d) (fun u t => dw_post (dC, dI) vwCl [(u0, .inr (1, [.ref aK, .ref aX, .ref aY, .ref aN, .ref aV, .ref aM, .int (nI (n)), .int (nI (R))])), (aK, .inl (cI, 24, .inl (Kf))), (aX, .inl (cI, 24, .inl (Xf))), (aY, .inl (cI, 24, .inl (Yf))), (aN, .inl (cI, 24, .inl (Nf))), (f0, .inr (2, [.ref aZ, .ref aO, .int (ch)])), (aZ, .inl (cI, 24, .inl (Zs))), (aO, .inl (cI, 24, .inl (On)))] [(cI, .int), (cZ, .boolean)] (va_A [(u0, .inr (1, [.ref aK, .ref aX, .ref aY, .ref aN, .ref aV, .ref aM, .int (nI (n)), .int (nI (R))])), (aK, .inl (cI, 24, .inl (Kf))), (aX, .inl (cI, 24, .inl (Xf))), (aY, .inl (cI, 24, .inl (Yf))), (aN, .inl (cI, 24, .inl (Nf))), (f0, .inr (2, [.ref aZ, .ref aO, .int (ch)])), (aZ, .inl (cI, 24, .inl (Zs))), (aO, .inl (cI, 24, .inl (On)))] sz) t) (va_A [(u0, .inr (1, [.ref aK, .ref aX, .ref aY, .ref aN, .ref aV, .ref aM, .int (nI (n)), .int (nI (R))])), (aK, .inl (cI, 24, .inl (Kf))), (aX, .inl (cI, 24, .inl (Xf))), (aY, .inl (cI, 24, .inl (Yf))), (aN, .inl (cI, 24, .inl (Nf))), (f0, .inr (2, [.ref aZ, .ref aO, .int (ch)])), (aZ, .inl (cI, 24, .inl (Zs))), (aO, .inl (cI, 24, .inl (On)))] sz)) 0 0 (va_A [(u0, .inr (1, [.ref aK, .ref aX, .ref aY, .ref aN, .ref aV, .ref aM, .int (nI (n)), .int (nI (R))])), (aK, .inl (cI, 24, .inl (Kf))), (aX, .inl (cI, 24, .inl (Xf))), (aY, .inl (cI, 24, .inl (Yf))), (aN, .inl (cI, 24, .inl (Nf))), (f0, .inr (2, [.ref aZ, .ref aO, .int (ch)])), (aZ, .inl (cI, 24, .inl (Zs))), (aO, .inl (cI, 24, .inl (On)))] sz) := by
  refine Met.ofW (cc := cE_askedOfX) (maxL := 6) (ret := (some .int)) (by decide) rfl ?_
  intro p e s m args below meth c s₁ B hml hv0
  have hx := B.exec
  have hb := B.bytes
  have hr := B.returns
  have hts := atoms_spec (ws := wsE_askedOfX) B.pre
  have hown : s.vm.findClass RE = some m.cls := findClass_of_methodNamed B.named
  have hlocks := B.notSynchronized
  obtain ⟨rfl, hsz, hG⟩ := dw_enter hv0
  generalize va_A [(u0, .inr (1, [.ref aK, .ref aX, .ref aY, .ref aN, .ref aV, .ref aM, .int (nI (n)), .int (nI (R))])), (aK, .inl (cI, 24, .inl (Kf))), (aX, .inl (cI, 24, .inl (Xf))), (aY, .inl (cI, 24, .inl (Yf))), (aN, .inl (cI, 24, .inl (Nf))), (f0, .inr (2, [.ref aZ, .ref aO, .int (ch)])), (aZ, .inl (cI, 24, .inl (Zs))), (aO, .inl (cI, 24, .inl (On)))] sz = A at hG ⊢
  have hl := lv_entry ([.ref u0, .ref f0, .int (nI (v)), .int (d)]) (n := 6) (Nat.le_of_ble_eq_true rfl)
  rw [lg_entry_eq]
  generalize (lg_sl ([.ref u0, .ref f0, .int (nI (v)), .int (d)]) ++ List.replicate (6 - (lg_sl ([.ref u0, .ref f0, .int (nI (v)), .int (d)])).length) Slot.unset).toArray = ls at hl ⊢
  have hl : lv_has ls 6 [(0, .ref u0), (1, .ref f0), (2, .int (nI (v))), (3, .int (d))] := hl
  have hw42 := hts _ (List.mem_cons_of_mem _ tw_42)
  have hw47 := hts _ (List.mem_cons_of_mem _ tw_47)
  have hw33 := hts _ (List.mem_cons_of_mem _ tw_33)
  refine dw_Q (fun Q hQ => ?_)
  suffices hgo : ∀ (H : Heap) (locs : List Loc), dw_G (dC, dI) vwCl [(cI, .int), (cZ, .boolean)] A s.heap s [(u0, .inr (1, [.ref aK, .ref aX, .ref aY, .ref aN, .ref aV, .ref aM, .int (nI (n)), .int (nI (R))])), (aK, .inl (cI, 24, .inl (Kf))), (aX, .inl (cI, 24, .inl (Xf))), (aY, .inl (cI, 24, .inl (Yf))), (aN, .inl (cI, 24, .inl (Nf))), (f0, .inr (2, [.ref aZ, .ref aO, .int (ch)])), (aZ, .inl (cI, 24, .inl (Zs))), (aO, .inl (cI, 24, .inl (On)))] H locs → W p l e (headSpec wsE_askedOfX { frames := 2, cells := 0, slots := 0, locals := 60 }).room s m [.ref u0, .ref f0, .int (nI (v)), .int (d)].toArray below meth c H locs 0 0 Q (F0 m 0 ls []) from hgo _ _ hG
  clear hG
  intro H locs hG
  refine lv_aload_n hx hb dE_askedOfX_0 rfl (lv_at hl 0 rfl) ?_
  refine dw_get hx hb hts inUc hown hG 0 2 rfl rfl (by decide) hw42 rfl rfl dE_askedOfX_1 ?_
  refine lv_iload_n hx hb dE_askedOfX_4 rfl (lv_at hl 2 rfl) ?_
  refine dw_ia (x := nI (y)) hx hb hG 3 0 rfl rfl (v) rfl (by omega) (by decide) ey dE_askedOfX_5 ?_
  refine lv_istore (lv' := [(4, .int (nI (y))), (0, .ref u0), (1, .ref f0), (2, .int (nI (v))), (3, .int (d))]) hx hb dE_askedOfX_6 hl (by decide) rfl (fun ls hl => ?_)
  refine lv_aload_n hx hb dE_askedOfX_8 rfl (lv_at hl 1 rfl) ?_
  refine dw_get hx hb hts inUc hown hG 0 3 rfl rfl (by decide) hw47 rfl rfl dE_askedOfX_9 ?_
  refine lv_iload_n hx hb dE_askedOfX_12 rfl (lv_at hl 3 rfl) ?_
  refine dw_ia (x := (Nf) (v)) hx hb hG 4 0 rfl rfl (v) rfl (by omega) (by decide) rfl dE_askedOfX_13 ?_
  refine lv_istore (lv' := [(5, .int ((Nf) (v))), (4, .int (nI (y))), (0, .ref u0), (1, .ref f0), (2, .int (nI (v))), (3, .int (d))]) hx hb dE_askedOfX_14 hl (by decide) rfl (fun ls hl => ?_)
  refine lv_aload_n hx hb dE_askedOfX_16 rfl (lv_at hl 2 rfl) ?_
  refine dw_get hx hb hts inUc hown hG 0 0 rfl rfl (by decide) hw33 rfl rfl dE_askedOfX_17 ?_
  refine lv_iload_n hx hb dE_askedOfX_20 rfl (lv_at hl 4 rfl) ?_
  refine dw_ia (x := 6) hx hb hG 1 0 rfl rfl (v) rfl (by omega) (by decide) ek dE_askedOfX_21 ?_
  refine lv_tableIn (tgt := 123) hx hb dE_askedOfX_22 (by decide) (by decide) rfl (by decide) ?_
  refine lv_iload_n hx hb dE_askedOfX_123 rfl (lv_at hl 5 rfl) ?_
  refine lv_iload hx hb dE_askedOfX_124 (lv_at hl 0 rfl) ?_
  refine lv_iushr (v := db_ushr (d) ((Nf) (v))) hx hb dE_askedOfX_126 rfl ?_
  subst hQ
  exact dw_iret hx hb hr hG (()) rfl rfl dE_askedOfX_127 hlocks

set_option maxRecDepth 100000 in
set_option maxHeartbeats 4000000 in
theorem ce_askedOfX7 (l : Launch) (dC : Nat → ClassId) (dI : Nat → Nat → Nat) (cI cZ : ClassId) (f0 aZ aO : Nat) (ch : Int32) (Zs On : Nat → Int32) (u0 aK aX aY aN aV aM n R : Nat) (Kf Xf Yf Nf : Nat → Int32) (v x y : Nat) (d : Int32) (sz : Nat) (hv : v < 24) (hx9 : x < 24) (hy9 : y < 24) (ex : Xf v = nI x) (ey : Yf v = nI y) (ek : Kf v = nI 7) : Met l yE_askedOfX wsE_askedOfX { frames := 2, cells := 0, slots := 0, locals := 60 } (va_Pc [.ref u0, .ref f0, .int (nI (v)), .int (d)] (dw_pre (dC, dI) vwCl [(u0, .inr (1, [.ref aK, .ref aX, .ref aY, .ref aN, .ref aV, .ref aM, .int (nI (n)), .int (nI (R))])), (aK, .inl (cI, 24, .inl (Kf))), (aX, .inl (cI, 24, .inl (Xf))), (aY, .inl (cI, 24, .inl (Yf))), (aN, .inl (cI, 24, .inl (Nf))), (f0, .inr (2, [.ref aZ, .ref aO, .int (ch)])), (aZ, .inl (cI, 24, .inl (Zs))), (aO, .inl (cI, 24, .inl (On)))] [(cI, .int), (cZ, .boolean)] sz)) (va_Qi (fun (r : Int32) (u : Unit) => r = db_askX 7 (Nf v) (Zs y) (On y) d) (fun u t => dw_post (dC, dI) vwCl [(u0, .inr (1, [.ref aK, .ref aX, .ref aY, .ref aN, .ref aV, .ref aM, .int (nI (n)), .int (nI (R))])), (aK, .inl (cI, 24, .inl (Kf))), (aX, .inl (cI, 24, .inl (Xf))), (aY, .inl (cI, 24, .inl (Yf))), (aN, .inl (cI, 24, .inl (Nf))), (f0, .inr (2, [.ref aZ, .ref aO, .int (ch)])), (aZ, .inl (cI, 24, .inl (Zs))), (aO, .inl (cI, 24, .inl (On)))] [(cI, .int), (cZ, .boolean)] (va_A [(u0, .inr (1, [.ref aK, .ref aX, .ref aY, .ref aN, .ref aV, .ref aM, .int (nI (n)), .int (nI (R))])), (aK, .inl (cI, 24, .inl (Kf))), (aX, .inl (cI, 24, .inl (Xf))), (aY, .inl (cI, 24, .inl (Yf))), (aN, .inl (cI, 24, .inl (Nf))), (f0, .inr (2, [.ref aZ, .ref aO, .int (ch)])), (aZ, .inl (cI, 24, .inl (Zs))), (aO, .inl (cI, 24, .inl (On)))] sz) t) (va_A [(u0, .inr (1, [.ref aK, .ref aX, .ref aY, .ref aN, .ref aV, .ref aM, .int (nI (n)), .int (nI (R))])), (aK, .inl (cI, 24, .inl (Kf))), (aX, .inl (cI, 24, .inl (Xf))), (aY, .inl (cI, 24, .inl (Yf))), (aN, .inl (cI, 24, .inl (Nf))), (f0, .inr (2, [.ref aZ, .ref aO, .int (ch)])), (aZ, .inl (cI, 24, .inl (Zs))), (aO, .inl (cI, 24, .inl (On)))] sz)) 0 0 (va_A [(u0, .inr (1, [.ref aK, .ref aX, .ref aY, .ref aN, .ref aV, .ref aM, .int (nI (n)), .int (nI (R))])), (aK, .inl (cI, 24, .inl (Kf))), (aX, .inl (cI, 24, .inl (Xf))), (aY, .inl (cI, 24, .inl (Yf))), (aN, .inl (cI, 24, .inl (Nf))), (f0, .inr (2, [.ref aZ, .ref aO, .int (ch)])), (aZ, .inl (cI, 24, .inl (Zs))), (aO, .inl (cI, 24, .inl (On)))] sz) := by
  refine Met.ofW (cc := cE_askedOfX) (maxL := 6) (ret := (some .int)) (by decide) rfl ?_
  intro p e s m args below meth c s₁ B hml hv0
  have hx := B.exec
  have hb := B.bytes
  have hr := B.returns
  have hts := atoms_spec (ws := wsE_askedOfX) B.pre
  have hown : s.vm.findClass RE = some m.cls := findClass_of_methodNamed B.named
  have hlocks := B.notSynchronized
  obtain ⟨rfl, hsz, hG⟩ := dw_enter hv0
  generalize va_A [(u0, .inr (1, [.ref aK, .ref aX, .ref aY, .ref aN, .ref aV, .ref aM, .int (nI (n)), .int (nI (R))])), (aK, .inl (cI, 24, .inl (Kf))), (aX, .inl (cI, 24, .inl (Xf))), (aY, .inl (cI, 24, .inl (Yf))), (aN, .inl (cI, 24, .inl (Nf))), (f0, .inr (2, [.ref aZ, .ref aO, .int (ch)])), (aZ, .inl (cI, 24, .inl (Zs))), (aO, .inl (cI, 24, .inl (On)))] sz = A at hG ⊢
  have hl := lv_entry ([.ref u0, .ref f0, .int (nI (v)), .int (d)]) (n := 6) (Nat.le_of_ble_eq_true rfl)
  rw [lg_entry_eq]
  generalize (lg_sl ([.ref u0, .ref f0, .int (nI (v)), .int (d)]) ++ List.replicate (6 - (lg_sl ([.ref u0, .ref f0, .int (nI (v)), .int (d)])).length) Slot.unset).toArray = ls at hl ⊢
  have hl : lv_has ls 6 [(0, .ref u0), (1, .ref f0), (2, .int (nI (v))), (3, .int (d))] := hl
  have hw42 := hts _ (List.mem_cons_of_mem _ tw_42)
  have hw47 := hts _ (List.mem_cons_of_mem _ tw_47)
  have hw33 := hts _ (List.mem_cons_of_mem _ tw_33)
  have hw234 := hts _ (List.mem_cons_of_mem _ tw_234)
  refine dw_Q (fun Q hQ => ?_)
  suffices hgo : ∀ (H : Heap) (locs : List Loc), dw_G (dC, dI) vwCl [(cI, .int), (cZ, .boolean)] A s.heap s [(u0, .inr (1, [.ref aK, .ref aX, .ref aY, .ref aN, .ref aV, .ref aM, .int (nI (n)), .int (nI (R))])), (aK, .inl (cI, 24, .inl (Kf))), (aX, .inl (cI, 24, .inl (Xf))), (aY, .inl (cI, 24, .inl (Yf))), (aN, .inl (cI, 24, .inl (Nf))), (f0, .inr (2, [.ref aZ, .ref aO, .int (ch)])), (aZ, .inl (cI, 24, .inl (Zs))), (aO, .inl (cI, 24, .inl (On)))] H locs → W p l e (headSpec wsE_askedOfX { frames := 2, cells := 0, slots := 0, locals := 60 }).room s m [.ref u0, .ref f0, .int (nI (v)), .int (d)].toArray below meth c H locs 0 0 Q (F0 m 0 ls []) from hgo _ _ hG
  clear hG
  intro H locs hG
  refine lv_aload_n hx hb dE_askedOfX_0 rfl (lv_at hl 0 rfl) ?_
  refine dw_get hx hb hts inUc hown hG 0 2 rfl rfl (by decide) hw42 rfl rfl dE_askedOfX_1 ?_
  refine lv_iload_n hx hb dE_askedOfX_4 rfl (lv_at hl 2 rfl) ?_
  refine dw_ia (x := nI (y)) hx hb hG 3 0 rfl rfl (v) rfl (by omega) (by decide) ey dE_askedOfX_5 ?_
  refine lv_istore (lv' := [(4, .int (nI (y))), (0, .ref u0), (1, .ref f0), (2, .int (nI (v))), (3, .int (d))]) hx hb dE_askedOfX_6 hl (by decide) rfl (fun ls hl => ?_)
  refine lv_aload_n hx hb dE_askedOfX_8 rfl (lv_at hl 1 rfl) ?_
  refine dw_get hx hb hts inUc hown hG 0 3 rfl rfl (by decide) hw47 rfl rfl dE_askedOfX_9 ?_
  refine lv_iload_n hx hb dE_askedOfX_12 rfl (lv_at hl 3 rfl) ?_
  refine dw_ia (x := (Nf) (v)) hx hb hG 4 0 rfl rfl (v) rfl (by omega) (by decide) rfl dE_askedOfX_13 ?_
  refine lv_istore (lv' := [(5, .int ((Nf) (v))), (4, .int (nI (y))), (0, .ref u0), (1, .ref f0), (2, .int (nI (v))), (3, .int (d))]) hx hb dE_askedOfX_14 hl (by decide) rfl (fun ls hl => ?_)
  refine lv_aload_n hx hb dE_askedOfX_16 rfl (lv_at hl 2 rfl) ?_
  refine dw_get hx hb hts inUc hown hG 0 0 rfl rfl (by decide) hw33 rfl rfl dE_askedOfX_17 ?_
  refine lv_iload_n hx hb dE_askedOfX_20 rfl (lv_at hl 4 rfl) ?_
  refine dw_ia (x := 7) hx hb hG 1 0 rfl rfl (v) rfl (by omega) (by decide) ek dE_askedOfX_21 ?_
  refine lv_tableIn (tgt := 128) hx hb dE_askedOfX_22 (by decide) (by decide) rfl (by decide) ?_
  refine lv_iload_n hx hb dE_askedOfX_128 rfl (lv_at hl 5 rfl) ?_
  refine lv_iload hx hb dE_askedOfX_129 (lv_at hl 0 rfl) ?_
  refine lv_ishl hx hb dE_askedOfX_131 ?_
  refine lv_iload_n hx hb dE_askedOfX_132 rfl (lv_at hl 5 rfl) ?_
  refine lv_ldc (v := -2147483648) hx hb hown hw234 dE_askedOfX_133 ?_
  refine lv_iload hx hb dE_askedOfX_135 (lv_at hl 0 rfl) ?_
  refine lv_ishr hx hb dE_askedOfX_137 ?_
  refine lv_iand hx hb dE_askedOfX_138 ?_
  refine lv_bipush (v := 31) hx hb dE_askedOfX_139 (by decide) ?_
  refine dw_calli (wc := []) (wr := [(u0, .inr (1, [.ref aK, .ref aX, .ref aY, .ref aN, .ref aV, .ref aM, .int (nI (n)), .int (nI (R))])), (aK, .inl (cI, 24, .inl (Kf))), (aX, .inl (cI, 24, .inl (Xf))), (aY, .inl (cI, 24, .inl (Yf))), (aN, .inl (cI, 24, .inl (Nf))), (f0, .inr (2, [.ref aZ, .ref aO, .int (ch)])), (aZ, .inl (cI, 24, .inl (Zs))), (aO, .inl (cI, 24, .inl (On)))]) hG [] [0, 1, 2, 3, 4, 5, 6, 7] rfl rfl (by decide) (by decide) (va_runS (As := [.int ((d) &&& ((-2147483648) >>> ((Nf) (v) &&& 31))), .int (31)]) (rest := [.int ((d) <<< ((Nf) (v) &&& 31))]) ⟨hx, hb, hml, hown, hts⟩ (ce_signIf l dC dI cI cZ ((d) &&& ((-2147483648) >>> ((Nf) (v) &&& 31))) (31) H.size ) (dc_S 2 hts tw_235 tw_236 tw_4 tw_237 rfl rfl (by decide +kernel) ⟨Nat.le_of_ble_eq_true rfl, Nat.le_of_ble_eq_true rfl⟩) (dw_preS hG [] [0, 1] rfl rfl (by decide) rfl) rfl rfl hl.1 rfl (lv_room (Nat.le_of_ble_eq_true rfl)) dE_askedOfX_141 ⟨Nat.le_refl _, Nat.le_refl _⟩) (fun r u H locs hp hG => ?_)
  subst hp
  have hG : dw_G (dC, dI) vwCl [(cI, .int), (cZ, .boolean)] A s.heap s [(u0, .inr (1, [.ref aK, .ref aX, .ref aY, .ref aN, .ref aV, .ref aM, .int (nI (n)), .int (nI (R))])), (aK, .inl (cI, 24, .inl (Kf))), (aX, .inl (cI, 24, .inl (Xf))), (aY, .inl (cI, 24, .inl (Yf))), (aN, .inl (cI, 24, .inl (Nf))), (f0, .inr (2, [.ref aZ, .ref aO, .int (ch)])), (aZ, .inl (cI, 24, .inl (Zs))), (aO, .inl (cI, 24, .inl (On)))] H locs := hG
  refine lv_ior hx hb dE_askedOfX_144 ?_
  subst hQ
  exact dw_iret hx hb hr hG (()) rfl rfl dE_askedOfX_145 hlocks

set_option maxRecDepth 100000 in
set_option maxHeartbeats 4000000 in
theorem ce_askedOfX8 (l : Launch) (dC : Nat → ClassId) (dI : Nat → Nat → Nat) (cI cZ : ClassId) (f0 aZ aO : Nat) (ch : Int32) (Zs On : Nat → Int32) (u0 aK aX aY aN aV aM n R : Nat) (Kf Xf Yf Nf : Nat → Int32) (v x y : Nat) (d : Int32) (sz : Nat) (hv : v < 24) (hx9 : x < 24) (hy9 : y < 24) (ex : Xf v = nI x) (ey : Yf v = nI y) (ek : Kf v = nI 8) : Met l yE_askedOfX wsE_askedOfX { frames := 2, cells := 0, slots := 0, locals := 60 } (va_Pc [.ref u0, .ref f0, .int (nI (v)), .int (d)] (dw_pre (dC, dI) vwCl [(u0, .inr (1, [.ref aK, .ref aX, .ref aY, .ref aN, .ref aV, .ref aM, .int (nI (n)), .int (nI (R))])), (aK, .inl (cI, 24, .inl (Kf))), (aX, .inl (cI, 24, .inl (Xf))), (aY, .inl (cI, 24, .inl (Yf))), (aN, .inl (cI, 24, .inl (Nf))), (f0, .inr (2, [.ref aZ, .ref aO, .int (ch)])), (aZ, .inl (cI, 24, .inl (Zs))), (aO, .inl (cI, 24, .inl (On)))] [(cI, .int), (cZ, .boolean)] sz)) (va_Qi (fun (r : Int32) (u : Unit) => r = db_askX 8 (Nf v) (Zs y) (On y) d) (fun u t => dw_post (dC, dI) vwCl [(u0, .inr (1, [.ref aK, .ref aX, .ref aY, .ref aN, .ref aV, .ref aM, .int (nI (n)), .int (nI (R))])), (aK, .inl (cI, 24, .inl (Kf))), (aX, .inl (cI, 24, .inl (Xf))), (aY, .inl (cI, 24, .inl (Yf))), (aN, .inl (cI, 24, .inl (Nf))), (f0, .inr (2, [.ref aZ, .ref aO, .int (ch)])), (aZ, .inl (cI, 24, .inl (Zs))), (aO, .inl (cI, 24, .inl (On)))] [(cI, .int), (cZ, .boolean)] (va_A [(u0, .inr (1, [.ref aK, .ref aX, .ref aY, .ref aN, .ref aV, .ref aM, .int (nI (n)), .int (nI (R))])), (aK, .inl (cI, 24, .inl (Kf))), (aX, .inl (cI, 24, .inl (Xf))), (aY, .inl (cI, 24, .inl (Yf))), (aN, .inl (cI, 24, .inl (Nf))), (f0, .inr (2, [.ref aZ, .ref aO, .int (ch)])), (aZ, .inl (cI, 24, .inl (Zs))), (aO, .inl (cI, 24, .inl (On)))] sz) t) (va_A [(u0, .inr (1, [.ref aK, .ref aX, .ref aY, .ref aN, .ref aV, .ref aM, .int (nI (n)), .int (nI (R))])), (aK, .inl (cI, 24, .inl (Kf))), (aX, .inl (cI, 24, .inl (Xf))), (aY, .inl (cI, 24, .inl (Yf))), (aN, .inl (cI, 24, .inl (Nf))), (f0, .inr (2, [.ref aZ, .ref aO, .int (ch)])), (aZ, .inl (cI, 24, .inl (Zs))), (aO, .inl (cI, 24, .inl (On)))] sz)) 0 0 (va_A [(u0, .inr (1, [.ref aK, .ref aX, .ref aY, .ref aN, .ref aV, .ref aM, .int (nI (n)), .int (nI (R))])), (aK, .inl (cI, 24, .inl (Kf))), (aX, .inl (cI, 24, .inl (Xf))), (aY, .inl (cI, 24, .inl (Yf))), (aN, .inl (cI, 24, .inl (Nf))), (f0, .inr (2, [.ref aZ, .ref aO, .int (ch)])), (aZ, .inl (cI, 24, .inl (Zs))), (aO, .inl (cI, 24, .inl (On)))] sz) := by
  refine Met.ofW (cc := cE_askedOfX) (maxL := 6) (ret := (some .int)) (by decide) rfl ?_
  intro p e s m args below meth c s₁ B hml hv0
  have hx := B.exec
  have hb := B.bytes
  have hr := B.returns
  have hts := atoms_spec (ws := wsE_askedOfX) B.pre
  have hown : s.vm.findClass RE = some m.cls := findClass_of_methodNamed B.named
  have hlocks := B.notSynchronized
  obtain ⟨rfl, hsz, hG⟩ := dw_enter hv0
  generalize va_A [(u0, .inr (1, [.ref aK, .ref aX, .ref aY, .ref aN, .ref aV, .ref aM, .int (nI (n)), .int (nI (R))])), (aK, .inl (cI, 24, .inl (Kf))), (aX, .inl (cI, 24, .inl (Xf))), (aY, .inl (cI, 24, .inl (Yf))), (aN, .inl (cI, 24, .inl (Nf))), (f0, .inr (2, [.ref aZ, .ref aO, .int (ch)])), (aZ, .inl (cI, 24, .inl (Zs))), (aO, .inl (cI, 24, .inl (On)))] sz = A at hG ⊢
  have hl := lv_entry ([.ref u0, .ref f0, .int (nI (v)), .int (d)]) (n := 6) (Nat.le_of_ble_eq_true rfl)
  rw [lg_entry_eq]
  generalize (lg_sl ([.ref u0, .ref f0, .int (nI (v)), .int (d)]) ++ List.replicate (6 - (lg_sl ([.ref u0, .ref f0, .int (nI (v)), .int (d)])).length) Slot.unset).toArray = ls at hl ⊢
  have hl : lv_has ls 6 [(0, .ref u0), (1, .ref f0), (2, .int (nI (v))), (3, .int (d))] := hl
  have hw42 := hts _ (List.mem_cons_of_mem _ tw_42)
  have hw47 := hts _ (List.mem_cons_of_mem _ tw_47)
  have hw33 := hts _ (List.mem_cons_of_mem _ tw_33)
  refine dw_Q (fun Q hQ => ?_)
  suffices hgo : ∀ (H : Heap) (locs : List Loc), dw_G (dC, dI) vwCl [(cI, .int), (cZ, .boolean)] A s.heap s [(u0, .inr (1, [.ref aK, .ref aX, .ref aY, .ref aN, .ref aV, .ref aM, .int (nI (n)), .int (nI (R))])), (aK, .inl (cI, 24, .inl (Kf))), (aX, .inl (cI, 24, .inl (Xf))), (aY, .inl (cI, 24, .inl (Yf))), (aN, .inl (cI, 24, .inl (Nf))), (f0, .inr (2, [.ref aZ, .ref aO, .int (ch)])), (aZ, .inl (cI, 24, .inl (Zs))), (aO, .inl (cI, 24, .inl (On)))] H locs → W p l e (headSpec wsE_askedOfX { frames := 2, cells := 0, slots := 0, locals := 60 }).room s m [.ref u0, .ref f0, .int (nI (v)), .int (d)].toArray below meth c H locs 0 0 Q (F0 m 0 ls []) from hgo _ _ hG
  clear hG
  intro H locs hG
  refine lv_aload_n hx hb dE_askedOfX_0 rfl (lv_at hl 0 rfl) ?_
  refine dw_get hx hb hts inUc hown hG 0 2 rfl rfl (by decide) hw42 rfl rfl dE_askedOfX_1 ?_
  refine lv_iload_n hx hb dE_askedOfX_4 rfl (lv_at hl 2 rfl) ?_
  refine dw_ia (x := nI (y)) hx hb hG 3 0 rfl rfl (v) rfl (by omega) (by decide) ey dE_askedOfX_5 ?_
  refine lv_istore (lv' := [(4, .int (nI (y))), (0, .ref u0), (1, .ref f0), (2, .int (nI (v))), (3, .int (d))]) hx hb dE_askedOfX_6 hl (by decide) rfl (fun ls hl => ?_)
  refine lv_aload_n hx hb dE_askedOfX_8 rfl (lv_at hl 1 rfl) ?_
  refine dw_get hx hb hts inUc hown hG 0 3 rfl rfl (by decide) hw47 rfl rfl dE_askedOfX_9 ?_
  refine lv_iload_n hx hb dE_askedOfX_12 rfl (lv_at hl 3 rfl) ?_
  refine dw_ia (x := (Nf) (v)) hx hb hG 4 0 rfl rfl (v) rfl (by omega) (by decide) rfl dE_askedOfX_13 ?_
  refine lv_istore (lv' := [(5, .int ((Nf) (v))), (4, .int (nI (y))), (0, .ref u0), (1, .ref f0), (2, .int (nI (v))), (3, .int (d))]) hx hb dE_askedOfX_14 hl (by decide) rfl (fun ls hl => ?_)
  refine lv_aload_n hx hb dE_askedOfX_16 rfl (lv_at hl 2 rfl) ?_
  refine dw_get hx hb hts inUc hown hG 0 0 rfl rfl (by decide) hw33 rfl rfl dE_askedOfX_17 ?_
  refine lv_iload_n hx hb dE_askedOfX_20 rfl (lv_at hl 4 rfl) ?_
  refine dw_ia (x := 8) hx hb hG 1 0 rfl rfl (v) rfl (by omega) (by decide) ek dE_askedOfX_21 ?_
  refine lv_tableIn (tgt := 146) hx hb dE_askedOfX_22 (by decide) (by decide) rfl (by decide) ?_
  refine lv_iload_n hx hb dE_askedOfX_146 rfl (lv_at hl 5 rfl) ?_
  refine lv_iload hx hb dE_askedOfX_147 (lv_at hl 0 rfl) ?_
  refine lv_ishl hx hb dE_askedOfX_149 ?_
  subst hQ
  exact dw_iret hx hb hr hG (()) rfl rfl dE_askedOfX_150 hlocks

set_option maxRecDepth 100000 in
set_option maxHeartbeats 4000000 in
theorem ce_askedOfX9 (l : Launch) (dC : Nat → ClassId) (dI : Nat → Nat → Nat) (cI cZ : ClassId) (f0 aZ aO : Nat) (ch : Int32) (Zs On : Nat → Int32) (u0 aK aX aY aN aV aM n R : Nat) (Kf Xf Yf Nf : Nat → Int32) (v x y : Nat) (d : Int32) (sz : Nat) (hv : v < 24) (hx9 : x < 24) (hy9 : y < 24) (ex : Xf v = nI x) (ey : Yf v = nI y) (ek : Kf v = nI 9) : Met l yE_askedOfX wsE_askedOfX { frames := 2, cells := 0, slots := 0, locals := 60 } (va_Pc [.ref u0, .ref f0, .int (nI (v)), .int (d)] (dw_pre (dC, dI) vwCl [(u0, .inr (1, [.ref aK, .ref aX, .ref aY, .ref aN, .ref aV, .ref aM, .int (nI (n)), .int (nI (R))])), (aK, .inl (cI, 24, .inl (Kf))), (aX, .inl (cI, 24, .inl (Xf))), (aY, .inl (cI, 24, .inl (Yf))), (aN, .inl (cI, 24, .inl (Nf))), (f0, .inr (2, [.ref aZ, .ref aO, .int (ch)])), (aZ, .inl (cI, 24, .inl (Zs))), (aO, .inl (cI, 24, .inl (On)))] [(cI, .int), (cZ, .boolean)] sz)) (va_Qi (fun (r : Int32) (u : Unit) => r = db_askX 9 (Nf v) (Zs y) (On y) d) (fun u t => dw_post (dC, dI) vwCl [(u0, .inr (1, [.ref aK, .ref aX, .ref aY, .ref aN, .ref aV, .ref aM, .int (nI (n)), .int (nI (R))])), (aK, .inl (cI, 24, .inl (Kf))), (aX, .inl (cI, 24, .inl (Xf))), (aY, .inl (cI, 24, .inl (Yf))), (aN, .inl (cI, 24, .inl (Nf))), (f0, .inr (2, [.ref aZ, .ref aO, .int (ch)])), (aZ, .inl (cI, 24, .inl (Zs))), (aO, .inl (cI, 24, .inl (On)))] [(cI, .int), (cZ, .boolean)] (va_A [(u0, .inr (1, [.ref aK, .ref aX, .ref aY, .ref aN, .ref aV, .ref aM, .int (nI (n)), .int (nI (R))])), (aK, .inl (cI, 24, .inl (Kf))), (aX, .inl (cI, 24, .inl (Xf))), (aY, .inl (cI, 24, .inl (Yf))), (aN, .inl (cI, 24, .inl (Nf))), (f0, .inr (2, [.ref aZ, .ref aO, .int (ch)])), (aZ, .inl (cI, 24, .inl (Zs))), (aO, .inl (cI, 24, .inl (On)))] sz) t) (va_A [(u0, .inr (1, [.ref aK, .ref aX, .ref aY, .ref aN, .ref aV, .ref aM, .int (nI (n)), .int (nI (R))])), (aK, .inl (cI, 24, .inl (Kf))), (aX, .inl (cI, 24, .inl (Xf))), (aY, .inl (cI, 24, .inl (Yf))), (aN, .inl (cI, 24, .inl (Nf))), (f0, .inr (2, [.ref aZ, .ref aO, .int (ch)])), (aZ, .inl (cI, 24, .inl (Zs))), (aO, .inl (cI, 24, .inl (On)))] sz)) 0 0 (va_A [(u0, .inr (1, [.ref aK, .ref aX, .ref aY, .ref aN, .ref aV, .ref aM, .int (nI (n)), .int (nI (R))])), (aK, .inl (cI, 24, .inl (Kf))), (aX, .inl (cI, 24, .inl (Xf))), (aY, .inl (cI, 24, .inl (Yf))), (aN, .inl (cI, 24, .inl (Nf))), (f0, .inr (2, [.ref aZ, .ref aO, .int (ch)])), (aZ, .inl (cI, 24, .inl (Zs))), (aO, .inl (cI, 24, .inl (On)))] sz) := by
  refine Met.ofW (cc := cE_askedOfX) (maxL := 6) (ret := (some .int)) (by decide) rfl ?_
  intro p e s m args below meth c s₁ B hml hv0
  have hx := B.exec
  have hb := B.bytes
  have hr := B.returns
  have hts := atoms_spec (ws := wsE_askedOfX) B.pre
  have hown : s.vm.findClass RE = some m.cls := findClass_of_methodNamed B.named
  have hlocks := B.notSynchronized
  obtain ⟨rfl, hsz, hG⟩ := dw_enter hv0
  generalize va_A [(u0, .inr (1, [.ref aK, .ref aX, .ref aY, .ref aN, .ref aV, .ref aM, .int (nI (n)), .int (nI (R))])), (aK, .inl (cI, 24, .inl (Kf))), (aX, .inl (cI, 24, .inl (Xf))), (aY, .inl (cI, 24, .inl (Yf))), (aN, .inl (cI, 24, .inl (Nf))), (f0, .inr (2, [.ref aZ, .ref aO, .int (ch)])), (aZ, .inl (cI, 24, .inl (Zs))), (aO, .inl (cI, 24, .inl (On)))] sz = A at hG ⊢
  have hl := lv_entry ([.ref u0, .ref f0, .int (nI (v)), .int (d)]) (n := 6) (Nat.le_of_ble_eq_true rfl)
  rw [lg_entry_eq]
  generalize (lg_sl ([.ref u0, .ref f0, .int (nI (v)), .int (d)]) ++ List.replicate (6 - (lg_sl ([.ref u0, .ref f0, .int (nI (v)), .int (d)])).length) Slot.unset).toArray = ls at hl ⊢
  have hl : lv_has ls 6 [(0, .ref u0), (1, .ref f0), (2, .int (nI (v))), (3, .int (d))] := hl
  have hw42 := hts _ (List.mem_cons_of_mem _ tw_42)
  have hw47 := hts _ (List.mem_cons_of_mem _ tw_47)
  have hw33 := hts _ (List.mem_cons_of_mem _ tw_33)
  refine dw_Q (fun Q hQ => ?_)
  suffices hgo : ∀ (H : Heap) (locs : List Loc), dw_G (dC, dI) vwCl [(cI, .int), (cZ, .boolean)] A s.heap s [(u0, .inr (1, [.ref aK, .ref aX, .ref aY, .ref aN, .ref aV, .ref aM, .int (nI (n)), .int (nI (R))])), (aK, .inl (cI, 24, .inl (Kf))), (aX, .inl (cI, 24, .inl (Xf))), (aY, .inl (cI, 24, .inl (Yf))), (aN, .inl (cI, 24, .inl (Nf))), (f0, .inr (2, [.ref aZ, .ref aO, .int (ch)])), (aZ, .inl (cI, 24, .inl (Zs))), (aO, .inl (cI, 24, .inl (On)))] H locs → W p l e (headSpec wsE_askedOfX { frames := 2, cells := 0, slots := 0, locals := 60 }).room s m [.ref u0, .ref f0, .int (nI (v)), .int (d)].toArray below meth c H locs 0 0 Q (F0 m 0 ls []) from hgo _ _ hG
  clear hG
  intro H locs hG
  refine lv_aload_n hx hb dE_askedOfX_0 rfl (lv_at hl 0 rfl) ?_
  refine dw_get hx hb hts inUc hown hG 0 2 rfl rfl (by decide) hw42 rfl rfl dE_askedOfX_1 ?_
  refine lv_iload_n hx hb dE_askedOfX_4 rfl (lv_at hl 2 rfl) ?_
  refine dw_ia (x := nI (y)) hx hb hG 3 0 rfl rfl (v) rfl (by omega) (by decide) ey dE_askedOfX_5 ?_
  refine lv_istore (lv' := [(4, .int (nI (y))), (0, .ref u0), (1, .ref f0), (2, .int (nI (v))), (3, .int (d))]) hx hb dE_askedOfX_6 hl (by decide) rfl (fun ls hl => ?_)
  refine lv_aload_n hx hb dE_askedOfX_8 rfl (lv_at hl 1 rfl) ?_
  refine dw_get hx hb hts inUc hown hG 0 3 rfl rfl (by decide) hw47 rfl rfl dE_askedOfX_9 ?_
  refine lv_iload_n hx hb dE_askedOfX_12 rfl (lv_at hl 3 rfl) ?_
  refine dw_ia (x := (Nf) (v)) hx hb hG 4 0 rfl rfl (v) rfl (by omega) (by decide) rfl dE_askedOfX_13 ?_
  refine lv_istore (lv' := [(5, .int ((Nf) (v))), (4, .int (nI (y))), (0, .ref u0), (1, .ref f0), (2, .int (nI (v))), (3, .int (d))]) hx hb dE_askedOfX_14 hl (by decide) rfl (fun ls hl => ?_)
  refine lv_aload_n hx hb dE_askedOfX_16 rfl (lv_at hl 2 rfl) ?_
  refine dw_get hx hb hts inUc hown hG 0 0 rfl rfl (by decide) hw33 rfl rfl dE_askedOfX_17 ?_
  refine lv_iload_n hx hb dE_askedOfX_20 rfl (lv_at hl 4 rfl) ?_
  refine dw_ia (x := 9) hx hb hG 1 0 rfl rfl (v) rfl (by omega) (by decide) ek dE_askedOfX_21 ?_
  refine lv_tableIn (tgt := 197) hx hb dE_askedOfX_22 (by decide) (by decide) rfl (by decide) ?_
  refine lv_iconst (v := 0) hx hb dE_askedOfX_197 (by decide) ?_
  subst hQ
  exact dw_iret hx hb hr hG (()) rfl rfl dE_askedOfX_198 hlocks

set_option maxRecDepth 100000 in
set_option maxHeartbeats 4000000 in
theorem ce_askedOfX10 (l : Launch) (dC : Nat → ClassId) (dI : Nat → Nat → Nat) (cI cZ : ClassId) (f0 aZ aO : Nat) (ch : Int32) (Zs On : Nat → Int32) (u0 aK aX aY aN aV aM n R : Nat) (Kf Xf Yf Nf : Nat → Int32) (v x y : Nat) (d : Int32) (sz : Nat) (hv : v < 24) (hx9 : x < 24) (hy9 : y < 24) (ex : Xf v = nI x) (ey : Yf v = nI y) (ek : Kf v = nI 10) : Met l yE_askedOfX wsE_askedOfX { frames := 2, cells := 0, slots := 0, locals := 60 } (va_Pc [.ref u0, .ref f0, .int (nI (v)), .int (d)] (dw_pre (dC, dI) vwCl [(u0, .inr (1, [.ref aK, .ref aX, .ref aY, .ref aN, .ref aV, .ref aM, .int (nI (n)), .int (nI (R))])), (aK, .inl (cI, 24, .inl (Kf))), (aX, .inl (cI, 24, .inl (Xf))), (aY, .inl (cI, 24, .inl (Yf))), (aN, .inl (cI, 24, .inl (Nf))), (f0, .inr (2, [.ref aZ, .ref aO, .int (ch)])), (aZ, .inl (cI, 24, .inl (Zs))), (aO, .inl (cI, 24, .inl (On)))] [(cI, .int), (cZ, .boolean)] sz)) (va_Qi (fun (r : Int32) (u : Unit) => r = db_askX 10 (Nf v) (Zs y) (On y) d) (fun u t => dw_post (dC, dI) vwCl [(u0, .inr (1, [.ref aK, .ref aX, .ref aY, .ref aN, .ref aV, .ref aM, .int (nI (n)), .int (nI (R))])), (aK, .inl (cI, 24, .inl (Kf))), (aX, .inl (cI, 24, .inl (Xf))), (aY, .inl (cI, 24, .inl (Yf))), (aN, .inl (cI, 24, .inl (Nf))), (f0, .inr (2, [.ref aZ, .ref aO, .int (ch)])), (aZ, .inl (cI, 24, .inl (Zs))), (aO, .inl (cI, 24, .inl (On)))] [(cI, .int), (cZ, .boolean)] (va_A [(u0, .inr (1, [.ref aK, .ref aX, .ref aY, .ref aN, .ref aV, .ref aM, .int (nI (n)), .int (nI (R))])), (aK, .inl (cI, 24, .inl (Kf))), (aX, .inl (cI, 24, .inl (Xf))), (aY, .inl (cI, 24, .inl (Yf))), (aN, .inl (cI, 24, .inl (Nf))), (f0, .inr (2, [.ref aZ, .ref aO, .int (ch)])), (aZ, .inl (cI, 24, .inl (Zs))), (aO, .inl (cI, 24, .inl (On)))] sz) t) (va_A [(u0, .inr (1, [.ref aK, .ref aX, .ref aY, .ref aN, .ref aV, .ref aM, .int (nI (n)), .int (nI (R))])), (aK, .inl (cI, 24, .inl (Kf))), (aX, .inl (cI, 24, .inl (Xf))), (aY, .inl (cI, 24, .inl (Yf))), (aN, .inl (cI, 24, .inl (Nf))), (f0, .inr (2, [.ref aZ, .ref aO, .int (ch)])), (aZ, .inl (cI, 24, .inl (Zs))), (aO, .inl (cI, 24, .inl (On)))] sz)) 0 0 (va_A [(u0, .inr (1, [.ref aK, .ref aX, .ref aY, .ref aN, .ref aV, .ref aM, .int (nI (n)), .int (nI (R))])), (aK, .inl (cI, 24, .inl (Kf))), (aX, .inl (cI, 24, .inl (Xf))), (aY, .inl (cI, 24, .inl (Yf))), (aN, .inl (cI, 24, .inl (Nf))), (f0, .inr (2, [.ref aZ, .ref aO, .int (ch)])), (aZ, .inl (cI, 24, .inl (Zs))), (aO, .inl (cI, 24, .inl (On)))] sz) := by
  refine Met.ofW (cc := cE_askedOfX) (maxL := 6) (ret := (some .int)) (by decide) rfl ?_
  intro p e s m args below meth c s₁ B hml hv0
  have hx := B.exec
  have hb := B.bytes
  have hr := B.returns
  have hts := atoms_spec (ws := wsE_askedOfX) B.pre
  have hown : s.vm.findClass RE = some m.cls := findClass_of_methodNamed B.named
  have hlocks := B.notSynchronized
  obtain ⟨rfl, hsz, hG⟩ := dw_enter hv0
  generalize va_A [(u0, .inr (1, [.ref aK, .ref aX, .ref aY, .ref aN, .ref aV, .ref aM, .int (nI (n)), .int (nI (R))])), (aK, .inl (cI, 24, .inl (Kf))), (aX, .inl (cI, 24, .inl (Xf))), (aY, .inl (cI, 24, .inl (Yf))), (aN, .inl (cI, 24, .inl (Nf))), (f0, .inr (2, [.ref aZ, .ref aO, .int (ch)])), (aZ, .inl (cI, 24, .inl (Zs))), (aO, .inl (cI, 24, .inl (On)))] sz = A at hG ⊢
  have hl := lv_entry ([.ref u0, .ref f0, .int (nI (v)), .int (d)]) (n := 6) (Nat.le_of_ble_eq_true rfl)
  rw [lg_entry_eq]
  generalize (lg_sl ([.ref u0, .ref f0, .int (nI (v)), .int (d)]) ++ List.replicate (6 - (lg_sl ([.ref u0, .ref f0, .int (nI (v)), .int (d)])).length) Slot.unset).toArray = ls at hl ⊢
  have hl : lv_has ls 6 [(0, .ref u0), (1, .ref f0), (2, .int (nI (v))), (3, .int (d))] := hl
  have hw42 := hts _ (List.mem_cons_of_mem _ tw_42)
  have hw47 := hts _ (List.mem_cons_of_mem _ tw_47)
  have hw33 := hts _ (List.mem_cons_of_mem _ tw_33)
  refine dw_Q (fun Q hQ => ?_)
  suffices hgo : ∀ (H : Heap) (locs : List Loc), dw_G (dC, dI) vwCl [(cI, .int), (cZ, .boolean)] A s.heap s [(u0, .inr (1, [.ref aK, .ref aX, .ref aY, .ref aN, .ref aV, .ref aM, .int (nI (n)), .int (nI (R))])), (aK, .inl (cI, 24, .inl (Kf))), (aX, .inl (cI, 24, .inl (Xf))), (aY, .inl (cI, 24, .inl (Yf))), (aN, .inl (cI, 24, .inl (Nf))), (f0, .inr (2, [.ref aZ, .ref aO, .int (ch)])), (aZ, .inl (cI, 24, .inl (Zs))), (aO, .inl (cI, 24, .inl (On)))] H locs → W p l e (headSpec wsE_askedOfX { frames := 2, cells := 0, slots := 0, locals := 60 }).room s m [.ref u0, .ref f0, .int (nI (v)), .int (d)].toArray below meth c H locs 0 0 Q (F0 m 0 ls []) from hgo _ _ hG
  clear hG
  intro H locs hG
  refine lv_aload_n hx hb dE_askedOfX_0 rfl (lv_at hl 0 rfl) ?_
  refine dw_get hx hb hts inUc hown hG 0 2 rfl rfl (by decide) hw42 rfl rfl dE_askedOfX_1 ?_
  refine lv_iload_n hx hb dE_askedOfX_4 rfl (lv_at hl 2 rfl) ?_
  refine dw_ia (x := nI (y)) hx hb hG 3 0 rfl rfl (v) rfl (by omega) (by decide) ey dE_askedOfX_5 ?_
  refine lv_istore (lv' := [(4, .int (nI (y))), (0, .ref u0), (1, .ref f0), (2, .int (nI (v))), (3, .int (d))]) hx hb dE_askedOfX_6 hl (by decide) rfl (fun ls hl => ?_)
  refine lv_aload_n hx hb dE_askedOfX_8 rfl (lv_at hl 1 rfl) ?_
  refine dw_get hx hb hts inUc hown hG 0 3 rfl rfl (by decide) hw47 rfl rfl dE_askedOfX_9 ?_
  refine lv_iload_n hx hb dE_askedOfX_12 rfl (lv_at hl 3 rfl) ?_
  refine dw_ia (x := (Nf) (v)) hx hb hG 4 0 rfl rfl (v) rfl (by omega) (by decide) rfl dE_askedOfX_13 ?_
  refine lv_istore (lv' := [(5, .int ((Nf) (v))), (4, .int (nI (y))), (0, .ref u0), (1, .ref f0), (2, .int (nI (v))), (3, .int (d))]) hx hb dE_askedOfX_14 hl (by decide) rfl (fun ls hl => ?_)
  refine lv_aload_n hx hb dE_askedOfX_16 rfl (lv_at hl 2 rfl) ?_
  refine dw_get hx hb hts inUc hown hG 0 0 rfl rfl (by decide) hw33 rfl rfl dE_askedOfX_17 ?_
  refine lv_iload_n hx hb dE_askedOfX_20 rfl (lv_at hl 4 rfl) ?_
  refine dw_ia (x := 10) hx hb hG 1 0 rfl rfl (v) rfl (by omega) (by decide) ek dE_askedOfX_21 ?_
  refine lv_tableIn (tgt := 197) hx hb dE_askedOfX_22 (by decide) (by decide) rfl (by decide) ?_
  refine lv_iconst (v := 0) hx hb dE_askedOfX_197 (by decide) ?_
  subst hQ
  exact dw_iret hx hb hr hG (()) rfl rfl dE_askedOfX_198 hlocks

set_option maxRecDepth 100000 in
set_option maxHeartbeats 4000000 in
theorem ce_askedOfX11 (l : Launch) (dC : Nat → ClassId) (dI : Nat → Nat → Nat) (cI cZ : ClassId) (f0 aZ aO : Nat) (ch : Int32) (Zs On : Nat → Int32) (u0 aK aX aY aN aV aM n R : Nat) (Kf Xf Yf Nf : Nat → Int32) (v x y : Nat) (d : Int32) (sz : Nat) (hv : v < 24) (hx9 : x < 24) (hy9 : y < 24) (ex : Xf v = nI x) (ey : Yf v = nI y) (ek : Kf v = nI 11) : Met l yE_askedOfX wsE_askedOfX { frames := 2, cells := 0, slots := 0, locals := 60 } (va_Pc [.ref u0, .ref f0, .int (nI (v)), .int (d)] (dw_pre (dC, dI) vwCl [(u0, .inr (1, [.ref aK, .ref aX, .ref aY, .ref aN, .ref aV, .ref aM, .int (nI (n)), .int (nI (R))])), (aK, .inl (cI, 24, .inl (Kf))), (aX, .inl (cI, 24, .inl (Xf))), (aY, .inl (cI, 24, .inl (Yf))), (aN, .inl (cI, 24, .inl (Nf))), (f0, .inr (2, [.ref aZ, .ref aO, .int (ch)])), (aZ, .inl (cI, 24, .inl (Zs))), (aO, .inl (cI, 24, .inl (On)))] [(cI, .int), (cZ, .boolean)] sz)) (va_Qi (fun (r : Int32) (u : Unit) => r = db_askX 11 (Nf v) (Zs y) (On y) d) (fun u t => dw_post (dC, dI) vwCl [(u0, .inr (1, [.ref aK, .ref aX, .ref aY, .ref aN, .ref aV, .ref aM, .int (nI (n)), .int (nI (R))])), (aK, .inl (cI, 24, .inl (Kf))), (aX, .inl (cI, 24, .inl (Xf))), (aY, .inl (cI, 24, .inl (Yf))), (aN, .inl (cI, 24, .inl (Nf))), (f0, .inr (2, [.ref aZ, .ref aO, .int (ch)])), (aZ, .inl (cI, 24, .inl (Zs))), (aO, .inl (cI, 24, .inl (On)))] [(cI, .int), (cZ, .boolean)] (va_A [(u0, .inr (1, [.ref aK, .ref aX, .ref aY, .ref aN, .ref aV, .ref aM, .int (nI (n)), .int (nI (R))])), (aK, .inl (cI, 24, .inl (Kf))), (aX, .inl (cI, 24, .inl (Xf))), (aY, .inl (cI, 24, .inl (Yf))), (aN, .inl (cI, 24, .inl (Nf))), (f0, .inr (2, [.ref aZ, .ref aO, .int (ch)])), (aZ, .inl (cI, 24, .inl (Zs))), (aO, .inl (cI, 24, .inl (On)))] sz) t) (va_A [(u0, .inr (1, [.ref aK, .ref aX, .ref aY, .ref aN, .ref aV, .ref aM, .int (nI (n)), .int (nI (R))])), (aK, .inl (cI, 24, .inl (Kf))), (aX, .inl (cI, 24, .inl (Xf))), (aY, .inl (cI, 24, .inl (Yf))), (aN, .inl (cI, 24, .inl (Nf))), (f0, .inr (2, [.ref aZ, .ref aO, .int (ch)])), (aZ, .inl (cI, 24, .inl (Zs))), (aO, .inl (cI, 24, .inl (On)))] sz)) 0 0 (va_A [(u0, .inr (1, [.ref aK, .ref aX, .ref aY, .ref aN, .ref aV, .ref aM, .int (nI (n)), .int (nI (R))])), (aK, .inl (cI, 24, .inl (Kf))), (aX, .inl (cI, 24, .inl (Xf))), (aY, .inl (cI, 24, .inl (Yf))), (aN, .inl (cI, 24, .inl (Nf))), (f0, .inr (2, [.ref aZ, .ref aO, .int (ch)])), (aZ, .inl (cI, 24, .inl (Zs))), (aO, .inl (cI, 24, .inl (On)))] sz) := by
  refine Met.ofW (cc := cE_askedOfX) (maxL := 6) (ret := (some .int)) (by decide) rfl ?_
  intro p e s m args below meth c s₁ B hml hv0
  have hx := B.exec
  have hb := B.bytes
  have hr := B.returns
  have hts := atoms_spec (ws := wsE_askedOfX) B.pre
  have hown : s.vm.findClass RE = some m.cls := findClass_of_methodNamed B.named
  have hlocks := B.notSynchronized
  obtain ⟨rfl, hsz, hG⟩ := dw_enter hv0
  generalize va_A [(u0, .inr (1, [.ref aK, .ref aX, .ref aY, .ref aN, .ref aV, .ref aM, .int (nI (n)), .int (nI (R))])), (aK, .inl (cI, 24, .inl (Kf))), (aX, .inl (cI, 24, .inl (Xf))), (aY, .inl (cI, 24, .inl (Yf))), (aN, .inl (cI, 24, .inl (Nf))), (f0, .inr (2, [.ref aZ, .ref aO, .int (ch)])), (aZ, .inl (cI, 24, .inl (Zs))), (aO, .inl (cI, 24, .inl (On)))] sz = A at hG ⊢
  have hl := lv_entry ([.ref u0, .ref f0, .int (nI (v)), .int (d)]) (n := 6) (Nat.le_of_ble_eq_true rfl)
  rw [lg_entry_eq]
  generalize (lg_sl ([.ref u0, .ref f0, .int (nI (v)), .int (d)]) ++ List.replicate (6 - (lg_sl ([.ref u0, .ref f0, .int (nI (v)), .int (d)])).length) Slot.unset).toArray = ls at hl ⊢
  have hl : lv_has ls 6 [(0, .ref u0), (1, .ref f0), (2, .int (nI (v))), (3, .int (d))] := hl
  have hw42 := hts _ (List.mem_cons_of_mem _ tw_42)
  have hw47 := hts _ (List.mem_cons_of_mem _ tw_47)
  have hw33 := hts _ (List.mem_cons_of_mem _ tw_33)
  refine dw_Q (fun Q hQ => ?_)
  suffices hgo : ∀ (H : Heap) (locs : List Loc), dw_G (dC, dI) vwCl [(cI, .int), (cZ, .boolean)] A s.heap s [(u0, .inr (1, [.ref aK, .ref aX, .ref aY, .ref aN, .ref aV, .ref aM, .int (nI (n)), .int (nI (R))])), (aK, .inl (cI, 24, .inl (Kf))), (aX, .inl (cI, 24, .inl (Xf))), (aY, .inl (cI, 24, .inl (Yf))), (aN, .inl (cI, 24, .inl (Nf))), (f0, .inr (2, [.ref aZ, .ref aO, .int (ch)])), (aZ, .inl (cI, 24, .inl (Zs))), (aO, .inl (cI, 24, .inl (On)))] H locs → W p l e (headSpec wsE_askedOfX { frames := 2, cells := 0, slots := 0, locals := 60 }).room s m [.ref u0, .ref f0, .int (nI (v)), .int (d)].toArray below meth c H locs 0 0 Q (F0 m 0 ls []) from hgo _ _ hG
  clear hG
  intro H locs hG
  refine lv_aload_n hx hb dE_askedOfX_0 rfl (lv_at hl 0 rfl) ?_
  refine dw_get hx hb hts inUc hown hG 0 2 rfl rfl (by decide) hw42 rfl rfl dE_askedOfX_1 ?_
  refine lv_iload_n hx hb dE_askedOfX_4 rfl (lv_at hl 2 rfl) ?_
  refine dw_ia (x := nI (y)) hx hb hG 3 0 rfl rfl (v) rfl (by omega) (by decide) ey dE_askedOfX_5 ?_
  refine lv_istore (lv' := [(4, .int (nI (y))), (0, .ref u0), (1, .ref f0), (2, .int (nI (v))), (3, .int (d))]) hx hb dE_askedOfX_6 hl (by decide) rfl (fun ls hl => ?_)
  refine lv_aload_n hx hb dE_askedOfX_8 rfl (lv_at hl 1 rfl) ?_
  refine dw_get hx hb hts inUc hown hG 0 3 rfl rfl (by decide) hw47 rfl rfl dE_askedOfX_9 ?_
  refine lv_iload_n hx hb dE_askedOfX_12 rfl (lv_at hl 3 rfl) ?_
  refine dw_ia (x := (Nf) (v)) hx hb hG 4 0 rfl rfl (v) rfl (by omega) (by decide) rfl dE_askedOfX_13 ?_
  refine lv_istore (lv' := [(5, .int ((Nf) (v))), (4, .int (nI (y))), (0, .ref u0), (1, .ref f0), (2, .int (nI (v))), (3, .int (d))]) hx hb dE_askedOfX_14 hl (by decide) rfl (fun ls hl => ?_)
  refine lv_aload_n hx hb dE_askedOfX_16 rfl (lv_at hl 2 rfl) ?_
  refine dw_get hx hb hts inUc hown hG 0 0 rfl rfl (by decide) hw33 rfl rfl dE_askedOfX_17 ?_
  refine lv_iload_n hx hb dE_askedOfX_20 rfl (lv_at hl 4 rfl) ?_
  refine dw_ia (x := 11) hx hb hG 1 0 rfl rfl (v) rfl (by omega) (by decide) ek dE_askedOfX_21 ?_
  refine lv_tableIn (tgt := 151) hx hb dE_askedOfX_22 (by decide) (by decide) rfl (by decide) ?_
  refine lv_iload_n hx hb dE_askedOfX_151 rfl (lv_at hl 5 rfl) ?_
  refine lv_bipush (v := 7) hx hb dE_askedOfX_152 (by decide) ?_
  refine dw_calli (wc := []) (wr := [(u0, .inr (1, [.ref aK, .ref aX, .ref aY, .ref aN, .ref aV, .ref aM, .int (nI (n)), .int (nI (R))])), (aK, .inl (cI, 24, .inl (Kf))), (aX, .inl (cI, 24, .inl (Xf))), (aY, .inl (cI, 24, .inl (Yf))), (aN, .inl (cI, 24, .inl (Nf))), (f0, .inr (2, [.ref aZ, .ref aO, .int (ch)])), (aZ, .inl (cI, 24, .inl (Zs))), (aO, .inl (cI, 24, .inl (On)))]) hG [] [0, 1, 2, 3, 4, 5, 6, 7] rfl rfl (by decide) (by decide) (va_runSN (As := [.int (7)]) (rest := [.int (d)]) ⟨hx, hb, hml, hown, hts⟩ (cb_lowest l dC dI cI cZ 7 H.size (by omega)) (dc_N 1 hts hG.2.2.2.2.2 6 rfl tw_206 tw_1 tw_207 rfl rfl (by decide +kernel) ⟨Nat.le_of_ble_eq_true rfl, Nat.le_of_ble_eq_true rfl⟩) (dw_preS hG [] [0, 1] rfl rfl (by decide) rfl) rfl rfl hl.1 rfl (lv_room (Nat.le_of_ble_eq_true rfl)) dE_askedOfX_154 ⟨Nat.le_refl _, Nat.le_refl _⟩) (fun r u H locs hp hG => ?_)
  subst hp
  have hG : dw_G (dC, dI) vwCl [(cI, .int), (cZ, .boolean)] A s.heap s [(u0, .inr (1, [.ref aK, .ref aX, .ref aY, .ref aN, .ref aV, .ref aM, .int (nI (n)), .int (nI (R))])), (aK, .inl (cI, 24, .inl (Kf))), (aX, .inl (cI, 24, .inl (Xf))), (aY, .inl (cI, 24, .inl (Yf))), (aN, .inl (cI, 24, .inl (Nf))), (f0, .inr (2, [.ref aZ, .ref aO, .int (ch)])), (aZ, .inl (cI, 24, .inl (Zs))), (aO, .inl (cI, 24, .inl (On)))] H locs := hG
  refine lv_iand hx hb dE_askedOfX_157 ?_
  refine lv_iload_n hx hb dE_askedOfX_158 rfl (lv_at hl 5 rfl) ?_
  refine lv_bipush (v := 7) hx hb dE_askedOfX_159 (by decide) ?_
  refine dw_calli (wc := []) (wr := [(u0, .inr (1, [.ref aK, .ref aX, .ref aY, .ref aN, .ref aV, .ref aM, .int (nI (n)), .int (nI (R))])), (aK, .inl (cI, 24, .inl (Kf))), (aX, .inl (cI, 24, .inl (Xf))), (aY, .inl (cI, 24, .inl (Yf))), (aN, .inl (cI, 24, .inl (Nf))), (f0, .inr (2, [.ref aZ, .ref aO, .int (ch)])), (aZ, .inl (cI, 24, .inl (Zs))), (aO, .inl (cI, 24, .inl (On)))]) hG [] [0, 1, 2, 3, 4, 5, 6, 7] rfl rfl (by decide) (by decide) (va_runSN (As := [.int (7)]) (rest := [.int (d), .int ((d) &&& (db_low 7))]) ⟨hx, hb, hml, hown, hts⟩ (cb_lowest l dC dI cI cZ 7 H.size (by omega)) (dc_N 1 hts hG.2.2.2.2.2 6 rfl tw_206 tw_1 tw_207 rfl rfl (by decide +kernel) ⟨Nat.le_of_ble_eq_true rfl, Nat.le_of_ble_eq_true rfl⟩) (dw_preS hG [] [0, 1] rfl rfl (by decide) rfl) rfl rfl hl.1 rfl (lv_room (Nat.le_of_ble_eq_true rfl)) dE_askedOfX_161 ⟨Nat.le_refl _, Nat.le_refl _⟩) (fun r u H locs hp hG => ?_)
  subst hp
  have hG : dw_G (dC, dI) vwCl [(cI, .int), (cZ, .boolean)] A s.heap s [(u0, .inr (1, [.ref aK, .ref aX, .ref aY, .ref aN, .ref aV, .ref aM, .int (nI (n)), .int (nI (R))])), (aK, .inl (cI, 24, .inl (Kf))), (aX, .inl (cI, 24, .inl (Xf))), (aY, .inl (cI, 24, .inl (Yf))), (aN, .inl (cI, 24, .inl (Nf))), (f0, .inr (2, [.ref aZ, .ref aO, .int (ch)])), (aZ, .inl (cI, 24, .inl (Zs))), (aO, .inl (cI, 24, .inl (On)))] H locs := hG
  refine lv_iconst (v := -1) hx hb dE_askedOfX_164 (by decide) ?_
  refine lv_ixor hx hb dE_askedOfX_165 ?_
  refine lv_iand hx hb dE_askedOfX_166 ?_
  refine lv_bipush (v := 7) hx hb dE_askedOfX_167 (by decide) ?_
  refine dw_calli (wc := []) (wr := [(u0, .inr (1, [.ref aK, .ref aX, .ref aY, .ref aN, .ref aV, .ref aM, .int (nI (n)), .int (nI (R))])), (aK, .inl (cI, 24, .inl (Kf))), (aX, .inl (cI, 24, .inl (Xf))), (aY, .inl (cI, 24, .inl (Yf))), (aN, .inl (cI, 24, .inl (Nf))), (f0, .inr (2, [.ref aZ, .ref aO, .int (ch)])), (aZ, .inl (cI, 24, .inl (Zs))), (aO, .inl (cI, 24, .inl (On)))]) hG [] [0, 1, 2, 3, 4, 5, 6, 7] rfl rfl (by decide) (by decide) (va_runS (As := [.int ((d) &&& ((db_low 7) ^^^ (-1))), .int (7)]) (rest := [.int ((d) &&& (db_low 7))]) ⟨hx, hb, hml, hown, hts⟩ (ce_signIf l dC dI cI cZ ((d) &&& ((db_low 7) ^^^ (-1))) (7) H.size ) (dc_S 2 hts tw_235 tw_236 tw_4 tw_237 rfl rfl (by decide +kernel) ⟨Nat.le_of_ble_eq_true rfl, Nat.le_of_ble_eq_true rfl⟩) (dw_preS hG [] [0, 1] rfl rfl (by decide) rfl) rfl rfl hl.1 rfl (lv_room (Nat.le_of_ble_eq_true rfl)) dE_askedOfX_169 ⟨Nat.le_refl _, Nat.le_refl _⟩) (fun r u H locs hp hG => ?_)
  subst hp
  have hG : dw_G (dC, dI) vwCl [(cI, .int), (cZ, .boolean)] A s.heap s [(u0, .inr (1, [.ref aK, .ref aX, .ref aY, .ref aN, .ref aV, .ref aM, .int (nI (n)), .int (nI (R))])), (aK, .inl (cI, 24, .inl (Kf))), (aX, .inl (cI, 24, .inl (Xf))), (aY, .inl (cI, 24, .inl (Yf))), (aN, .inl (cI, 24, .inl (Nf))), (f0, .inr (2, [.ref aZ, .ref aO, .int (ch)])), (aZ, .inl (cI, 24, .inl (Zs))), (aO, .inl (cI, 24, .inl (On)))] H locs := hG
  refine lv_ior hx hb dE_askedOfX_172 ?_
  subst hQ
  exact dw_iret hx hb hr hG (()) rfl rfl dE_askedOfX_173 hlocks

set_option maxRecDepth 100000 in
set_option maxHeartbeats 4000000 in
theorem ce_askedOfX12 (l : Launch) (dC : Nat → ClassId) (dI : Nat → Nat → Nat) (cI cZ : ClassId) (f0 aZ aO : Nat) (ch : Int32) (Zs On : Nat → Int32) (u0 aK aX aY aN aV aM n R : Nat) (Kf Xf Yf Nf : Nat → Int32) (v x y : Nat) (d : Int32) (sz : Nat) (hv : v < 24) (hx9 : x < 24) (hy9 : y < 24) (ex : Xf v = nI x) (ey : Yf v = nI y) (ek : Kf v = nI 12) : Met l yE_askedOfX wsE_askedOfX { frames := 2, cells := 0, slots := 0, locals := 60 } (va_Pc [.ref u0, .ref f0, .int (nI (v)), .int (d)] (dw_pre (dC, dI) vwCl [(u0, .inr (1, [.ref aK, .ref aX, .ref aY, .ref aN, .ref aV, .ref aM, .int (nI (n)), .int (nI (R))])), (aK, .inl (cI, 24, .inl (Kf))), (aX, .inl (cI, 24, .inl (Xf))), (aY, .inl (cI, 24, .inl (Yf))), (aN, .inl (cI, 24, .inl (Nf))), (f0, .inr (2, [.ref aZ, .ref aO, .int (ch)])), (aZ, .inl (cI, 24, .inl (Zs))), (aO, .inl (cI, 24, .inl (On)))] [(cI, .int), (cZ, .boolean)] sz)) (va_Qi (fun (r : Int32) (u : Unit) => r = db_askX 12 (Nf v) (Zs y) (On y) d) (fun u t => dw_post (dC, dI) vwCl [(u0, .inr (1, [.ref aK, .ref aX, .ref aY, .ref aN, .ref aV, .ref aM, .int (nI (n)), .int (nI (R))])), (aK, .inl (cI, 24, .inl (Kf))), (aX, .inl (cI, 24, .inl (Xf))), (aY, .inl (cI, 24, .inl (Yf))), (aN, .inl (cI, 24, .inl (Nf))), (f0, .inr (2, [.ref aZ, .ref aO, .int (ch)])), (aZ, .inl (cI, 24, .inl (Zs))), (aO, .inl (cI, 24, .inl (On)))] [(cI, .int), (cZ, .boolean)] (va_A [(u0, .inr (1, [.ref aK, .ref aX, .ref aY, .ref aN, .ref aV, .ref aM, .int (nI (n)), .int (nI (R))])), (aK, .inl (cI, 24, .inl (Kf))), (aX, .inl (cI, 24, .inl (Xf))), (aY, .inl (cI, 24, .inl (Yf))), (aN, .inl (cI, 24, .inl (Nf))), (f0, .inr (2, [.ref aZ, .ref aO, .int (ch)])), (aZ, .inl (cI, 24, .inl (Zs))), (aO, .inl (cI, 24, .inl (On)))] sz) t) (va_A [(u0, .inr (1, [.ref aK, .ref aX, .ref aY, .ref aN, .ref aV, .ref aM, .int (nI (n)), .int (nI (R))])), (aK, .inl (cI, 24, .inl (Kf))), (aX, .inl (cI, 24, .inl (Xf))), (aY, .inl (cI, 24, .inl (Yf))), (aN, .inl (cI, 24, .inl (Nf))), (f0, .inr (2, [.ref aZ, .ref aO, .int (ch)])), (aZ, .inl (cI, 24, .inl (Zs))), (aO, .inl (cI, 24, .inl (On)))] sz)) 0 0 (va_A [(u0, .inr (1, [.ref aK, .ref aX, .ref aY, .ref aN, .ref aV, .ref aM, .int (nI (n)), .int (nI (R))])), (aK, .inl (cI, 24, .inl (Kf))), (aX, .inl (cI, 24, .inl (Xf))), (aY, .inl (cI, 24, .inl (Yf))), (aN, .inl (cI, 24, .inl (Nf))), (f0, .inr (2, [.ref aZ, .ref aO, .int (ch)])), (aZ, .inl (cI, 24, .inl (Zs))), (aO, .inl (cI, 24, .inl (On)))] sz) := by
  refine Met.ofW (cc := cE_askedOfX) (maxL := 6) (ret := (some .int)) (by decide) rfl ?_
  intro p e s m args below meth c s₁ B hml hv0
  have hx := B.exec
  have hb := B.bytes
  have hr := B.returns
  have hts := atoms_spec (ws := wsE_askedOfX) B.pre
  have hown : s.vm.findClass RE = some m.cls := findClass_of_methodNamed B.named
  have hlocks := B.notSynchronized
  obtain ⟨rfl, hsz, hG⟩ := dw_enter hv0
  generalize va_A [(u0, .inr (1, [.ref aK, .ref aX, .ref aY, .ref aN, .ref aV, .ref aM, .int (nI (n)), .int (nI (R))])), (aK, .inl (cI, 24, .inl (Kf))), (aX, .inl (cI, 24, .inl (Xf))), (aY, .inl (cI, 24, .inl (Yf))), (aN, .inl (cI, 24, .inl (Nf))), (f0, .inr (2, [.ref aZ, .ref aO, .int (ch)])), (aZ, .inl (cI, 24, .inl (Zs))), (aO, .inl (cI, 24, .inl (On)))] sz = A at hG ⊢
  have hl := lv_entry ([.ref u0, .ref f0, .int (nI (v)), .int (d)]) (n := 6) (Nat.le_of_ble_eq_true rfl)
  rw [lg_entry_eq]
  generalize (lg_sl ([.ref u0, .ref f0, .int (nI (v)), .int (d)]) ++ List.replicate (6 - (lg_sl ([.ref u0, .ref f0, .int (nI (v)), .int (d)])).length) Slot.unset).toArray = ls at hl ⊢
  have hl : lv_has ls 6 [(0, .ref u0), (1, .ref f0), (2, .int (nI (v))), (3, .int (d))] := hl
  have hw42 := hts _ (List.mem_cons_of_mem _ tw_42)
  have hw47 := hts _ (List.mem_cons_of_mem _ tw_47)
  have hw33 := hts _ (List.mem_cons_of_mem _ tw_33)
  refine dw_Q (fun Q hQ => ?_)
  suffices hgo : ∀ (H : Heap) (locs : List Loc), dw_G (dC, dI) vwCl [(cI, .int), (cZ, .boolean)] A s.heap s [(u0, .inr (1, [.ref aK, .ref aX, .ref aY, .ref aN, .ref aV, .ref aM, .int (nI (n)), .int (nI (R))])), (aK, .inl (cI, 24, .inl (Kf))), (aX, .inl (cI, 24, .inl (Xf))), (aY, .inl (cI, 24, .inl (Yf))), (aN, .inl (cI, 24, .inl (Nf))), (f0, .inr (2, [.ref aZ, .ref aO, .int (ch)])), (aZ, .inl (cI, 24, .inl (Zs))), (aO, .inl (cI, 24, .inl (On)))] H locs → W p l e (headSpec wsE_askedOfX { frames := 2, cells := 0, slots := 0, locals := 60 }).room s m [.ref u0, .ref f0, .int (nI (v)), .int (d)].toArray below meth c H locs 0 0 Q (F0 m 0 ls []) from hgo _ _ hG
  clear hG
  intro H locs hG
  refine lv_aload_n hx hb dE_askedOfX_0 rfl (lv_at hl 0 rfl) ?_
  refine dw_get hx hb hts inUc hown hG 0 2 rfl rfl (by decide) hw42 rfl rfl dE_askedOfX_1 ?_
  refine lv_iload_n hx hb dE_askedOfX_4 rfl (lv_at hl 2 rfl) ?_
  refine dw_ia (x := nI (y)) hx hb hG 3 0 rfl rfl (v) rfl (by omega) (by decide) ey dE_askedOfX_5 ?_
  refine lv_istore (lv' := [(4, .int (nI (y))), (0, .ref u0), (1, .ref f0), (2, .int (nI (v))), (3, .int (d))]) hx hb dE_askedOfX_6 hl (by decide) rfl (fun ls hl => ?_)
  refine lv_aload_n hx hb dE_askedOfX_8 rfl (lv_at hl 1 rfl) ?_
  refine dw_get hx hb hts inUc hown hG 0 3 rfl rfl (by decide) hw47 rfl rfl dE_askedOfX_9 ?_
  refine lv_iload_n hx hb dE_askedOfX_12 rfl (lv_at hl 3 rfl) ?_
  refine dw_ia (x := (Nf) (v)) hx hb hG 4 0 rfl rfl (v) rfl (by omega) (by decide) rfl dE_askedOfX_13 ?_
  refine lv_istore (lv' := [(5, .int ((Nf) (v))), (4, .int (nI (y))), (0, .ref u0), (1, .ref f0), (2, .int (nI (v))), (3, .int (d))]) hx hb dE_askedOfX_14 hl (by decide) rfl (fun ls hl => ?_)
  refine lv_aload_n hx hb dE_askedOfX_16 rfl (lv_at hl 2 rfl) ?_
  refine dw_get hx hb hts inUc hown hG 0 0 rfl rfl (by decide) hw33 rfl rfl dE_askedOfX_17 ?_
  refine lv_iload_n hx hb dE_askedOfX_20 rfl (lv_at hl 4 rfl) ?_
  refine dw_ia (x := 12) hx hb hG 1 0 rfl rfl (v) rfl (by omega) (by decide) ek dE_askedOfX_21 ?_
  refine lv_tableIn (tgt := 174) hx hb dE_askedOfX_22 (by decide) (by decide) rfl (by decide) ?_
  refine lv_iload_n hx hb dE_askedOfX_174 rfl (lv_at hl 5 rfl) ?_
  refine lv_bipush (v := 15) hx hb dE_askedOfX_175 (by decide) ?_
  refine dw_calli (wc := []) (wr := [(u0, .inr (1, [.ref aK, .ref aX, .ref aY, .ref aN, .ref aV, .ref aM, .int (nI (n)), .int (nI (R))])), (aK, .inl (cI, 24, .inl (Kf))), (aX, .inl (cI, 24, .inl (Xf))), (aY, .inl (cI, 24, .inl (Yf))), (aN, .inl (cI, 24, .inl (Nf))), (f0, .inr (2, [.ref aZ, .ref aO, .int (ch)])), (aZ, .inl (cI, 24, .inl (Zs))), (aO, .inl (cI, 24, .inl (On)))]) hG [] [0, 1, 2, 3, 4, 5, 6, 7] rfl rfl (by decide) (by decide) (va_runSN (As := [.int (15)]) (rest := [.int (d)]) ⟨hx, hb, hml, hown, hts⟩ (cb_lowest l dC dI cI cZ 15 H.size (by omega)) (dc_N 1 hts hG.2.2.2.2.2 6 rfl tw_206 tw_1 tw_207 rfl rfl (by decide +kernel) ⟨Nat.le_of_ble_eq_true rfl, Nat.le_of_ble_eq_true rfl⟩) (dw_preS hG [] [0, 1] rfl rfl (by decide) rfl) rfl rfl hl.1 rfl (lv_room (Nat.le_of_ble_eq_true rfl)) dE_askedOfX_177 ⟨Nat.le_refl _, Nat.le_refl _⟩) (fun r u H locs hp hG => ?_)
  subst hp
  have hG : dw_G (dC, dI) vwCl [(cI, .int), (cZ, .boolean)] A s.heap s [(u0, .inr (1, [.ref aK, .ref aX, .ref aY, .ref aN, .ref aV, .ref aM, .int (nI (n)), .int (nI (R))])), (aK, .inl (cI, 24, .inl (Kf))), (aX, .inl (cI, 24, .inl (Xf))), (aY, .inl (cI, 24, .inl (Yf))), (aN, .inl (cI, 24, .inl (Nf))), (f0, .inr (2, [.ref aZ, .ref aO, .int (ch)])), (aZ, .inl (cI, 24, .inl (Zs))), (aO, .inl (cI, 24, .inl (On)))] H locs := hG
  refine lv_iand hx hb dE_askedOfX_180 ?_
  refine lv_iload_n hx hb dE_askedOfX_181 rfl (lv_at hl 5 rfl) ?_
  refine lv_bipush (v := 15) hx hb dE_askedOfX_182 (by decide) ?_
  refine dw_calli (wc := []) (wr := [(u0, .inr (1, [.ref aK, .ref aX, .ref aY, .ref aN, .ref aV, .ref aM, .int (nI (n)), .int (nI (R))])), (aK, .inl (cI, 24, .inl (Kf))), (aX, .inl (cI, 24, .inl (Xf))), (aY, .inl (cI, 24, .inl (Yf))), (aN, .inl (cI, 24, .inl (Nf))), (f0, .inr (2, [.ref aZ, .ref aO, .int (ch)])), (aZ, .inl (cI, 24, .inl (Zs))), (aO, .inl (cI, 24, .inl (On)))]) hG [] [0, 1, 2, 3, 4, 5, 6, 7] rfl rfl (by decide) (by decide) (va_runSN (As := [.int (15)]) (rest := [.int (d), .int ((d) &&& (db_low 15))]) ⟨hx, hb, hml, hown, hts⟩ (cb_lowest l dC dI cI cZ 15 H.size (by omega)) (dc_N 1 hts hG.2.2.2.2.2 6 rfl tw_206 tw_1 tw_207 rfl rfl (by decide +kernel) ⟨Nat.le_of_ble_eq_true rfl, Nat.le_of_ble_eq_true rfl⟩) (dw_preS hG [] [0, 1] rfl rfl (by decide) rfl) rfl rfl hl.1 rfl (lv_room (Nat.le_of_ble_eq_true rfl)) dE_askedOfX_184 ⟨Nat.le_refl _, Nat.le_refl _⟩) (fun r u H locs hp hG => ?_)
  subst hp
  have hG : dw_G (dC, dI) vwCl [(cI, .int), (cZ, .boolean)] A s.heap s [(u0, .inr (1, [.ref aK, .ref aX, .ref aY, .ref aN, .ref aV, .ref aM, .int (nI (n)), .int (nI (R))])), (aK, .inl (cI, 24, .inl (Kf))), (aX, .inl (cI, 24, .inl (Xf))), (aY, .inl (cI, 24, .inl (Yf))), (aN, .inl (cI, 24, .inl (Nf))), (f0, .inr (2, [.ref aZ, .ref aO, .int (ch)])), (aZ, .inl (cI, 24, .inl (Zs))), (aO, .inl (cI, 24, .inl (On)))] H locs := hG
  refine lv_iconst (v := -1) hx hb dE_askedOfX_187 (by decide) ?_
  refine lv_ixor hx hb dE_askedOfX_188 ?_
  refine lv_iand hx hb dE_askedOfX_189 ?_
  refine lv_bipush (v := 15) hx hb dE_askedOfX_190 (by decide) ?_
  refine dw_calli (wc := []) (wr := [(u0, .inr (1, [.ref aK, .ref aX, .ref aY, .ref aN, .ref aV, .ref aM, .int (nI (n)), .int (nI (R))])), (aK, .inl (cI, 24, .inl (Kf))), (aX, .inl (cI, 24, .inl (Xf))), (aY, .inl (cI, 24, .inl (Yf))), (aN, .inl (cI, 24, .inl (Nf))), (f0, .inr (2, [.ref aZ, .ref aO, .int (ch)])), (aZ, .inl (cI, 24, .inl (Zs))), (aO, .inl (cI, 24, .inl (On)))]) hG [] [0, 1, 2, 3, 4, 5, 6, 7] rfl rfl (by decide) (by decide) (va_runS (As := [.int ((d) &&& ((db_low 15) ^^^ (-1))), .int (15)]) (rest := [.int ((d) &&& (db_low 15))]) ⟨hx, hb, hml, hown, hts⟩ (ce_signIf l dC dI cI cZ ((d) &&& ((db_low 15) ^^^ (-1))) (15) H.size ) (dc_S 2 hts tw_235 tw_236 tw_4 tw_237 rfl rfl (by decide +kernel) ⟨Nat.le_of_ble_eq_true rfl, Nat.le_of_ble_eq_true rfl⟩) (dw_preS hG [] [0, 1] rfl rfl (by decide) rfl) rfl rfl hl.1 rfl (lv_room (Nat.le_of_ble_eq_true rfl)) dE_askedOfX_192 ⟨Nat.le_refl _, Nat.le_refl _⟩) (fun r u H locs hp hG => ?_)
  subst hp
  have hG : dw_G (dC, dI) vwCl [(cI, .int), (cZ, .boolean)] A s.heap s [(u0, .inr (1, [.ref aK, .ref aX, .ref aY, .ref aN, .ref aV, .ref aM, .int (nI (n)), .int (nI (R))])), (aK, .inl (cI, 24, .inl (Kf))), (aX, .inl (cI, 24, .inl (Xf))), (aY, .inl (cI, 24, .inl (Yf))), (aN, .inl (cI, 24, .inl (Nf))), (f0, .inr (2, [.ref aZ, .ref aO, .int (ch)])), (aZ, .inl (cI, 24, .inl (Zs))), (aO, .inl (cI, 24, .inl (On)))] H locs := hG
  refine lv_ior hx hb dE_askedOfX_195 ?_
  subst hQ
  exact dw_iret hx hb hr hG (()) rfl rfl dE_askedOfX_196 hlocks

set_option maxRecDepth 100000 in
set_option maxHeartbeats 4000000 in
theorem ce_askedOfX13 (l : Launch) (dC : Nat → ClassId) (dI : Nat → Nat → Nat) (cI cZ : ClassId) (f0 aZ aO : Nat) (ch : Int32) (Zs On : Nat → Int32) (u0 aK aX aY aN aV aM n R : Nat) (Kf Xf Yf Nf : Nat → Int32) (v x y : Nat) (d : Int32) (sz : Nat) (hv : v < 24) (hx9 : x < 24) (hy9 : y < 24) (ex : Xf v = nI x) (ey : Yf v = nI y) (ek : Kf v = nI 13) : Met l yE_askedOfX wsE_askedOfX { frames := 2, cells := 0, slots := 0, locals := 60 } (va_Pc [.ref u0, .ref f0, .int (nI (v)), .int (d)] (dw_pre (dC, dI) vwCl [(u0, .inr (1, [.ref aK, .ref aX, .ref aY, .ref aN, .ref aV, .ref aM, .int (nI (n)), .int (nI (R))])), (aK, .inl (cI, 24, .inl (Kf))), (aX, .inl (cI, 24, .inl (Xf))), (aY, .inl (cI, 24, .inl (Yf))), (aN, .inl (cI, 24, .inl (Nf))), (f0, .inr (2, [.ref aZ, .ref aO, .int (ch)])), (aZ, .inl (cI, 24, .inl (Zs))), (aO, .inl (cI, 24, .inl (On)))] [(cI, .int), (cZ, .boolean)] sz)) (va_Qi (fun (r : Int32) (u : Unit) => r = db_askX 13 (Nf v) (Zs y) (On y) d) (fun u t => dw_post (dC, dI) vwCl [(u0, .inr (1, [.ref aK, .ref aX, .ref aY, .ref aN, .ref aV, .ref aM, .int (nI (n)), .int (nI (R))])), (aK, .inl (cI, 24, .inl (Kf))), (aX, .inl (cI, 24, .inl (Xf))), (aY, .inl (cI, 24, .inl (Yf))), (aN, .inl (cI, 24, .inl (Nf))), (f0, .inr (2, [.ref aZ, .ref aO, .int (ch)])), (aZ, .inl (cI, 24, .inl (Zs))), (aO, .inl (cI, 24, .inl (On)))] [(cI, .int), (cZ, .boolean)] (va_A [(u0, .inr (1, [.ref aK, .ref aX, .ref aY, .ref aN, .ref aV, .ref aM, .int (nI (n)), .int (nI (R))])), (aK, .inl (cI, 24, .inl (Kf))), (aX, .inl (cI, 24, .inl (Xf))), (aY, .inl (cI, 24, .inl (Yf))), (aN, .inl (cI, 24, .inl (Nf))), (f0, .inr (2, [.ref aZ, .ref aO, .int (ch)])), (aZ, .inl (cI, 24, .inl (Zs))), (aO, .inl (cI, 24, .inl (On)))] sz) t) (va_A [(u0, .inr (1, [.ref aK, .ref aX, .ref aY, .ref aN, .ref aV, .ref aM, .int (nI (n)), .int (nI (R))])), (aK, .inl (cI, 24, .inl (Kf))), (aX, .inl (cI, 24, .inl (Xf))), (aY, .inl (cI, 24, .inl (Yf))), (aN, .inl (cI, 24, .inl (Nf))), (f0, .inr (2, [.ref aZ, .ref aO, .int (ch)])), (aZ, .inl (cI, 24, .inl (Zs))), (aO, .inl (cI, 24, .inl (On)))] sz)) 0 0 (va_A [(u0, .inr (1, [.ref aK, .ref aX, .ref aY, .ref aN, .ref aV, .ref aM, .int (nI (n)), .int (nI (R))])), (aK, .inl (cI, 24, .inl (Kf))), (aX, .inl (cI, 24, .inl (Xf))), (aY, .inl (cI, 24, .inl (Yf))), (aN, .inl (cI, 24, .inl (Nf))), (f0, .inr (2, [.ref aZ, .ref aO, .int (ch)])), (aZ, .inl (cI, 24, .inl (Zs))), (aO, .inl (cI, 24, .inl (On)))] sz) := by
  refine Met.ofW (cc := cE_askedOfX) (maxL := 6) (ret := (some .int)) (by decide) rfl ?_
  intro p e s m args below meth c s₁ B hml hv0
  have hx := B.exec
  have hb := B.bytes
  have hr := B.returns
  have hts := atoms_spec (ws := wsE_askedOfX) B.pre
  have hown : s.vm.findClass RE = some m.cls := findClass_of_methodNamed B.named
  have hlocks := B.notSynchronized
  obtain ⟨rfl, hsz, hG⟩ := dw_enter hv0
  generalize va_A [(u0, .inr (1, [.ref aK, .ref aX, .ref aY, .ref aN, .ref aV, .ref aM, .int (nI (n)), .int (nI (R))])), (aK, .inl (cI, 24, .inl (Kf))), (aX, .inl (cI, 24, .inl (Xf))), (aY, .inl (cI, 24, .inl (Yf))), (aN, .inl (cI, 24, .inl (Nf))), (f0, .inr (2, [.ref aZ, .ref aO, .int (ch)])), (aZ, .inl (cI, 24, .inl (Zs))), (aO, .inl (cI, 24, .inl (On)))] sz = A at hG ⊢
  have hl := lv_entry ([.ref u0, .ref f0, .int (nI (v)), .int (d)]) (n := 6) (Nat.le_of_ble_eq_true rfl)
  rw [lg_entry_eq]
  generalize (lg_sl ([.ref u0, .ref f0, .int (nI (v)), .int (d)]) ++ List.replicate (6 - (lg_sl ([.ref u0, .ref f0, .int (nI (v)), .int (d)])).length) Slot.unset).toArray = ls at hl ⊢
  have hl : lv_has ls 6 [(0, .ref u0), (1, .ref f0), (2, .int (nI (v))), (3, .int (d))] := hl
  have hw42 := hts _ (List.mem_cons_of_mem _ tw_42)
  have hw47 := hts _ (List.mem_cons_of_mem _ tw_47)
  have hw33 := hts _ (List.mem_cons_of_mem _ tw_33)
  refine dw_Q (fun Q hQ => ?_)
  suffices hgo : ∀ (H : Heap) (locs : List Loc), dw_G (dC, dI) vwCl [(cI, .int), (cZ, .boolean)] A s.heap s [(u0, .inr (1, [.ref aK, .ref aX, .ref aY, .ref aN, .ref aV, .ref aM, .int (nI (n)), .int (nI (R))])), (aK, .inl (cI, 24, .inl (Kf))), (aX, .inl (cI, 24, .inl (Xf))), (aY, .inl (cI, 24, .inl (Yf))), (aN, .inl (cI, 24, .inl (Nf))), (f0, .inr (2, [.ref aZ, .ref aO, .int (ch)])), (aZ, .inl (cI, 24, .inl (Zs))), (aO, .inl (cI, 24, .inl (On)))] H locs → W p l e (headSpec wsE_askedOfX { frames := 2, cells := 0, slots := 0, locals := 60 }).room s m [.ref u0, .ref f0, .int (nI (v)), .int (d)].toArray below meth c H locs 0 0 Q (F0 m 0 ls []) from hgo _ _ hG
  clear hG
  intro H locs hG
  refine lv_aload_n hx hb dE_askedOfX_0 rfl (lv_at hl 0 rfl) ?_
  refine dw_get hx hb hts inUc hown hG 0 2 rfl rfl (by decide) hw42 rfl rfl dE_askedOfX_1 ?_
  refine lv_iload_n hx hb dE_askedOfX_4 rfl (lv_at hl 2 rfl) ?_
  refine dw_ia (x := nI (y)) hx hb hG 3 0 rfl rfl (v) rfl (by omega) (by decide) ey dE_askedOfX_5 ?_
  refine lv_istore (lv' := [(4, .int (nI (y))), (0, .ref u0), (1, .ref f0), (2, .int (nI (v))), (3, .int (d))]) hx hb dE_askedOfX_6 hl (by decide) rfl (fun ls hl => ?_)
  refine lv_aload_n hx hb dE_askedOfX_8 rfl (lv_at hl 1 rfl) ?_
  refine dw_get hx hb hts inUc hown hG 0 3 rfl rfl (by decide) hw47 rfl rfl dE_askedOfX_9 ?_
  refine lv_iload_n hx hb dE_askedOfX_12 rfl (lv_at hl 3 rfl) ?_
  refine dw_ia (x := (Nf) (v)) hx hb hG 4 0 rfl rfl (v) rfl (by omega) (by decide) rfl dE_askedOfX_13 ?_
  refine lv_istore (lv' := [(5, .int ((Nf) (v))), (4, .int (nI (y))), (0, .ref u0), (1, .ref f0), (2, .int (nI (v))), (3, .int (d))]) hx hb dE_askedOfX_14 hl (by decide) rfl (fun ls hl => ?_)
  refine lv_aload_n hx hb dE_askedOfX_16 rfl (lv_at hl 2 rfl) ?_
  refine dw_get hx hb hts inUc hown hG 0 0 rfl rfl (by decide) hw33 rfl rfl dE_askedOfX_17 ?_
  refine lv_iload_n hx hb dE_askedOfX_20 rfl (lv_at hl 4 rfl) ?_
  refine dw_ia (x := 13) hx hb hG 1 0 rfl rfl (v) rfl (by omega) (by decide) ek dE_askedOfX_21 ?_
  refine lv_tableIn (tgt := 121) hx hb dE_askedOfX_22 (by decide) (by decide) rfl (by decide) ?_
  refine lv_iload_n hx hb dE_askedOfX_121 rfl (lv_at hl 5 rfl) ?_
  subst hQ
  exact dw_iret hx hb hr hG (()) rfl rfl dE_askedOfX_122 hlocks

set_option maxRecDepth 100000 in
theorem ce_askedOfX (l : Launch) (dC : Nat → ClassId) (dI : Nat → Nat → Nat) (cI cZ : ClassId) (f0 aZ aO : Nat) (ch : Int32) (Zs On : Nat → Int32) (u0 aK aX aY aN aV aM n R : Nat) (Kf Xf Yf Nf : Nat → Int32) (v x y : Nat) (d : Int32) (kd : Nat) (sz : Nat) (hv : v < 24) (hx9 : x < 24) (hy9 : y < 24) (ex : Xf v = nI x) (ey : Yf v = nI y) (hkd : kd ≤ 13) (ek : Kf v = nI kd) : Met l yE_askedOfX wsE_askedOfX { frames := 2, cells := 0, slots := 0, locals := 60 } (va_Pc [.ref u0, .ref f0, .int (nI (v)), .int (d)] (dw_pre (dC, dI) vwCl [(u0, .inr (1, [.ref aK, .ref aX, .ref aY, .ref aN, .ref aV, .ref aM, .int (nI (n)), .int (nI (R))])), (aK, .inl (cI, 24, .inl (Kf))), (aX, .inl (cI, 24, .inl (Xf))), (aY, .inl (cI, 24, .inl (Yf))), (aN, .inl (cI, 24, .inl (Nf))), (f0, .inr (2, [.ref aZ, .ref aO, .int (ch)])), (aZ, .inl (cI, 24, .inl (Zs))), (aO, .inl (cI, 24, .inl (On)))] [(cI, .int), (cZ, .boolean)] sz)) (va_Qi (fun (r : Int32) (u : Unit) => r = db_askX kd (Nf v) (Zs y) (On y) d) (fun u t => dw_post (dC, dI) vwCl [(u0, .inr (1, [.ref aK, .ref aX, .ref aY, .ref aN, .ref aV, .ref aM, .int (nI (n)), .int (nI (R))])), (aK, .inl (cI, 24, .inl (Kf))), (aX, .inl (cI, 24, .inl (Xf))), (aY, .inl (cI, 24, .inl (Yf))), (aN, .inl (cI, 24, .inl (Nf))), (f0, .inr (2, [.ref aZ, .ref aO, .int (ch)])), (aZ, .inl (cI, 24, .inl (Zs))), (aO, .inl (cI, 24, .inl (On)))] [(cI, .int), (cZ, .boolean)] (va_A [(u0, .inr (1, [.ref aK, .ref aX, .ref aY, .ref aN, .ref aV, .ref aM, .int (nI (n)), .int (nI (R))])), (aK, .inl (cI, 24, .inl (Kf))), (aX, .inl (cI, 24, .inl (Xf))), (aY, .inl (cI, 24, .inl (Yf))), (aN, .inl (cI, 24, .inl (Nf))), (f0, .inr (2, [.ref aZ, .ref aO, .int (ch)])), (aZ, .inl (cI, 24, .inl (Zs))), (aO, .inl (cI, 24, .inl (On)))] sz) t) (va_A [(u0, .inr (1, [.ref aK, .ref aX, .ref aY, .ref aN, .ref aV, .ref aM, .int (nI (n)), .int (nI (R))])), (aK, .inl (cI, 24, .inl (Kf))), (aX, .inl (cI, 24, .inl (Xf))), (aY, .inl (cI, 24, .inl (Yf))), (aN, .inl (cI, 24, .inl (Nf))), (f0, .inr (2, [.ref aZ, .ref aO, .int (ch)])), (aZ, .inl (cI, 24, .inl (Zs))), (aO, .inl (cI, 24, .inl (On)))] sz)) 0 0 (va_A [(u0, .inr (1, [.ref aK, .ref aX, .ref aY, .ref aN, .ref aV, .ref aM, .int (nI (n)), .int (nI (R))])), (aK, .inl (cI, 24, .inl (Kf))), (aX, .inl (cI, 24, .inl (Xf))), (aY, .inl (cI, 24, .inl (Yf))), (aN, .inl (cI, 24, .inl (Nf))), (f0, .inr (2, [.ref aZ, .ref aO, .int (ch)])), (aZ, .inl (cI, 24, .inl (Zs))), (aO, .inl (cI, 24, .inl (On)))] sz) := by
  rcases (by omega : kd = 0 ∨ kd = 1 ∨ kd = 2 ∨ kd = 3 ∨ kd = 4 ∨ kd = 5 ∨ kd = 6 ∨ kd = 7 ∨ kd = 8 ∨ kd = 9 ∨ kd = 10 ∨ kd = 11 ∨ kd = 12 ∨ kd = 13) with e | e | e | e | e | e | e | e | e | e | e | e | e | e
  · subst e
    exact ce_askedOfX0 l dC dI cI cZ f0 aZ aO ch Zs On u0 aK aX aY aN aV aM n R Kf Xf Yf Nf v x y d sz hv hx9 hy9 ex ey ek
  · subst e
    exact ce_askedOfX1 l dC dI cI cZ f0 aZ aO ch Zs On u0 aK aX aY aN aV aM n R Kf Xf Yf Nf v x y d sz hv hx9 hy9 ex ey ek
  · subst e
    exact ce_askedOfX2 l dC dI cI cZ f0 aZ aO ch Zs On u0 aK aX aY aN aV aM n R Kf Xf Yf Nf v x y d sz hv hx9 hy9 ex ey ek
  · subst e
    exact ce_askedOfX3 l dC dI cI cZ f0 aZ aO ch Zs On u0 aK aX aY aN aV aM n R Kf Xf Yf Nf v x y d sz hv hx9 hy9 ex ey ek
  · subst e
    exact ce_askedOfX4 l dC dI cI cZ f0 aZ aO ch Zs On u0 aK aX aY aN aV aM n R Kf Xf Yf Nf v x y d sz hv hx9 hy9 ex ey ek
  · subst e
    exact ce_askedOfX5 l dC dI cI cZ f0 aZ aO ch Zs On u0 aK aX aY aN aV aM n R Kf Xf Yf Nf v x y d sz hv hx9 hy9 ex ey ek
  · subst e
    exact ce_askedOfX6 l dC dI cI cZ f0 aZ aO ch Zs On u0 aK aX aY aN aV aM n R Kf Xf Yf Nf v x y d sz hv hx9 hy9 ex ey ek
  · subst e
    exact ce_askedOfX7 l dC dI cI cZ f0 aZ aO ch Zs On u0 aK aX aY aN aV aM n R Kf Xf Yf Nf v x y d sz hv hx9 hy9 ex ey ek
  · subst e
    exact ce_askedOfX8 l dC dI cI cZ f0 aZ aO ch Zs On u0 aK aX aY aN aV aM n R Kf Xf Yf Nf v x y d sz hv hx9 hy9 ex ey ek
  · subst e
    exact ce_askedOfX9 l dC dI cI cZ f0 aZ aO ch Zs On u0 aK aX aY aN aV aM n R Kf Xf Yf Nf v x y d sz hv hx9 hy9 ex ey ek
  · subst e
    exact ce_askedOfX10 l dC dI cI cZ f0 aZ aO ch Zs On u0 aK aX aY aN aV aM n R Kf Xf Yf Nf v x y d sz hv hx9 hy9 ex ey ek
  · subst e
    exact ce_askedOfX11 l dC dI cI cZ f0 aZ aO ch Zs On u0 aK aX aY aN aV aM n R Kf Xf Yf Nf v x y d sz hv hx9 hy9 ex ey ek
  · subst e
    exact ce_askedOfX12 l dC dI cI cZ f0 aZ aO ch Zs On u0 aK aX aY aN aV aM n R Kf Xf Yf Nf v x y d sz hv hx9 hy9 ex ey ek
  · subst e
    exact ce_askedOfX13 l dC dI cI cZ f0 aZ aO ch Zs On u0 aK aX aY aN aV aM n R Kf Xf Yf Nf v x y d sz hv hx9 hy9 ex ey ek

set_option maxRecDepth 100000 in
set_option maxHeartbeats 4000000 in
theorem ce_askedOfY0 (l : Launch) (dC : Nat → ClassId) (dI : Nat → Nat → Nat) (cI cZ : ClassId) (f0 aZ aO : Nat) (ch : Int32) (Zs On : Nat → Int32) (u0 aK aX aY aN aV aM n R : Nat) (Kf Xf Yf Nf : Nat → Int32) (v x y : Nat) (d : Int32) (sz : Nat) (hv : v < 24) (hx9 : x < 24) (hy9 : y < 24) (ex : Xf v = nI x) (ey : Yf v = nI y) (ek : Kf v = nI 0) : Met l yE_askedOfY wsE_askedOfY { frames := 2, cells := 0, slots := 0, locals := 60 } (va_Pc [.ref u0, .ref f0, .int (nI (v)), .int (d)] (dw_pre (dC, dI) vwCl [(u0, .inr (1, [.ref aK, .ref aX, .ref aY, .ref aN, .ref aV, .ref aM, .int (nI (n)), .int (nI (R))])), (aK, .inl (cI, 24, .inl (Kf))), (aX, .inl (cI, 24, .inl (Xf))), (aY, .inl (cI, 24, .inl (Yf))), (aN, .inl (cI, 24, .inl (Nf))), (f0, .inr (2, [.ref aZ, .ref aO, .int (ch)])), (aZ, .inl (cI, 24, .inl (Zs))), (aO, .inl (cI, 24, .inl (On)))] [(cI, .int), (cZ, .boolean)] sz)) (va_Qi (fun (r : Int32) (u : Unit) => r = db_askY 0 (Zs x) (On x) (Zs y) (On y) d) (fun u t => dw_post (dC, dI) vwCl [(u0, .inr (1, [.ref aK, .ref aX, .ref aY, .ref aN, .ref aV, .ref aM, .int (nI (n)), .int (nI (R))])), (aK, .inl (cI, 24, .inl (Kf))), (aX, .inl (cI, 24, .inl (Xf))), (aY, .inl (cI, 24, .inl (Yf))), (aN, .inl (cI, 24, .inl (Nf))), (f0, .inr (2, [.ref aZ, .ref aO, .int (ch)])), (aZ, .inl (cI, 24, .inl (Zs))), (aO, .inl (cI, 24, .inl (On)))] [(cI, .int), (cZ, .boolean)] (va_A [(u0, .inr (1, [.ref aK, .ref aX, .ref aY, .ref aN, .ref aV, .ref aM, .int (nI (n)), .int (nI (R))])), (aK, .inl (cI, 24, .inl (Kf))), (aX, .inl (cI, 24, .inl (Xf))), (aY, .inl (cI, 24, .inl (Yf))), (aN, .inl (cI, 24, .inl (Nf))), (f0, .inr (2, [.ref aZ, .ref aO, .int (ch)])), (aZ, .inl (cI, 24, .inl (Zs))), (aO, .inl (cI, 24, .inl (On)))] sz) t) (va_A [(u0, .inr (1, [.ref aK, .ref aX, .ref aY, .ref aN, .ref aV, .ref aM, .int (nI (n)), .int (nI (R))])), (aK, .inl (cI, 24, .inl (Kf))), (aX, .inl (cI, 24, .inl (Xf))), (aY, .inl (cI, 24, .inl (Yf))), (aN, .inl (cI, 24, .inl (Nf))), (f0, .inr (2, [.ref aZ, .ref aO, .int (ch)])), (aZ, .inl (cI, 24, .inl (Zs))), (aO, .inl (cI, 24, .inl (On)))] sz)) 0 0 (va_A [(u0, .inr (1, [.ref aK, .ref aX, .ref aY, .ref aN, .ref aV, .ref aM, .int (nI (n)), .int (nI (R))])), (aK, .inl (cI, 24, .inl (Kf))), (aX, .inl (cI, 24, .inl (Xf))), (aY, .inl (cI, 24, .inl (Yf))), (aN, .inl (cI, 24, .inl (Nf))), (f0, .inr (2, [.ref aZ, .ref aO, .int (ch)])), (aZ, .inl (cI, 24, .inl (Zs))), (aO, .inl (cI, 24, .inl (On)))] sz) := by
  refine Met.ofW (cc := cE_askedOfY) (maxL := 6) (ret := (some .int)) (by decide) rfl ?_
  intro p e s m args below meth c s₁ B hml hv0
  have hx := B.exec
  have hb := B.bytes
  have hr := B.returns
  have hts := atoms_spec (ws := wsE_askedOfY) B.pre
  have hown : s.vm.findClass RE = some m.cls := findClass_of_methodNamed B.named
  have hlocks := B.notSynchronized
  obtain ⟨rfl, hsz, hG⟩ := dw_enter hv0
  generalize va_A [(u0, .inr (1, [.ref aK, .ref aX, .ref aY, .ref aN, .ref aV, .ref aM, .int (nI (n)), .int (nI (R))])), (aK, .inl (cI, 24, .inl (Kf))), (aX, .inl (cI, 24, .inl (Xf))), (aY, .inl (cI, 24, .inl (Yf))), (aN, .inl (cI, 24, .inl (Nf))), (f0, .inr (2, [.ref aZ, .ref aO, .int (ch)])), (aZ, .inl (cI, 24, .inl (Zs))), (aO, .inl (cI, 24, .inl (On)))] sz = A at hG ⊢
  have hl := lv_entry ([.ref u0, .ref f0, .int (nI (v)), .int (d)]) (n := 6) (Nat.le_of_ble_eq_true rfl)
  rw [lg_entry_eq]
  generalize (lg_sl ([.ref u0, .ref f0, .int (nI (v)), .int (d)]) ++ List.replicate (6 - (lg_sl ([.ref u0, .ref f0, .int (nI (v)), .int (d)])).length) Slot.unset).toArray = ls at hl ⊢
  have hl : lv_has ls 6 [(0, .ref u0), (1, .ref f0), (2, .int (nI (v))), (3, .int (d))] := hl
  have hw38 := hts _ (List.mem_cons_of_mem _ tw_38)
  have hw42 := hts _ (List.mem_cons_of_mem _ tw_42)
  have hw33 := hts _ (List.mem_cons_of_mem _ tw_33)
  refine dw_Q (fun Q hQ => ?_)
  suffices hgo : ∀ (H : Heap) (locs : List Loc), dw_G (dC, dI) vwCl [(cI, .int), (cZ, .boolean)] A s.heap s [(u0, .inr (1, [.ref aK, .ref aX, .ref aY, .ref aN, .ref aV, .ref aM, .int (nI (n)), .int (nI (R))])), (aK, .inl (cI, 24, .inl (Kf))), (aX, .inl (cI, 24, .inl (Xf))), (aY, .inl (cI, 24, .inl (Yf))), (aN, .inl (cI, 24, .inl (Nf))), (f0, .inr (2, [.ref aZ, .ref aO, .int (ch)])), (aZ, .inl (cI, 24, .inl (Zs))), (aO, .inl (cI, 24, .inl (On)))] H locs → W p l e (headSpec wsE_askedOfY { frames := 2, cells := 0, slots := 0, locals := 60 }).room s m [.ref u0, .ref f0, .int (nI (v)), .int (d)].toArray below meth c H locs 0 0 Q (F0 m 0 ls []) from hgo _ _ hG
  clear hG
  intro H locs hG
  refine lv_aload_n hx hb dE_askedOfY_0 rfl (lv_at hl 0 rfl) ?_
  refine dw_get hx hb hts inUc hown hG 0 1 rfl rfl (by decide) hw38 rfl rfl dE_askedOfY_1 ?_
  refine lv_iload_n hx hb dE_askedOfY_4 rfl (lv_at hl 2 rfl) ?_
  refine dw_ia (x := nI (x)) hx hb hG 2 0 rfl rfl (v) rfl (by omega) (by decide) ex dE_askedOfY_5 ?_
  refine lv_istore (lv' := [(4, .int (nI (x))), (0, .ref u0), (1, .ref f0), (2, .int (nI (v))), (3, .int (d))]) hx hb dE_askedOfY_6 hl (by decide) rfl (fun ls hl => ?_)
  refine lv_aload_n hx hb dE_askedOfY_8 rfl (lv_at hl 1 rfl) ?_
  refine dw_get hx hb hts inUc hown hG 0 2 rfl rfl (by decide) hw42 rfl rfl dE_askedOfY_9 ?_
  refine lv_iload_n hx hb dE_askedOfY_12 rfl (lv_at hl 3 rfl) ?_
  refine dw_ia (x := nI (y)) hx hb hG 3 0 rfl rfl (v) rfl (by omega) (by decide) ey dE_askedOfY_13 ?_
  refine lv_istore (lv' := [(5, .int (nI (y))), (4, .int (nI (x))), (0, .ref u0), (1, .ref f0), (2, .int (nI (v))), (3, .int (d))]) hx hb dE_askedOfY_14 hl (by decide) rfl (fun ls hl => ?_)
  refine lv_aload_n hx hb dE_askedOfY_16 rfl (lv_at hl 2 rfl) ?_
  refine dw_get hx hb hts inUc hown hG 0 0 rfl rfl (by decide) hw33 rfl rfl dE_askedOfY_17 ?_
  refine lv_iload_n hx hb dE_askedOfY_20 rfl (lv_at hl 4 rfl) ?_
  refine dw_ia (x := 0) hx hb hG 1 0 rfl rfl (v) rfl (by omega) (by decide) ek dE_askedOfY_21 ?_
  refine lv_tableIn (tgt := 92) hx hb dE_askedOfY_22 (by decide) (by decide) rfl (by decide) ?_
  refine lv_iload_n hx hb dE_askedOfY_92 rfl (lv_at hl 5 rfl) ?_
  refine dw_calli (wc := []) (wr := [(u0, .inr (1, [.ref aK, .ref aX, .ref aY, .ref aN, .ref aV, .ref aM, .int (nI (n)), .int (nI (R))])), (aK, .inl (cI, 24, .inl (Kf))), (aX, .inl (cI, 24, .inl (Xf))), (aY, .inl (cI, 24, .inl (Yf))), (aN, .inl (cI, 24, .inl (Nf))), (f0, .inr (2, [.ref aZ, .ref aO, .int (ch)])), (aZ, .inl (cI, 24, .inl (Zs))), (aO, .inl (cI, 24, .inl (On)))]) hG [] [0, 1, 2, 3, 4, 5, 6, 7] rfl rfl (by decide) (by decide) (va_runSN (As := [.int (d)]) (rest := []) ⟨hx, hb, hml, hown, hts⟩ (cb_upTo l dC dI cI cZ (d) H.size ) (dc_N 1 hts hG.2.2.2.2.2 5 rfl tw_229 tw_1 tw_230 rfl rfl (by decide +kernel) ⟨Nat.le_of_ble_eq_true rfl, Nat.le_of_ble_eq_true rfl⟩) (dw_preS hG [] [0, 1] rfl rfl (by decide) rfl) rfl rfl hl.1 rfl (lv_room (Nat.le_of_ble_eq_true rfl)) dE_askedOfY_93 ⟨Nat.le_refl _, Nat.le_refl _⟩) (fun r u H locs hp hG => ?_)
  subst hp
  have hG : dw_G (dC, dI) vwCl [(cI, .int), (cZ, .boolean)] A s.heap s [(u0, .inr (1, [.ref aK, .ref aX, .ref aY, .ref aN, .ref aV, .ref aM, .int (nI (n)), .int (nI (R))])), (aK, .inl (cI, 24, .inl (Kf))), (aX, .inl (cI, 24, .inl (Xf))), (aY, .inl (cI, 24, .inl (Yf))), (aN, .inl (cI, 24, .inl (Nf))), (f0, .inr (2, [.ref aZ, .ref aO, .int (ch)])), (aZ, .inl (cI, 24, .inl (Zs))), (aO, .inl (cI, 24, .inl (On)))] H locs := hG
  subst hQ
  exact dw_iret hx hb hr hG (()) rfl rfl dE_askedOfY_96 hlocks

set_option maxRecDepth 100000 in
set_option maxHeartbeats 4000000 in
theorem ce_askedOfY1 (l : Launch) (dC : Nat → ClassId) (dI : Nat → Nat → Nat) (cI cZ : ClassId) (f0 aZ aO : Nat) (ch : Int32) (Zs On : Nat → Int32) (u0 aK aX aY aN aV aM n R : Nat) (Kf Xf Yf Nf : Nat → Int32) (v x y : Nat) (d : Int32) (sz : Nat) (hv : v < 24) (hx9 : x < 24) (hy9 : y < 24) (ex : Xf v = nI x) (ey : Yf v = nI y) (ek : Kf v = nI 1) : Met l yE_askedOfY wsE_askedOfY { frames := 2, cells := 0, slots := 0, locals := 60 } (va_Pc [.ref u0, .ref f0, .int (nI (v)), .int (d)] (dw_pre (dC, dI) vwCl [(u0, .inr (1, [.ref aK, .ref aX, .ref aY, .ref aN, .ref aV, .ref aM, .int (nI (n)), .int (nI (R))])), (aK, .inl (cI, 24, .inl (Kf))), (aX, .inl (cI, 24, .inl (Xf))), (aY, .inl (cI, 24, .inl (Yf))), (aN, .inl (cI, 24, .inl (Nf))), (f0, .inr (2, [.ref aZ, .ref aO, .int (ch)])), (aZ, .inl (cI, 24, .inl (Zs))), (aO, .inl (cI, 24, .inl (On)))] [(cI, .int), (cZ, .boolean)] sz)) (va_Qi (fun (r : Int32) (u : Unit) => r = db_askY 1 (Zs x) (On x) (Zs y) (On y) d) (fun u t => dw_post (dC, dI) vwCl [(u0, .inr (1, [.ref aK, .ref aX, .ref aY, .ref aN, .ref aV, .ref aM, .int (nI (n)), .int (nI (R))])), (aK, .inl (cI, 24, .inl (Kf))), (aX, .inl (cI, 24, .inl (Xf))), (aY, .inl (cI, 24, .inl (Yf))), (aN, .inl (cI, 24, .inl (Nf))), (f0, .inr (2, [.ref aZ, .ref aO, .int (ch)])), (aZ, .inl (cI, 24, .inl (Zs))), (aO, .inl (cI, 24, .inl (On)))] [(cI, .int), (cZ, .boolean)] (va_A [(u0, .inr (1, [.ref aK, .ref aX, .ref aY, .ref aN, .ref aV, .ref aM, .int (nI (n)), .int (nI (R))])), (aK, .inl (cI, 24, .inl (Kf))), (aX, .inl (cI, 24, .inl (Xf))), (aY, .inl (cI, 24, .inl (Yf))), (aN, .inl (cI, 24, .inl (Nf))), (f0, .inr (2, [.ref aZ, .ref aO, .int (ch)])), (aZ, .inl (cI, 24, .inl (Zs))), (aO, .inl (cI, 24, .inl (On)))] sz) t) (va_A [(u0, .inr (1, [.ref aK, .ref aX, .ref aY, .ref aN, .ref aV, .ref aM, .int (nI (n)), .int (nI (R))])), (aK, .inl (cI, 24, .inl (Kf))), (aX, .inl (cI, 24, .inl (Xf))), (aY, .inl (cI, 24, .inl (Yf))), (aN, .inl (cI, 24, .inl (Nf))), (f0, .inr (2, [.ref aZ, .ref aO, .int (ch)])), (aZ, .inl (cI, 24, .inl (Zs))), (aO, .inl (cI, 24, .inl (On)))] sz)) 0 0 (va_A [(u0, .inr (1, [.ref aK, .ref aX, .ref aY, .ref aN, .ref aV, .ref aM, .int (nI (n)), .int (nI (R))])), (aK, .inl (cI, 24, .inl (Kf))), (aX, .inl (cI, 24, .inl (Xf))), (aY, .inl (cI, 24, .inl (Yf))), (aN, .inl (cI, 24, .inl (Nf))), (f0, .inr (2, [.ref aZ, .ref aO, .int (ch)])), (aZ, .inl (cI, 24, .inl (Zs))), (aO, .inl (cI, 24, .inl (On)))] sz) := by
  refine Met.ofW (cc := cE_askedOfY) (maxL := 6) (ret := (some .int)) (by decide) rfl ?_
  intro p e s m args below meth c s₁ B hml hv0
  have hx := B.exec
  have hb := B.bytes
  have hr := B.returns
  have hts := atoms_spec (ws := wsE_askedOfY) B.pre
  have hown : s.vm.findClass RE = some m.cls := findClass_of_methodNamed B.named
  have hlocks := B.notSynchronized
  obtain ⟨rfl, hsz, hG⟩ := dw_enter hv0
  generalize va_A [(u0, .inr (1, [.ref aK, .ref aX, .ref aY, .ref aN, .ref aV, .ref aM, .int (nI (n)), .int (nI (R))])), (aK, .inl (cI, 24, .inl (Kf))), (aX, .inl (cI, 24, .inl (Xf))), (aY, .inl (cI, 24, .inl (Yf))), (aN, .inl (cI, 24, .inl (Nf))), (f0, .inr (2, [.ref aZ, .ref aO, .int (ch)])), (aZ, .inl (cI, 24, .inl (Zs))), (aO, .inl (cI, 24, .inl (On)))] sz = A at hG ⊢
  have hl := lv_entry ([.ref u0, .ref f0, .int (nI (v)), .int (d)]) (n := 6) (Nat.le_of_ble_eq_true rfl)
  rw [lg_entry_eq]
  generalize (lg_sl ([.ref u0, .ref f0, .int (nI (v)), .int (d)]) ++ List.replicate (6 - (lg_sl ([.ref u0, .ref f0, .int (nI (v)), .int (d)])).length) Slot.unset).toArray = ls at hl ⊢
  have hl : lv_has ls 6 [(0, .ref u0), (1, .ref f0), (2, .int (nI (v))), (3, .int (d))] := hl
  have hw38 := hts _ (List.mem_cons_of_mem _ tw_38)
  have hw42 := hts _ (List.mem_cons_of_mem _ tw_42)
  have hw33 := hts _ (List.mem_cons_of_mem _ tw_33)
  refine dw_Q (fun Q hQ => ?_)
  suffices hgo : ∀ (H : Heap) (locs : List Loc), dw_G (dC, dI) vwCl [(cI, .int), (cZ, .boolean)] A s.heap s [(u0, .inr (1, [.ref aK, .ref aX, .ref aY, .ref aN, .ref aV, .ref aM, .int (nI (n)), .int (nI (R))])), (aK, .inl (cI, 24, .inl (Kf))), (aX, .inl (cI, 24, .inl (Xf))), (aY, .inl (cI, 24, .inl (Yf))), (aN, .inl (cI, 24, .inl (Nf))), (f0, .inr (2, [.ref aZ, .ref aO, .int (ch)])), (aZ, .inl (cI, 24, .inl (Zs))), (aO, .inl (cI, 24, .inl (On)))] H locs → W p l e (headSpec wsE_askedOfY { frames := 2, cells := 0, slots := 0, locals := 60 }).room s m [.ref u0, .ref f0, .int (nI (v)), .int (d)].toArray below meth c H locs 0 0 Q (F0 m 0 ls []) from hgo _ _ hG
  clear hG
  intro H locs hG
  refine lv_aload_n hx hb dE_askedOfY_0 rfl (lv_at hl 0 rfl) ?_
  refine dw_get hx hb hts inUc hown hG 0 1 rfl rfl (by decide) hw38 rfl rfl dE_askedOfY_1 ?_
  refine lv_iload_n hx hb dE_askedOfY_4 rfl (lv_at hl 2 rfl) ?_
  refine dw_ia (x := nI (x)) hx hb hG 2 0 rfl rfl (v) rfl (by omega) (by decide) ex dE_askedOfY_5 ?_
  refine lv_istore (lv' := [(4, .int (nI (x))), (0, .ref u0), (1, .ref f0), (2, .int (nI (v))), (3, .int (d))]) hx hb dE_askedOfY_6 hl (by decide) rfl (fun ls hl => ?_)
  refine lv_aload_n hx hb dE_askedOfY_8 rfl (lv_at hl 1 rfl) ?_
  refine dw_get hx hb hts inUc hown hG 0 2 rfl rfl (by decide) hw42 rfl rfl dE_askedOfY_9 ?_
  refine lv_iload_n hx hb dE_askedOfY_12 rfl (lv_at hl 3 rfl) ?_
  refine dw_ia (x := nI (y)) hx hb hG 3 0 rfl rfl (v) rfl (by omega) (by decide) ey dE_askedOfY_13 ?_
  refine lv_istore (lv' := [(5, .int (nI (y))), (4, .int (nI (x))), (0, .ref u0), (1, .ref f0), (2, .int (nI (v))), (3, .int (d))]) hx hb dE_askedOfY_14 hl (by decide) rfl (fun ls hl => ?_)
  refine lv_aload_n hx hb dE_askedOfY_16 rfl (lv_at hl 2 rfl) ?_
  refine dw_get hx hb hts inUc hown hG 0 0 rfl rfl (by decide) hw33 rfl rfl dE_askedOfY_17 ?_
  refine lv_iload_n hx hb dE_askedOfY_20 rfl (lv_at hl 4 rfl) ?_
  refine dw_ia (x := 1) hx hb hG 1 0 rfl rfl (v) rfl (by omega) (by decide) ek dE_askedOfY_21 ?_
  refine lv_tableIn (tgt := 92) hx hb dE_askedOfY_22 (by decide) (by decide) rfl (by decide) ?_
  refine lv_iload_n hx hb dE_askedOfY_92 rfl (lv_at hl 5 rfl) ?_
  refine dw_calli (wc := []) (wr := [(u0, .inr (1, [.ref aK, .ref aX, .ref aY, .ref aN, .ref aV, .ref aM, .int (nI (n)), .int (nI (R))])), (aK, .inl (cI, 24, .inl (Kf))), (aX, .inl (cI, 24, .inl (Xf))), (aY, .inl (cI, 24, .inl (Yf))), (aN, .inl (cI, 24, .inl (Nf))), (f0, .inr (2, [.ref aZ, .ref aO, .int (ch)])), (aZ, .inl (cI, 24, .inl (Zs))), (aO, .inl (cI, 24, .inl (On)))]) hG [] [0, 1, 2, 3, 4, 5, 6, 7] rfl rfl (by decide) (by decide) (va_runSN (As := [.int (d)]) (rest := []) ⟨hx, hb, hml, hown, hts⟩ (cb_upTo l dC dI cI cZ (d) H.size ) (dc_N 1 hts hG.2.2.2.2.2 5 rfl tw_229 tw_1 tw_230 rfl rfl (by decide +kernel) ⟨Nat.le_of_ble_eq_true rfl, Nat.le_of_ble_eq_true rfl⟩) (dw_preS hG [] [0, 1] rfl rfl (by decide) rfl) rfl rfl hl.1 rfl (lv_room (Nat.le_of_ble_eq_true rfl)) dE_askedOfY_93 ⟨Nat.le_refl _, Nat.le_refl _⟩) (fun r u H locs hp hG => ?_)
  subst hp
  have hG : dw_G (dC, dI) vwCl [(cI, .int), (cZ, .boolean)] A s.heap s [(u0, .inr (1, [.ref aK, .ref aX, .ref aY, .ref aN, .ref aV, .ref aM, .int (nI (n)), .int (nI (R))])), (aK, .inl (cI, 24, .inl (Kf))), (aX, .inl (cI, 24, .inl (Xf))), (aY, .inl (cI, 24, .inl (Yf))), (aN, .inl (cI, 24, .inl (Nf))), (f0, .inr (2, [.ref aZ, .ref aO, .int (ch)])), (aZ, .inl (cI, 24, .inl (Zs))), (aO, .inl (cI, 24, .inl (On)))] H locs := hG
  subst hQ
  exact dw_iret hx hb hr hG (()) rfl rfl dE_askedOfY_96 hlocks

set_option maxRecDepth 100000 in
set_option maxHeartbeats 4000000 in
theorem ce_askedOfY2 (l : Launch) (dC : Nat → ClassId) (dI : Nat → Nat → Nat) (cI cZ : ClassId) (f0 aZ aO : Nat) (ch : Int32) (Zs On : Nat → Int32) (u0 aK aX aY aN aV aM n R : Nat) (Kf Xf Yf Nf : Nat → Int32) (v x y : Nat) (d : Int32) (sz : Nat) (hv : v < 24) (hx9 : x < 24) (hy9 : y < 24) (ex : Xf v = nI x) (ey : Yf v = nI y) (ek : Kf v = nI 2) : Met l yE_askedOfY wsE_askedOfY { frames := 2, cells := 0, slots := 0, locals := 60 } (va_Pc [.ref u0, .ref f0, .int (nI (v)), .int (d)] (dw_pre (dC, dI) vwCl [(u0, .inr (1, [.ref aK, .ref aX, .ref aY, .ref aN, .ref aV, .ref aM, .int (nI (n)), .int (nI (R))])), (aK, .inl (cI, 24, .inl (Kf))), (aX, .inl (cI, 24, .inl (Xf))), (aY, .inl (cI, 24, .inl (Yf))), (aN, .inl (cI, 24, .inl (Nf))), (f0, .inr (2, [.ref aZ, .ref aO, .int (ch)])), (aZ, .inl (cI, 24, .inl (Zs))), (aO, .inl (cI, 24, .inl (On)))] [(cI, .int), (cZ, .boolean)] sz)) (va_Qi (fun (r : Int32) (u : Unit) => r = db_askY 2 (Zs x) (On x) (Zs y) (On y) d) (fun u t => dw_post (dC, dI) vwCl [(u0, .inr (1, [.ref aK, .ref aX, .ref aY, .ref aN, .ref aV, .ref aM, .int (nI (n)), .int (nI (R))])), (aK, .inl (cI, 24, .inl (Kf))), (aX, .inl (cI, 24, .inl (Xf))), (aY, .inl (cI, 24, .inl (Yf))), (aN, .inl (cI, 24, .inl (Nf))), (f0, .inr (2, [.ref aZ, .ref aO, .int (ch)])), (aZ, .inl (cI, 24, .inl (Zs))), (aO, .inl (cI, 24, .inl (On)))] [(cI, .int), (cZ, .boolean)] (va_A [(u0, .inr (1, [.ref aK, .ref aX, .ref aY, .ref aN, .ref aV, .ref aM, .int (nI (n)), .int (nI (R))])), (aK, .inl (cI, 24, .inl (Kf))), (aX, .inl (cI, 24, .inl (Xf))), (aY, .inl (cI, 24, .inl (Yf))), (aN, .inl (cI, 24, .inl (Nf))), (f0, .inr (2, [.ref aZ, .ref aO, .int (ch)])), (aZ, .inl (cI, 24, .inl (Zs))), (aO, .inl (cI, 24, .inl (On)))] sz) t) (va_A [(u0, .inr (1, [.ref aK, .ref aX, .ref aY, .ref aN, .ref aV, .ref aM, .int (nI (n)), .int (nI (R))])), (aK, .inl (cI, 24, .inl (Kf))), (aX, .inl (cI, 24, .inl (Xf))), (aY, .inl (cI, 24, .inl (Yf))), (aN, .inl (cI, 24, .inl (Nf))), (f0, .inr (2, [.ref aZ, .ref aO, .int (ch)])), (aZ, .inl (cI, 24, .inl (Zs))), (aO, .inl (cI, 24, .inl (On)))] sz)) 0 0 (va_A [(u0, .inr (1, [.ref aK, .ref aX, .ref aY, .ref aN, .ref aV, .ref aM, .int (nI (n)), .int (nI (R))])), (aK, .inl (cI, 24, .inl (Kf))), (aX, .inl (cI, 24, .inl (Xf))), (aY, .inl (cI, 24, .inl (Yf))), (aN, .inl (cI, 24, .inl (Nf))), (f0, .inr (2, [.ref aZ, .ref aO, .int (ch)])), (aZ, .inl (cI, 24, .inl (Zs))), (aO, .inl (cI, 24, .inl (On)))] sz) := by
  refine Met.ofW (cc := cE_askedOfY) (maxL := 6) (ret := (some .int)) (by decide) rfl ?_
  intro p e s m args below meth c s₁ B hml hv0
  have hx := B.exec
  have hb := B.bytes
  have hr := B.returns
  have hts := atoms_spec (ws := wsE_askedOfY) B.pre
  have hown : s.vm.findClass RE = some m.cls := findClass_of_methodNamed B.named
  have hlocks := B.notSynchronized
  obtain ⟨rfl, hsz, hG⟩ := dw_enter hv0
  generalize va_A [(u0, .inr (1, [.ref aK, .ref aX, .ref aY, .ref aN, .ref aV, .ref aM, .int (nI (n)), .int (nI (R))])), (aK, .inl (cI, 24, .inl (Kf))), (aX, .inl (cI, 24, .inl (Xf))), (aY, .inl (cI, 24, .inl (Yf))), (aN, .inl (cI, 24, .inl (Nf))), (f0, .inr (2, [.ref aZ, .ref aO, .int (ch)])), (aZ, .inl (cI, 24, .inl (Zs))), (aO, .inl (cI, 24, .inl (On)))] sz = A at hG ⊢
  have hl := lv_entry ([.ref u0, .ref f0, .int (nI (v)), .int (d)]) (n := 6) (Nat.le_of_ble_eq_true rfl)
  rw [lg_entry_eq]
  generalize (lg_sl ([.ref u0, .ref f0, .int (nI (v)), .int (d)]) ++ List.replicate (6 - (lg_sl ([.ref u0, .ref f0, .int (nI (v)), .int (d)])).length) Slot.unset).toArray = ls at hl ⊢
  have hl : lv_has ls 6 [(0, .ref u0), (1, .ref f0), (2, .int (nI (v))), (3, .int (d))] := hl
  have hw38 := hts _ (List.mem_cons_of_mem _ tw_38)
  have hw42 := hts _ (List.mem_cons_of_mem _ tw_42)
  have hw33 := hts _ (List.mem_cons_of_mem _ tw_33)
  refine dw_Q (fun Q hQ => ?_)
  suffices hgo : ∀ (H : Heap) (locs : List Loc), dw_G (dC, dI) vwCl [(cI, .int), (cZ, .boolean)] A s.heap s [(u0, .inr (1, [.ref aK, .ref aX, .ref aY, .ref aN, .ref aV, .ref aM, .int (nI (n)), .int (nI (R))])), (aK, .inl (cI, 24, .inl (Kf))), (aX, .inl (cI, 24, .inl (Xf))), (aY, .inl (cI, 24, .inl (Yf))), (aN, .inl (cI, 24, .inl (Nf))), (f0, .inr (2, [.ref aZ, .ref aO, .int (ch)])), (aZ, .inl (cI, 24, .inl (Zs))), (aO, .inl (cI, 24, .inl (On)))] H locs → W p l e (headSpec wsE_askedOfY { frames := 2, cells := 0, slots := 0, locals := 60 }).room s m [.ref u0, .ref f0, .int (nI (v)), .int (d)].toArray below meth c H locs 0 0 Q (F0 m 0 ls []) from hgo _ _ hG
  clear hG
  intro H locs hG
  refine lv_aload_n hx hb dE_askedOfY_0 rfl (lv_at hl 0 rfl) ?_
  refine dw_get hx hb hts inUc hown hG 0 1 rfl rfl (by decide) hw38 rfl rfl dE_askedOfY_1 ?_
  refine lv_iload_n hx hb dE_askedOfY_4 rfl (lv_at hl 2 rfl) ?_
  refine dw_ia (x := nI (x)) hx hb hG 2 0 rfl rfl (v) rfl (by omega) (by decide) ex dE_askedOfY_5 ?_
  refine lv_istore (lv' := [(4, .int (nI (x))), (0, .ref u0), (1, .ref f0), (2, .int (nI (v))), (3, .int (d))]) hx hb dE_askedOfY_6 hl (by decide) rfl (fun ls hl => ?_)
  refine lv_aload_n hx hb dE_askedOfY_8 rfl (lv_at hl 1 rfl) ?_
  refine dw_get hx hb hts inUc hown hG 0 2 rfl rfl (by decide) hw42 rfl rfl dE_askedOfY_9 ?_
  refine lv_iload_n hx hb dE_askedOfY_12 rfl (lv_at hl 3 rfl) ?_
  refine dw_ia (x := nI (y)) hx hb hG 3 0 rfl rfl (v) rfl (by omega) (by decide) ey dE_askedOfY_13 ?_
  refine lv_istore (lv' := [(5, .int (nI (y))), (4, .int (nI (x))), (0, .ref u0), (1, .ref f0), (2, .int (nI (v))), (3, .int (d))]) hx hb dE_askedOfY_14 hl (by decide) rfl (fun ls hl => ?_)
  refine lv_aload_n hx hb dE_askedOfY_16 rfl (lv_at hl 2 rfl) ?_
  refine dw_get hx hb hts inUc hown hG 0 0 rfl rfl (by decide) hw33 rfl rfl dE_askedOfY_17 ?_
  refine lv_iload_n hx hb dE_askedOfY_20 rfl (lv_at hl 4 rfl) ?_
  refine dw_ia (x := 2) hx hb hG 1 0 rfl rfl (v) rfl (by omega) (by decide) ek dE_askedOfY_21 ?_
  refine lv_tableIn (tgt := 92) hx hb dE_askedOfY_22 (by decide) (by decide) rfl (by decide) ?_
  refine lv_iload_n hx hb dE_askedOfY_92 rfl (lv_at hl 5 rfl) ?_
  refine dw_calli (wc := []) (wr := [(u0, .inr (1, [.ref aK, .ref aX, .ref aY, .ref aN, .ref aV, .ref aM, .int (nI (n)), .int (nI (R))])), (aK, .inl (cI, 24, .inl (Kf))), (aX, .inl (cI, 24, .inl (Xf))), (aY, .inl (cI, 24, .inl (Yf))), (aN, .inl (cI, 24, .inl (Nf))), (f0, .inr (2, [.ref aZ, .ref aO, .int (ch)])), (aZ, .inl (cI, 24, .inl (Zs))), (aO, .inl (cI, 24, .inl (On)))]) hG [] [0, 1, 2, 3, 4, 5, 6, 7] rfl rfl (by decide) (by decide) (va_runSN (As := [.int (d)]) (rest := []) ⟨hx, hb, hml, hown, hts⟩ (cb_upTo l dC dI cI cZ (d) H.size ) (dc_N 1 hts hG.2.2.2.2.2 5 rfl tw_229 tw_1 tw_230 rfl rfl (by decide +kernel) ⟨Nat.le_of_ble_eq_true rfl, Nat.le_of_ble_eq_true rfl⟩) (dw_preS hG [] [0, 1] rfl rfl (by decide) rfl) rfl rfl hl.1 rfl (lv_room (Nat.le_of_ble_eq_true rfl)) dE_askedOfY_93 ⟨Nat.le_refl _, Nat.le_refl _⟩) (fun r u H locs hp hG => ?_)
  subst hp
  have hG : dw_G (dC, dI) vwCl [(cI, .int), (cZ, .boolean)] A s.heap s [(u0, .inr (1, [.ref aK, .ref aX, .ref aY, .ref aN, .ref aV, .ref aM, .int (nI (n)), .int (nI (R))])), (aK, .inl (cI, 24, .inl (Kf))), (aX, .inl (cI, 24, .inl (Xf))), (aY, .inl (cI, 24, .inl (Yf))), (aN, .inl (cI, 24, .inl (Nf))), (f0, .inr (2, [.ref aZ, .ref aO, .int (ch)])), (aZ, .inl (cI, 24, .inl (Zs))), (aO, .inl (cI, 24, .inl (On)))] H locs := hG
  subst hQ
  exact dw_iret hx hb hr hG (()) rfl rfl dE_askedOfY_96 hlocks

set_option maxRecDepth 100000 in
set_option maxHeartbeats 4000000 in
theorem ce_askedOfY3 (l : Launch) (dC : Nat → ClassId) (dI : Nat → Nat → Nat) (cI cZ : ClassId) (f0 aZ aO : Nat) (ch : Int32) (Zs On : Nat → Int32) (u0 aK aX aY aN aV aM n R : Nat) (Kf Xf Yf Nf : Nat → Int32) (v x y : Nat) (d : Int32) (sz : Nat) (hv : v < 24) (hx9 : x < 24) (hy9 : y < 24) (ex : Xf v = nI x) (ey : Yf v = nI y) (ek : Kf v = nI 3) : Met l yE_askedOfY wsE_askedOfY { frames := 2, cells := 0, slots := 0, locals := 60 } (va_Pc [.ref u0, .ref f0, .int (nI (v)), .int (d)] (dw_pre (dC, dI) vwCl [(u0, .inr (1, [.ref aK, .ref aX, .ref aY, .ref aN, .ref aV, .ref aM, .int (nI (n)), .int (nI (R))])), (aK, .inl (cI, 24, .inl (Kf))), (aX, .inl (cI, 24, .inl (Xf))), (aY, .inl (cI, 24, .inl (Yf))), (aN, .inl (cI, 24, .inl (Nf))), (f0, .inr (2, [.ref aZ, .ref aO, .int (ch)])), (aZ, .inl (cI, 24, .inl (Zs))), (aO, .inl (cI, 24, .inl (On)))] [(cI, .int), (cZ, .boolean)] sz)) (va_Qi (fun (r : Int32) (u : Unit) => r = db_askY 3 (Zs x) (On x) (Zs y) (On y) d) (fun u t => dw_post (dC, dI) vwCl [(u0, .inr (1, [.ref aK, .ref aX, .ref aY, .ref aN, .ref aV, .ref aM, .int (nI (n)), .int (nI (R))])), (aK, .inl (cI, 24, .inl (Kf))), (aX, .inl (cI, 24, .inl (Xf))), (aY, .inl (cI, 24, .inl (Yf))), (aN, .inl (cI, 24, .inl (Nf))), (f0, .inr (2, [.ref aZ, .ref aO, .int (ch)])), (aZ, .inl (cI, 24, .inl (Zs))), (aO, .inl (cI, 24, .inl (On)))] [(cI, .int), (cZ, .boolean)] (va_A [(u0, .inr (1, [.ref aK, .ref aX, .ref aY, .ref aN, .ref aV, .ref aM, .int (nI (n)), .int (nI (R))])), (aK, .inl (cI, 24, .inl (Kf))), (aX, .inl (cI, 24, .inl (Xf))), (aY, .inl (cI, 24, .inl (Yf))), (aN, .inl (cI, 24, .inl (Nf))), (f0, .inr (2, [.ref aZ, .ref aO, .int (ch)])), (aZ, .inl (cI, 24, .inl (Zs))), (aO, .inl (cI, 24, .inl (On)))] sz) t) (va_A [(u0, .inr (1, [.ref aK, .ref aX, .ref aY, .ref aN, .ref aV, .ref aM, .int (nI (n)), .int (nI (R))])), (aK, .inl (cI, 24, .inl (Kf))), (aX, .inl (cI, 24, .inl (Xf))), (aY, .inl (cI, 24, .inl (Yf))), (aN, .inl (cI, 24, .inl (Nf))), (f0, .inr (2, [.ref aZ, .ref aO, .int (ch)])), (aZ, .inl (cI, 24, .inl (Zs))), (aO, .inl (cI, 24, .inl (On)))] sz)) 0 0 (va_A [(u0, .inr (1, [.ref aK, .ref aX, .ref aY, .ref aN, .ref aV, .ref aM, .int (nI (n)), .int (nI (R))])), (aK, .inl (cI, 24, .inl (Kf))), (aX, .inl (cI, 24, .inl (Xf))), (aY, .inl (cI, 24, .inl (Yf))), (aN, .inl (cI, 24, .inl (Nf))), (f0, .inr (2, [.ref aZ, .ref aO, .int (ch)])), (aZ, .inl (cI, 24, .inl (Zs))), (aO, .inl (cI, 24, .inl (On)))] sz) := by
  refine Met.ofW (cc := cE_askedOfY) (maxL := 6) (ret := (some .int)) (by decide) rfl ?_
  intro p e s m args below meth c s₁ B hml hv0
  have hx := B.exec
  have hb := B.bytes
  have hr := B.returns
  have hts := atoms_spec (ws := wsE_askedOfY) B.pre
  have hown : s.vm.findClass RE = some m.cls := findClass_of_methodNamed B.named
  have hlocks := B.notSynchronized
  obtain ⟨rfl, hsz, hG⟩ := dw_enter hv0
  generalize va_A [(u0, .inr (1, [.ref aK, .ref aX, .ref aY, .ref aN, .ref aV, .ref aM, .int (nI (n)), .int (nI (R))])), (aK, .inl (cI, 24, .inl (Kf))), (aX, .inl (cI, 24, .inl (Xf))), (aY, .inl (cI, 24, .inl (Yf))), (aN, .inl (cI, 24, .inl (Nf))), (f0, .inr (2, [.ref aZ, .ref aO, .int (ch)])), (aZ, .inl (cI, 24, .inl (Zs))), (aO, .inl (cI, 24, .inl (On)))] sz = A at hG ⊢
  have hl := lv_entry ([.ref u0, .ref f0, .int (nI (v)), .int (d)]) (n := 6) (Nat.le_of_ble_eq_true rfl)
  rw [lg_entry_eq]
  generalize (lg_sl ([.ref u0, .ref f0, .int (nI (v)), .int (d)]) ++ List.replicate (6 - (lg_sl ([.ref u0, .ref f0, .int (nI (v)), .int (d)])).length) Slot.unset).toArray = ls at hl ⊢
  have hl : lv_has ls 6 [(0, .ref u0), (1, .ref f0), (2, .int (nI (v))), (3, .int (d))] := hl
  have hw38 := hts _ (List.mem_cons_of_mem _ tw_38)
  have hw42 := hts _ (List.mem_cons_of_mem _ tw_42)
  have hw33 := hts _ (List.mem_cons_of_mem _ tw_33)
  have hw90 := hts _ (List.mem_cons_of_mem _ tw_90)
  refine dw_Q (fun Q hQ => ?_)
  suffices hgo : ∀ (H : Heap) (locs : List Loc), dw_G (dC, dI) vwCl [(cI, .int), (cZ, .boolean)] A s.heap s [(u0, .inr (1, [.ref aK, .ref aX, .ref aY, .ref aN, .ref aV, .ref aM, .int (nI (n)), .int (nI (R))])), (aK, .inl (cI, 24, .inl (Kf))), (aX, .inl (cI, 24, .inl (Xf))), (aY, .inl (cI, 24, .inl (Yf))), (aN, .inl (cI, 24, .inl (Nf))), (f0, .inr (2, [.ref aZ, .ref aO, .int (ch)])), (aZ, .inl (cI, 24, .inl (Zs))), (aO, .inl (cI, 24, .inl (On)))] H locs → W p l e (headSpec wsE_askedOfY { frames := 2, cells := 0, slots := 0, locals := 60 }).room s m [.ref u0, .ref f0, .int (nI (v)), .int (d)].toArray below meth c H locs 0 0 Q (F0 m 0 ls []) from hgo _ _ hG
  clear hG
  intro H locs hG
  refine lv_aload_n hx hb dE_askedOfY_0 rfl (lv_at hl 0 rfl) ?_
  refine dw_get hx hb hts inUc hown hG 0 1 rfl rfl (by decide) hw38 rfl rfl dE_askedOfY_1 ?_
  refine lv_iload_n hx hb dE_askedOfY_4 rfl (lv_at hl 2 rfl) ?_
  refine dw_ia (x := nI (x)) hx hb hG 2 0 rfl rfl (v) rfl (by omega) (by decide) ex dE_askedOfY_5 ?_
  refine lv_istore (lv' := [(4, .int (nI (x))), (0, .ref u0), (1, .ref f0), (2, .int (nI (v))), (3, .int (d))]) hx hb dE_askedOfY_6 hl (by decide) rfl (fun ls hl => ?_)
  refine lv_aload_n hx hb dE_askedOfY_8 rfl (lv_at hl 1 rfl) ?_
  refine dw_get hx hb hts inUc hown hG 0 2 rfl rfl (by decide) hw42 rfl rfl dE_askedOfY_9 ?_
  refine lv_iload_n hx hb dE_askedOfY_12 rfl (lv_at hl 3 rfl) ?_
  refine dw_ia (x := nI (y)) hx hb hG 3 0 rfl rfl (v) rfl (by omega) (by decide) ey dE_askedOfY_13 ?_
  refine lv_istore (lv' := [(5, .int (nI (y))), (4, .int (nI (x))), (0, .ref u0), (1, .ref f0), (2, .int (nI (v))), (3, .int (d))]) hx hb dE_askedOfY_14 hl (by decide) rfl (fun ls hl => ?_)
  refine lv_aload_n hx hb dE_askedOfY_16 rfl (lv_at hl 2 rfl) ?_
  refine dw_get hx hb hts inUc hown hG 0 0 rfl rfl (by decide) hw33 rfl rfl dE_askedOfY_17 ?_
  refine lv_iload_n hx hb dE_askedOfY_20 rfl (lv_at hl 4 rfl) ?_
  refine dw_ia (x := 3) hx hb hG 1 0 rfl rfl (v) rfl (by omega) (by decide) ek dE_askedOfY_21 ?_
  refine lv_tableIn (tgt := 97) hx hb dE_askedOfY_22 (by decide) (by decide) rfl (by decide) ?_
  refine lv_iload_n hx hb dE_askedOfY_97 rfl (lv_at hl 5 rfl) ?_
  refine lv_aload_n hx hb dE_askedOfY_98 rfl (lv_at hl 3 rfl) ?_
  refine dw_get hx hb hts inFc hown hG 5 0 rfl rfl (by decide) hw90 rfl rfl dE_askedOfY_99 ?_
  refine lv_iload hx hb dE_askedOfY_102 (lv_at hl 1 rfl) ?_
  refine dw_ia (x := (Zs) (x)) hx hb hG 6 0 rfl rfl (x) rfl (by omega) (by decide) rfl dE_askedOfY_104 ?_
  refine lv_aload_n hx hb dE_askedOfY_105 rfl (lv_at hl 3 rfl) ?_
  refine dw_get hx hb hts inFc hown hG 5 0 rfl rfl (by decide) hw90 rfl rfl dE_askedOfY_106 ?_
  refine lv_iload hx hb dE_askedOfY_109 (lv_at hl 0 rfl) ?_
  refine dw_ia (x := (Zs) (y)) hx hb hG 6 0 rfl rfl (y) rfl (by omega) (by decide) rfl dE_askedOfY_111 ?_
  refine lv_iconst (v := -1) hx hb dE_askedOfY_112 (by decide) ?_
  refine lv_ixor hx hb dE_askedOfY_113 ?_
  refine lv_iand hx hb dE_askedOfY_114 ?_
  refine lv_iconst (v := -1) hx hb dE_askedOfY_115 (by decide) ?_
  refine lv_ixor hx hb dE_askedOfY_116 ?_
  refine lv_iand hx hb dE_askedOfY_117 ?_
  subst hQ
  exact dw_iret hx hb hr hG (()) rfl rfl dE_askedOfY_118 hlocks

set_option maxRecDepth 100000 in
set_option maxHeartbeats 4000000 in
theorem ce_askedOfY4 (l : Launch) (dC : Nat → ClassId) (dI : Nat → Nat → Nat) (cI cZ : ClassId) (f0 aZ aO : Nat) (ch : Int32) (Zs On : Nat → Int32) (u0 aK aX aY aN aV aM n R : Nat) (Kf Xf Yf Nf : Nat → Int32) (v x y : Nat) (d : Int32) (sz : Nat) (hv : v < 24) (hx9 : x < 24) (hy9 : y < 24) (ex : Xf v = nI x) (ey : Yf v = nI y) (ek : Kf v = nI 4) : Met l yE_askedOfY wsE_askedOfY { frames := 2, cells := 0, slots := 0, locals := 60 } (va_Pc [.ref u0, .ref f0, .int (nI (v)), .int (d)] (dw_pre (dC, dI) vwCl [(u0, .inr (1, [.ref aK, .ref aX, .ref aY, .ref aN, .ref aV, .ref aM, .int (nI (n)), .int (nI (R))])), (aK, .inl (cI, 24, .inl (Kf))), (aX, .inl (cI, 24, .inl (Xf))), (aY, .inl (cI, 24, .inl (Yf))), (aN, .inl (cI, 24, .inl (Nf))), (f0, .inr (2, [.ref aZ, .ref aO, .int (ch)])), (aZ, .inl (cI, 24, .inl (Zs))), (aO, .inl (cI, 24, .inl (On)))] [(cI, .int), (cZ, .boolean)] sz)) (va_Qi (fun (r : Int32) (u : Unit) => r = db_askY 4 (Zs x) (On x) (Zs y) (On y) d) (fun u t => dw_post (dC, dI) vwCl [(u0, .inr (1, [.ref aK, .ref aX, .ref aY, .ref aN, .ref aV, .ref aM, .int (nI (n)), .int (nI (R))])), (aK, .inl (cI, 24, .inl (Kf))), (aX, .inl (cI, 24, .inl (Xf))), (aY, .inl (cI, 24, .inl (Yf))), (aN, .inl (cI, 24, .inl (Nf))), (f0, .inr (2, [.ref aZ, .ref aO, .int (ch)])), (aZ, .inl (cI, 24, .inl (Zs))), (aO, .inl (cI, 24, .inl (On)))] [(cI, .int), (cZ, .boolean)] (va_A [(u0, .inr (1, [.ref aK, .ref aX, .ref aY, .ref aN, .ref aV, .ref aM, .int (nI (n)), .int (nI (R))])), (aK, .inl (cI, 24, .inl (Kf))), (aX, .inl (cI, 24, .inl (Xf))), (aY, .inl (cI, 24, .inl (Yf))), (aN, .inl (cI, 24, .inl (Nf))), (f0, .inr (2, [.ref aZ, .ref aO, .int (ch)])), (aZ, .inl (cI, 24, .inl (Zs))), (aO, .inl (cI, 24, .inl (On)))] sz) t) (va_A [(u0, .inr (1, [.ref aK, .ref aX, .ref aY, .ref aN, .ref aV, .ref aM, .int (nI (n)), .int (nI (R))])), (aK, .inl (cI, 24, .inl (Kf))), (aX, .inl (cI, 24, .inl (Xf))), (aY, .inl (cI, 24, .inl (Yf))), (aN, .inl (cI, 24, .inl (Nf))), (f0, .inr (2, [.ref aZ, .ref aO, .int (ch)])), (aZ, .inl (cI, 24, .inl (Zs))), (aO, .inl (cI, 24, .inl (On)))] sz)) 0 0 (va_A [(u0, .inr (1, [.ref aK, .ref aX, .ref aY, .ref aN, .ref aV, .ref aM, .int (nI (n)), .int (nI (R))])), (aK, .inl (cI, 24, .inl (Kf))), (aX, .inl (cI, 24, .inl (Xf))), (aY, .inl (cI, 24, .inl (Yf))), (aN, .inl (cI, 24, .inl (Nf))), (f0, .inr (2, [.ref aZ, .ref aO, .int (ch)])), (aZ, .inl (cI, 24, .inl (Zs))), (aO, .inl (cI, 24, .inl (On)))] sz) := by
  refine Met.ofW (cc := cE_askedOfY) (maxL := 6) (ret := (some .int)) (by decide) rfl ?_
  intro p e s m args below meth c s₁ B hml hv0
  have hx := B.exec
  have hb := B.bytes
  have hr := B.returns
  have hts := atoms_spec (ws := wsE_askedOfY) B.pre
  have hown : s.vm.findClass RE = some m.cls := findClass_of_methodNamed B.named
  have hlocks := B.notSynchronized
  obtain ⟨rfl, hsz, hG⟩ := dw_enter hv0
  generalize va_A [(u0, .inr (1, [.ref aK, .ref aX, .ref aY, .ref aN, .ref aV, .ref aM, .int (nI (n)), .int (nI (R))])), (aK, .inl (cI, 24, .inl (Kf))), (aX, .inl (cI, 24, .inl (Xf))), (aY, .inl (cI, 24, .inl (Yf))), (aN, .inl (cI, 24, .inl (Nf))), (f0, .inr (2, [.ref aZ, .ref aO, .int (ch)])), (aZ, .inl (cI, 24, .inl (Zs))), (aO, .inl (cI, 24, .inl (On)))] sz = A at hG ⊢
  have hl := lv_entry ([.ref u0, .ref f0, .int (nI (v)), .int (d)]) (n := 6) (Nat.le_of_ble_eq_true rfl)
  rw [lg_entry_eq]
  generalize (lg_sl ([.ref u0, .ref f0, .int (nI (v)), .int (d)]) ++ List.replicate (6 - (lg_sl ([.ref u0, .ref f0, .int (nI (v)), .int (d)])).length) Slot.unset).toArray = ls at hl ⊢
  have hl : lv_has ls 6 [(0, .ref u0), (1, .ref f0), (2, .int (nI (v))), (3, .int (d))] := hl
  have hw38 := hts _ (List.mem_cons_of_mem _ tw_38)
  have hw42 := hts _ (List.mem_cons_of_mem _ tw_42)
  have hw33 := hts _ (List.mem_cons_of_mem _ tw_33)
  have hw93 := hts _ (List.mem_cons_of_mem _ tw_93)
  refine dw_Q (fun Q hQ => ?_)
  suffices hgo : ∀ (H : Heap) (locs : List Loc), dw_G (dC, dI) vwCl [(cI, .int), (cZ, .boolean)] A s.heap s [(u0, .inr (1, [.ref aK, .ref aX, .ref aY, .ref aN, .ref aV, .ref aM, .int (nI (n)), .int (nI (R))])), (aK, .inl (cI, 24, .inl (Kf))), (aX, .inl (cI, 24, .inl (Xf))), (aY, .inl (cI, 24, .inl (Yf))), (aN, .inl (cI, 24, .inl (Nf))), (f0, .inr (2, [.ref aZ, .ref aO, .int (ch)])), (aZ, .inl (cI, 24, .inl (Zs))), (aO, .inl (cI, 24, .inl (On)))] H locs → W p l e (headSpec wsE_askedOfY { frames := 2, cells := 0, slots := 0, locals := 60 }).room s m [.ref u0, .ref f0, .int (nI (v)), .int (d)].toArray below meth c H locs 0 0 Q (F0 m 0 ls []) from hgo _ _ hG
  clear hG
  intro H locs hG
  refine lv_aload_n hx hb dE_askedOfY_0 rfl (lv_at hl 0 rfl) ?_
  refine dw_get hx hb hts inUc hown hG 0 1 rfl rfl (by decide) hw38 rfl rfl dE_askedOfY_1 ?_
  refine lv_iload_n hx hb dE_askedOfY_4 rfl (lv_at hl 2 rfl) ?_
  refine dw_ia (x := nI (x)) hx hb hG 2 0 rfl rfl (v) rfl (by omega) (by decide) ex dE_askedOfY_5 ?_
  refine lv_istore (lv' := [(4, .int (nI (x))), (0, .ref u0), (1, .ref f0), (2, .int (nI (v))), (3, .int (d))]) hx hb dE_askedOfY_6 hl (by decide) rfl (fun ls hl => ?_)
  refine lv_aload_n hx hb dE_askedOfY_8 rfl (lv_at hl 1 rfl) ?_
  refine dw_get hx hb hts inUc hown hG 0 2 rfl rfl (by decide) hw42 rfl rfl dE_askedOfY_9 ?_
  refine lv_iload_n hx hb dE_askedOfY_12 rfl (lv_at hl 3 rfl) ?_
  refine dw_ia (x := nI (y)) hx hb hG 3 0 rfl rfl (v) rfl (by omega) (by decide) ey dE_askedOfY_13 ?_
  refine lv_istore (lv' := [(5, .int (nI (y))), (4, .int (nI (x))), (0, .ref u0), (1, .ref f0), (2, .int (nI (v))), (3, .int (d))]) hx hb dE_askedOfY_14 hl (by decide) rfl (fun ls hl => ?_)
  refine lv_aload_n hx hb dE_askedOfY_16 rfl (lv_at hl 2 rfl) ?_
  refine dw_get hx hb hts inUc hown hG 0 0 rfl rfl (by decide) hw33 rfl rfl dE_askedOfY_17 ?_
  refine lv_iload_n hx hb dE_askedOfY_20 rfl (lv_at hl 4 rfl) ?_
  refine dw_ia (x := 4) hx hb hG 1 0 rfl rfl (v) rfl (by omega) (by decide) ek dE_askedOfY_21 ?_
  refine lv_tableIn (tgt := 119) hx hb dE_askedOfY_22 (by decide) (by decide) rfl (by decide) ?_
  refine lv_iload_n hx hb dE_askedOfY_119 rfl (lv_at hl 5 rfl) ?_
  refine lv_aload_n hx hb dE_askedOfY_120 rfl (lv_at hl 3 rfl) ?_
  refine dw_get hx hb hts inFc hown hG 5 1 rfl rfl (by decide) hw93 rfl rfl dE_askedOfY_121 ?_
  refine lv_iload hx hb dE_askedOfY_124 (lv_at hl 1 rfl) ?_
  refine dw_ia (x := (On) (x)) hx hb hG 7 0 rfl rfl (x) rfl (by omega) (by decide) rfl dE_askedOfY_126 ?_
  refine lv_aload_n hx hb dE_askedOfY_127 rfl (lv_at hl 3 rfl) ?_
  refine dw_get hx hb hts inFc hown hG 5 1 rfl rfl (by decide) hw93 rfl rfl dE_askedOfY_128 ?_
  refine lv_iload hx hb dE_askedOfY_131 (lv_at hl 0 rfl) ?_
  refine dw_ia (x := (On) (y)) hx hb hG 7 0 rfl rfl (y) rfl (by omega) (by decide) rfl dE_askedOfY_133 ?_
  refine lv_iconst (v := -1) hx hb dE_askedOfY_134 (by decide) ?_
  refine lv_ixor hx hb dE_askedOfY_135 ?_
  refine lv_iand hx hb dE_askedOfY_136 ?_
  refine lv_iconst (v := -1) hx hb dE_askedOfY_137 (by decide) ?_
  refine lv_ixor hx hb dE_askedOfY_138 ?_
  refine lv_iand hx hb dE_askedOfY_139 ?_
  subst hQ
  exact dw_iret hx hb hr hG (()) rfl rfl dE_askedOfY_140 hlocks

set_option maxRecDepth 100000 in
set_option maxHeartbeats 4000000 in
theorem ce_askedOfY5 (l : Launch) (dC : Nat → ClassId) (dI : Nat → Nat → Nat) (cI cZ : ClassId) (f0 aZ aO : Nat) (ch : Int32) (Zs On : Nat → Int32) (u0 aK aX aY aN aV aM n R : Nat) (Kf Xf Yf Nf : Nat → Int32) (v x y : Nat) (d : Int32) (sz : Nat) (hv : v < 24) (hx9 : x < 24) (hy9 : y < 24) (ex : Xf v = nI x) (ey : Yf v = nI y) (ek : Kf v = nI 5) : Met l yE_askedOfY wsE_askedOfY { frames := 2, cells := 0, slots := 0, locals := 60 } (va_Pc [.ref u0, .ref f0, .int (nI (v)), .int (d)] (dw_pre (dC, dI) vwCl [(u0, .inr (1, [.ref aK, .ref aX, .ref aY, .ref aN, .ref aV, .ref aM, .int (nI (n)), .int (nI (R))])), (aK, .inl (cI, 24, .inl (Kf))), (aX, .inl (cI, 24, .inl (Xf))), (aY, .inl (cI, 24, .inl (Yf))), (aN, .inl (cI, 24, .inl (Nf))), (f0, .inr (2, [.ref aZ, .ref aO, .int (ch)])), (aZ, .inl (cI, 24, .inl (Zs))), (aO, .inl (cI, 24, .inl (On)))] [(cI, .int), (cZ, .boolean)] sz)) (va_Qi (fun (r : Int32) (u : Unit) => r = db_askY 5 (Zs x) (On x) (Zs y) (On y) d) (fun u t => dw_post (dC, dI) vwCl [(u0, .inr (1, [.ref aK, .ref aX, .ref aY, .ref aN, .ref aV, .ref aM, .int (nI (n)), .int (nI (R))])), (aK, .inl (cI, 24, .inl (Kf))), (aX, .inl (cI, 24, .inl (Xf))), (aY, .inl (cI, 24, .inl (Yf))), (aN, .inl (cI, 24, .inl (Nf))), (f0, .inr (2, [.ref aZ, .ref aO, .int (ch)])), (aZ, .inl (cI, 24, .inl (Zs))), (aO, .inl (cI, 24, .inl (On)))] [(cI, .int), (cZ, .boolean)] (va_A [(u0, .inr (1, [.ref aK, .ref aX, .ref aY, .ref aN, .ref aV, .ref aM, .int (nI (n)), .int (nI (R))])), (aK, .inl (cI, 24, .inl (Kf))), (aX, .inl (cI, 24, .inl (Xf))), (aY, .inl (cI, 24, .inl (Yf))), (aN, .inl (cI, 24, .inl (Nf))), (f0, .inr (2, [.ref aZ, .ref aO, .int (ch)])), (aZ, .inl (cI, 24, .inl (Zs))), (aO, .inl (cI, 24, .inl (On)))] sz) t) (va_A [(u0, .inr (1, [.ref aK, .ref aX, .ref aY, .ref aN, .ref aV, .ref aM, .int (nI (n)), .int (nI (R))])), (aK, .inl (cI, 24, .inl (Kf))), (aX, .inl (cI, 24, .inl (Xf))), (aY, .inl (cI, 24, .inl (Yf))), (aN, .inl (cI, 24, .inl (Nf))), (f0, .inr (2, [.ref aZ, .ref aO, .int (ch)])), (aZ, .inl (cI, 24, .inl (Zs))), (aO, .inl (cI, 24, .inl (On)))] sz)) 0 0 (va_A [(u0, .inr (1, [.ref aK, .ref aX, .ref aY, .ref aN, .ref aV, .ref aM, .int (nI (n)), .int (nI (R))])), (aK, .inl (cI, 24, .inl (Kf))), (aX, .inl (cI, 24, .inl (Xf))), (aY, .inl (cI, 24, .inl (Yf))), (aN, .inl (cI, 24, .inl (Nf))), (f0, .inr (2, [.ref aZ, .ref aO, .int (ch)])), (aZ, .inl (cI, 24, .inl (Zs))), (aO, .inl (cI, 24, .inl (On)))] sz) := by
  refine Met.ofW (cc := cE_askedOfY) (maxL := 6) (ret := (some .int)) (by decide) rfl ?_
  intro p e s m args below meth c s₁ B hml hv0
  have hx := B.exec
  have hb := B.bytes
  have hr := B.returns
  have hts := atoms_spec (ws := wsE_askedOfY) B.pre
  have hown : s.vm.findClass RE = some m.cls := findClass_of_methodNamed B.named
  have hlocks := B.notSynchronized
  obtain ⟨rfl, hsz, hG⟩ := dw_enter hv0
  generalize va_A [(u0, .inr (1, [.ref aK, .ref aX, .ref aY, .ref aN, .ref aV, .ref aM, .int (nI (n)), .int (nI (R))])), (aK, .inl (cI, 24, .inl (Kf))), (aX, .inl (cI, 24, .inl (Xf))), (aY, .inl (cI, 24, .inl (Yf))), (aN, .inl (cI, 24, .inl (Nf))), (f0, .inr (2, [.ref aZ, .ref aO, .int (ch)])), (aZ, .inl (cI, 24, .inl (Zs))), (aO, .inl (cI, 24, .inl (On)))] sz = A at hG ⊢
  have hl := lv_entry ([.ref u0, .ref f0, .int (nI (v)), .int (d)]) (n := 6) (Nat.le_of_ble_eq_true rfl)
  rw [lg_entry_eq]
  generalize (lg_sl ([.ref u0, .ref f0, .int (nI (v)), .int (d)]) ++ List.replicate (6 - (lg_sl ([.ref u0, .ref f0, .int (nI (v)), .int (d)])).length) Slot.unset).toArray = ls at hl ⊢
  have hl : lv_has ls 6 [(0, .ref u0), (1, .ref f0), (2, .int (nI (v))), (3, .int (d))] := hl
  have hw38 := hts _ (List.mem_cons_of_mem _ tw_38)
  have hw42 := hts _ (List.mem_cons_of_mem _ tw_42)
  have hw33 := hts _ (List.mem_cons_of_mem _ tw_33)
  refine dw_Q (fun Q hQ => ?_)
  suffices hgo : ∀ (H : Heap) (locs : List Loc), dw_G (dC, dI) vwCl [(cI, .int), (cZ, .boolean)] A s.heap s [(u0, .inr (1, [.ref aK, .ref aX, .ref aY, .ref aN, .ref aV, .ref aM, .int (nI (n)), .int (nI (R))])), (aK, .inl (cI, 24, .inl (Kf))), (aX, .inl (cI, 24, .inl (Xf))), (aY, .inl (cI, 24, .inl (Yf))), (aN, .inl (cI, 24, .inl (Nf))), (f0, .inr (2, [.ref aZ, .ref aO, .int (ch)])), (aZ, .inl (cI, 24, .inl (Zs))), (aO, .inl (cI, 24, .inl (On)))] H locs → W p l e (headSpec wsE_askedOfY { frames := 2, cells := 0, slots := 0, locals := 60 }).room s m [.ref u0, .ref f0, .int (nI (v)), .int (d)].toArray below meth c H locs 0 0 Q (F0 m 0 ls []) from hgo _ _ hG
  clear hG
  intro H locs hG
  refine lv_aload_n hx hb dE_askedOfY_0 rfl (lv_at hl 0 rfl) ?_
  refine dw_get hx hb hts inUc hown hG 0 1 rfl rfl (by decide) hw38 rfl rfl dE_askedOfY_1 ?_
  refine lv_iload_n hx hb dE_askedOfY_4 rfl (lv_at hl 2 rfl) ?_
  refine dw_ia (x := nI (x)) hx hb hG 2 0 rfl rfl (v) rfl (by omega) (by decide) ex dE_askedOfY_5 ?_
  refine lv_istore (lv' := [(4, .int (nI (x))), (0, .ref u0), (1, .ref f0), (2, .int (nI (v))), (3, .int (d))]) hx hb dE_askedOfY_6 hl (by decide) rfl (fun ls hl => ?_)
  refine lv_aload_n hx hb dE_askedOfY_8 rfl (lv_at hl 1 rfl) ?_
  refine dw_get hx hb hts inUc hown hG 0 2 rfl rfl (by decide) hw42 rfl rfl dE_askedOfY_9 ?_
  refine lv_iload_n hx hb dE_askedOfY_12 rfl (lv_at hl 3 rfl) ?_
  refine dw_ia (x := nI (y)) hx hb hG 3 0 rfl rfl (v) rfl (by omega) (by decide) ey dE_askedOfY_13 ?_
  refine lv_istore (lv' := [(5, .int (nI (y))), (4, .int (nI (x))), (0, .ref u0), (1, .ref f0), (2, .int (nI (v))), (3, .int (d))]) hx hb dE_askedOfY_14 hl (by decide) rfl (fun ls hl => ?_)
  refine lv_aload_n hx hb dE_askedOfY_16 rfl (lv_at hl 2 rfl) ?_
  refine dw_get hx hb hts inUc hown hG 0 0 rfl rfl (by decide) hw33 rfl rfl dE_askedOfY_17 ?_
  refine lv_iload_n hx hb dE_askedOfY_20 rfl (lv_at hl 4 rfl) ?_
  refine dw_ia (x := 5) hx hb hG 1 0 rfl rfl (v) rfl (by omega) (by decide) ek dE_askedOfY_21 ?_
  refine lv_tableIn (tgt := 141) hx hb dE_askedOfY_22 (by decide) (by decide) rfl (by decide) ?_
  refine lv_iload_n hx hb dE_askedOfY_141 rfl (lv_at hl 5 rfl) ?_
  subst hQ
  exact dw_iret hx hb hr hG (()) rfl rfl dE_askedOfY_142 hlocks

set_option maxRecDepth 100000 in
set_option maxHeartbeats 4000000 in
theorem ce_askedOfY6 (l : Launch) (dC : Nat → ClassId) (dI : Nat → Nat → Nat) (cI cZ : ClassId) (f0 aZ aO : Nat) (ch : Int32) (Zs On : Nat → Int32) (u0 aK aX aY aN aV aM n R : Nat) (Kf Xf Yf Nf : Nat → Int32) (v x y : Nat) (d : Int32) (sz : Nat) (hv : v < 24) (hx9 : x < 24) (hy9 : y < 24) (ex : Xf v = nI x) (ey : Yf v = nI y) (ek : Kf v = nI 6) : Met l yE_askedOfY wsE_askedOfY { frames := 2, cells := 0, slots := 0, locals := 60 } (va_Pc [.ref u0, .ref f0, .int (nI (v)), .int (d)] (dw_pre (dC, dI) vwCl [(u0, .inr (1, [.ref aK, .ref aX, .ref aY, .ref aN, .ref aV, .ref aM, .int (nI (n)), .int (nI (R))])), (aK, .inl (cI, 24, .inl (Kf))), (aX, .inl (cI, 24, .inl (Xf))), (aY, .inl (cI, 24, .inl (Yf))), (aN, .inl (cI, 24, .inl (Nf))), (f0, .inr (2, [.ref aZ, .ref aO, .int (ch)])), (aZ, .inl (cI, 24, .inl (Zs))), (aO, .inl (cI, 24, .inl (On)))] [(cI, .int), (cZ, .boolean)] sz)) (va_Qi (fun (r : Int32) (u : Unit) => r = db_askY 6 (Zs x) (On x) (Zs y) (On y) d) (fun u t => dw_post (dC, dI) vwCl [(u0, .inr (1, [.ref aK, .ref aX, .ref aY, .ref aN, .ref aV, .ref aM, .int (nI (n)), .int (nI (R))])), (aK, .inl (cI, 24, .inl (Kf))), (aX, .inl (cI, 24, .inl (Xf))), (aY, .inl (cI, 24, .inl (Yf))), (aN, .inl (cI, 24, .inl (Nf))), (f0, .inr (2, [.ref aZ, .ref aO, .int (ch)])), (aZ, .inl (cI, 24, .inl (Zs))), (aO, .inl (cI, 24, .inl (On)))] [(cI, .int), (cZ, .boolean)] (va_A [(u0, .inr (1, [.ref aK, .ref aX, .ref aY, .ref aN, .ref aV, .ref aM, .int (nI (n)), .int (nI (R))])), (aK, .inl (cI, 24, .inl (Kf))), (aX, .inl (cI, 24, .inl (Xf))), (aY, .inl (cI, 24, .inl (Yf))), (aN, .inl (cI, 24, .inl (Nf))), (f0, .inr (2, [.ref aZ, .ref aO, .int (ch)])), (aZ, .inl (cI, 24, .inl (Zs))), (aO, .inl (cI, 24, .inl (On)))] sz) t) (va_A [(u0, .inr (1, [.ref aK, .ref aX, .ref aY, .ref aN, .ref aV, .ref aM, .int (nI (n)), .int (nI (R))])), (aK, .inl (cI, 24, .inl (Kf))), (aX, .inl (cI, 24, .inl (Xf))), (aY, .inl (cI, 24, .inl (Yf))), (aN, .inl (cI, 24, .inl (Nf))), (f0, .inr (2, [.ref aZ, .ref aO, .int (ch)])), (aZ, .inl (cI, 24, .inl (Zs))), (aO, .inl (cI, 24, .inl (On)))] sz)) 0 0 (va_A [(u0, .inr (1, [.ref aK, .ref aX, .ref aY, .ref aN, .ref aV, .ref aM, .int (nI (n)), .int (nI (R))])), (aK, .inl (cI, 24, .inl (Kf))), (aX, .inl (cI, 24, .inl (Xf))), (aY, .inl (cI, 24, .inl (Yf))), (aN, .inl (cI, 24, .inl (Nf))), (f0, .inr (2, [.ref aZ, .ref aO, .int (ch)])), (aZ, .inl (cI, 24, .inl (Zs))), (aO, .inl (cI, 24, .inl (On)))] sz) := by
  refine Met.ofW (cc := cE_askedOfY) (maxL := 6) (ret := (some .int)) (by decide) rfl ?_
  intro p e s m args below meth c s₁ B hml hv0
  have hx := B.exec
  have hb := B.bytes
  have hr := B.returns
  have hts := atoms_spec (ws := wsE_askedOfY) B.pre
  have hown : s.vm.findClass RE = some m.cls := findClass_of_methodNamed B.named
  have hlocks := B.notSynchronized
  obtain ⟨rfl, hsz, hG⟩ := dw_enter hv0
  generalize va_A [(u0, .inr (1, [.ref aK, .ref aX, .ref aY, .ref aN, .ref aV, .ref aM, .int (nI (n)), .int (nI (R))])), (aK, .inl (cI, 24, .inl (Kf))), (aX, .inl (cI, 24, .inl (Xf))), (aY, .inl (cI, 24, .inl (Yf))), (aN, .inl (cI, 24, .inl (Nf))), (f0, .inr (2, [.ref aZ, .ref aO, .int (ch)])), (aZ, .inl (cI, 24, .inl (Zs))), (aO, .inl (cI, 24, .inl (On)))] sz = A at hG ⊢
  have hl := lv_entry ([.ref u0, .ref f0, .int (nI (v)), .int (d)]) (n := 6) (Nat.le_of_ble_eq_true rfl)
  rw [lg_entry_eq]
  generalize (lg_sl ([.ref u0, .ref f0, .int (nI (v)), .int (d)]) ++ List.replicate (6 - (lg_sl ([.ref u0, .ref f0, .int (nI (v)), .int (d)])).length) Slot.unset).toArray = ls at hl ⊢
  have hl : lv_has ls 6 [(0, .ref u0), (1, .ref f0), (2, .int (nI (v))), (3, .int (d))] := hl
  have hw38 := hts _ (List.mem_cons_of_mem _ tw_38)
  have hw42 := hts _ (List.mem_cons_of_mem _ tw_42)
  have hw33 := hts _ (List.mem_cons_of_mem _ tw_33)
  refine dw_Q (fun Q hQ => ?_)
  suffices hgo : ∀ (H : Heap) (locs : List Loc), dw_G (dC, dI) vwCl [(cI, .int), (cZ, .boolean)] A s.heap s [(u0, .inr (1, [.ref aK, .ref aX, .ref aY, .ref aN, .ref aV, .ref aM, .int (nI (n)), .int (nI (R))])), (aK, .inl (cI, 24, .inl (Kf))), (aX, .inl (cI, 24, .inl (Xf))), (aY, .inl (cI, 24, .inl (Yf))), (aN, .inl (cI, 24, .inl (Nf))), (f0, .inr (2, [.ref aZ, .ref aO, .int (ch)])), (aZ, .inl (cI, 24, .inl (Zs))), (aO, .inl (cI, 24, .inl (On)))] H locs → W p l e (headSpec wsE_askedOfY { frames := 2, cells := 0, slots := 0, locals := 60 }).room s m [.ref u0, .ref f0, .int (nI (v)), .int (d)].toArray below meth c H locs 0 0 Q (F0 m 0 ls []) from hgo _ _ hG
  clear hG
  intro H locs hG
  refine lv_aload_n hx hb dE_askedOfY_0 rfl (lv_at hl 0 rfl) ?_
  refine dw_get hx hb hts inUc hown hG 0 1 rfl rfl (by decide) hw38 rfl rfl dE_askedOfY_1 ?_
  refine lv_iload_n hx hb dE_askedOfY_4 rfl (lv_at hl 2 rfl) ?_
  refine dw_ia (x := nI (x)) hx hb hG 2 0 rfl rfl (v) rfl (by omega) (by decide) ex dE_askedOfY_5 ?_
  refine lv_istore (lv' := [(4, .int (nI (x))), (0, .ref u0), (1, .ref f0), (2, .int (nI (v))), (3, .int (d))]) hx hb dE_askedOfY_6 hl (by decide) rfl (fun ls hl => ?_)
  refine lv_aload_n hx hb dE_askedOfY_8 rfl (lv_at hl 1 rfl) ?_
  refine dw_get hx hb hts inUc hown hG 0 2 rfl rfl (by decide) hw42 rfl rfl dE_askedOfY_9 ?_
  refine lv_iload_n hx hb dE_askedOfY_12 rfl (lv_at hl 3 rfl) ?_
  refine dw_ia (x := nI (y)) hx hb hG 3 0 rfl rfl (v) rfl (by omega) (by decide) ey dE_askedOfY_13 ?_
  refine lv_istore (lv' := [(5, .int (nI (y))), (4, .int (nI (x))), (0, .ref u0), (1, .ref f0), (2, .int (nI (v))), (3, .int (d))]) hx hb dE_askedOfY_14 hl (by decide) rfl (fun ls hl => ?_)
  refine lv_aload_n hx hb dE_askedOfY_16 rfl (lv_at hl 2 rfl) ?_
  refine dw_get hx hb hts inUc hown hG 0 0 rfl rfl (by decide) hw33 rfl rfl dE_askedOfY_17 ?_
  refine lv_iload_n hx hb dE_askedOfY_20 rfl (lv_at hl 4 rfl) ?_
  refine dw_ia (x := 6) hx hb hG 1 0 rfl rfl (v) rfl (by omega) (by decide) ek dE_askedOfY_21 ?_
  refine lv_tableIn (tgt := 143) hx hb dE_askedOfY_22 (by decide) (by decide) rfl (by decide) ?_
  refine lv_iconst (v := 0) hx hb dE_askedOfY_143 (by decide) ?_
  subst hQ
  exact dw_iret hx hb hr hG (()) rfl rfl dE_askedOfY_144 hlocks

set_option maxRecDepth 100000 in
set_option maxHeartbeats 4000000 in
theorem ce_askedOfY7 (l : Launch) (dC : Nat → ClassId) (dI : Nat → Nat → Nat) (cI cZ : ClassId) (f0 aZ aO : Nat) (ch : Int32) (Zs On : Nat → Int32) (u0 aK aX aY aN aV aM n R : Nat) (Kf Xf Yf Nf : Nat → Int32) (v x y : Nat) (d : Int32) (sz : Nat) (hv : v < 24) (hx9 : x < 24) (hy9 : y < 24) (ex : Xf v = nI x) (ey : Yf v = nI y) (ek : Kf v = nI 7) : Met l yE_askedOfY wsE_askedOfY { frames := 2, cells := 0, slots := 0, locals := 60 } (va_Pc [.ref u0, .ref f0, .int (nI (v)), .int (d)] (dw_pre (dC, dI) vwCl [(u0, .inr (1, [.ref aK, .ref aX, .ref aY, .ref aN, .ref aV, .ref aM, .int (nI (n)), .int (nI (R))])), (aK, .inl (cI, 24, .inl (Kf))), (aX, .inl (cI, 24, .inl (Xf))), (aY, .inl (cI, 24, .inl (Yf))), (aN, .inl (cI, 24, .inl (Nf))), (f0, .inr (2, [.ref aZ, .ref aO, .int (ch)])), (aZ, .inl (cI, 24, .inl (Zs))), (aO, .inl (cI, 24, .inl (On)))] [(cI, .int), (cZ, .boolean)] sz)) (va_Qi (fun (r : Int32) (u : Unit) => r = db_askY 7 (Zs x) (On x) (Zs y) (On y) d) (fun u t => dw_post (dC, dI) vwCl [(u0, .inr (1, [.ref aK, .ref aX, .ref aY, .ref aN, .ref aV, .ref aM, .int (nI (n)), .int (nI (R))])), (aK, .inl (cI, 24, .inl (Kf))), (aX, .inl (cI, 24, .inl (Xf))), (aY, .inl (cI, 24, .inl (Yf))), (aN, .inl (cI, 24, .inl (Nf))), (f0, .inr (2, [.ref aZ, .ref aO, .int (ch)])), (aZ, .inl (cI, 24, .inl (Zs))), (aO, .inl (cI, 24, .inl (On)))] [(cI, .int), (cZ, .boolean)] (va_A [(u0, .inr (1, [.ref aK, .ref aX, .ref aY, .ref aN, .ref aV, .ref aM, .int (nI (n)), .int (nI (R))])), (aK, .inl (cI, 24, .inl (Kf))), (aX, .inl (cI, 24, .inl (Xf))), (aY, .inl (cI, 24, .inl (Yf))), (aN, .inl (cI, 24, .inl (Nf))), (f0, .inr (2, [.ref aZ, .ref aO, .int (ch)])), (aZ, .inl (cI, 24, .inl (Zs))), (aO, .inl (cI, 24, .inl (On)))] sz) t) (va_A [(u0, .inr (1, [.ref aK, .ref aX, .ref aY, .ref aN, .ref aV, .ref aM, .int (nI (n)), .int (nI (R))])), (aK, .inl (cI, 24, .inl (Kf))), (aX, .inl (cI, 24, .inl (Xf))), (aY, .inl (cI, 24, .inl (Yf))), (aN, .inl (cI, 24, .inl (Nf))), (f0, .inr (2, [.ref aZ, .ref aO, .int (ch)])), (aZ, .inl (cI, 24, .inl (Zs))), (aO, .inl (cI, 24, .inl (On)))] sz)) 0 0 (va_A [(u0, .inr (1, [.ref aK, .ref aX, .ref aY, .ref aN, .ref aV, .ref aM, .int (nI (n)), .int (nI (R))])), (aK, .inl (cI, 24, .inl (Kf))), (aX, .inl (cI, 24, .inl (Xf))), (aY, .inl (cI, 24, .inl (Yf))), (aN, .inl (cI, 24, .inl (Nf))), (f0, .inr (2, [.ref aZ, .ref aO, .int (ch)])), (aZ, .inl (cI, 24, .inl (Zs))), (aO, .inl (cI, 24, .inl (On)))] sz) := by
  refine Met.ofW (cc := cE_askedOfY) (maxL := 6) (ret := (some .int)) (by decide) rfl ?_
  intro p e s m args below meth c s₁ B hml hv0
  have hx := B.exec
  have hb := B.bytes
  have hr := B.returns
  have hts := atoms_spec (ws := wsE_askedOfY) B.pre
  have hown : s.vm.findClass RE = some m.cls := findClass_of_methodNamed B.named
  have hlocks := B.notSynchronized
  obtain ⟨rfl, hsz, hG⟩ := dw_enter hv0
  generalize va_A [(u0, .inr (1, [.ref aK, .ref aX, .ref aY, .ref aN, .ref aV, .ref aM, .int (nI (n)), .int (nI (R))])), (aK, .inl (cI, 24, .inl (Kf))), (aX, .inl (cI, 24, .inl (Xf))), (aY, .inl (cI, 24, .inl (Yf))), (aN, .inl (cI, 24, .inl (Nf))), (f0, .inr (2, [.ref aZ, .ref aO, .int (ch)])), (aZ, .inl (cI, 24, .inl (Zs))), (aO, .inl (cI, 24, .inl (On)))] sz = A at hG ⊢
  have hl := lv_entry ([.ref u0, .ref f0, .int (nI (v)), .int (d)]) (n := 6) (Nat.le_of_ble_eq_true rfl)
  rw [lg_entry_eq]
  generalize (lg_sl ([.ref u0, .ref f0, .int (nI (v)), .int (d)]) ++ List.replicate (6 - (lg_sl ([.ref u0, .ref f0, .int (nI (v)), .int (d)])).length) Slot.unset).toArray = ls at hl ⊢
  have hl : lv_has ls 6 [(0, .ref u0), (1, .ref f0), (2, .int (nI (v))), (3, .int (d))] := hl
  have hw38 := hts _ (List.mem_cons_of_mem _ tw_38)
  have hw42 := hts _ (List.mem_cons_of_mem _ tw_42)
  have hw33 := hts _ (List.mem_cons_of_mem _ tw_33)
  refine dw_Q (fun Q hQ => ?_)
  suffices hgo : ∀ (H : Heap) (locs : List Loc), dw_G (dC, dI) vwCl [(cI, .int), (cZ, .boolean)] A s.heap s [(u0, .inr (1, [.ref aK, .ref aX, .ref aY, .ref aN, .ref aV, .ref aM, .int (nI (n)), .int (nI (R))])), (aK, .inl (cI, 24, .inl (Kf))), (aX, .inl (cI, 24, .inl (Xf))), (aY, .inl (cI, 24, .inl (Yf))), (aN, .inl (cI, 24, .inl (Nf))), (f0, .inr (2, [.ref aZ, .ref aO, .int (ch)])), (aZ, .inl (cI, 24, .inl (Zs))), (aO, .inl (cI, 24, .inl (On)))] H locs → W p l e (headSpec wsE_askedOfY { frames := 2, cells := 0, slots := 0, locals := 60 }).room s m [.ref u0, .ref f0, .int (nI (v)), .int (d)].toArray below meth c H locs 0 0 Q (F0 m 0 ls []) from hgo _ _ hG
  clear hG
  intro H locs hG
  refine lv_aload_n hx hb dE_askedOfY_0 rfl (lv_at hl 0 rfl) ?_
  refine dw_get hx hb hts inUc hown hG 0 1 rfl rfl (by decide) hw38 rfl rfl dE_askedOfY_1 ?_
  refine lv_iload_n hx hb dE_askedOfY_4 rfl (lv_at hl 2 rfl) ?_
  refine dw_ia (x := nI (x)) hx hb hG 2 0 rfl rfl (v) rfl (by omega) (by decide) ex dE_askedOfY_5 ?_
  refine lv_istore (lv' := [(4, .int (nI (x))), (0, .ref u0), (1, .ref f0), (2, .int (nI (v))), (3, .int (d))]) hx hb dE_askedOfY_6 hl (by decide) rfl (fun ls hl => ?_)
  refine lv_aload_n hx hb dE_askedOfY_8 rfl (lv_at hl 1 rfl) ?_
  refine dw_get hx hb hts inUc hown hG 0 2 rfl rfl (by decide) hw42 rfl rfl dE_askedOfY_9 ?_
  refine lv_iload_n hx hb dE_askedOfY_12 rfl (lv_at hl 3 rfl) ?_
  refine dw_ia (x := nI (y)) hx hb hG 3 0 rfl rfl (v) rfl (by omega) (by decide) ey dE_askedOfY_13 ?_
  refine lv_istore (lv' := [(5, .int (nI (y))), (4, .int (nI (x))), (0, .ref u0), (1, .ref f0), (2, .int (nI (v))), (3, .int (d))]) hx hb dE_askedOfY_14 hl (by decide) rfl (fun ls hl => ?_)
  refine lv_aload_n hx hb dE_askedOfY_16 rfl (lv_at hl 2 rfl) ?_
  refine dw_get hx hb hts inUc hown hG 0 0 rfl rfl (by decide) hw33 rfl rfl dE_askedOfY_17 ?_
  refine lv_iload_n hx hb dE_askedOfY_20 rfl (lv_at hl 4 rfl) ?_
  refine dw_ia (x := 7) hx hb hG 1 0 rfl rfl (v) rfl (by omega) (by decide) ek dE_askedOfY_21 ?_
  refine lv_tableIn (tgt := 143) hx hb dE_askedOfY_22 (by decide) (by decide) rfl (by decide) ?_
  refine lv_iconst (v := 0) hx hb dE_askedOfY_143 (by decide) ?_
  subst hQ
  exact dw_iret hx hb hr hG (()) rfl rfl dE_askedOfY_144 hlocks

set_option maxRecDepth 100000 in
set_option maxHeartbeats 4000000 in
theorem ce_askedOfY8 (l : Launch) (dC : Nat → ClassId) (dI : Nat → Nat → Nat) (cI cZ : ClassId) (f0 aZ aO : Nat) (ch : Int32) (Zs On : Nat → Int32) (u0 aK aX aY aN aV aM n R : Nat) (Kf Xf Yf Nf : Nat → Int32) (v x y : Nat) (d : Int32) (sz : Nat) (hv : v < 24) (hx9 : x < 24) (hy9 : y < 24) (ex : Xf v = nI x) (ey : Yf v = nI y) (ek : Kf v = nI 8) : Met l yE_askedOfY wsE_askedOfY { frames := 2, cells := 0, slots := 0, locals := 60 } (va_Pc [.ref u0, .ref f0, .int (nI (v)), .int (d)] (dw_pre (dC, dI) vwCl [(u0, .inr (1, [.ref aK, .ref aX, .ref aY, .ref aN, .ref aV, .ref aM, .int (nI (n)), .int (nI (R))])), (aK, .inl (cI, 24, .inl (Kf))), (aX, .inl (cI, 24, .inl (Xf))), (aY, .inl (cI, 24, .inl (Yf))), (aN, .inl (cI, 24, .inl (Nf))), (f0, .inr (2, [.ref aZ, .ref aO, .int (ch)])), (aZ, .inl (cI, 24, .inl (Zs))), (aO, .inl (cI, 24, .inl (On)))] [(cI, .int), (cZ, .boolean)] sz)) (va_Qi (fun (r : Int32) (u : Unit) => r = db_askY 8 (Zs x) (On x) (Zs y) (On y) d) (fun u t => dw_post (dC, dI) vwCl [(u0, .inr (1, [.ref aK, .ref aX, .ref aY, .ref aN, .ref aV, .ref aM, .int (nI (n)), .int (nI (R))])), (aK, .inl (cI, 24, .inl (Kf))), (aX, .inl (cI, 24, .inl (Xf))), (aY, .inl (cI, 24, .inl (Yf))), (aN, .inl (cI, 24, .inl (Nf))), (f0, .inr (2, [.ref aZ, .ref aO, .int (ch)])), (aZ, .inl (cI, 24, .inl (Zs))), (aO, .inl (cI, 24, .inl (On)))] [(cI, .int), (cZ, .boolean)] (va_A [(u0, .inr (1, [.ref aK, .ref aX, .ref aY, .ref aN, .ref aV, .ref aM, .int (nI (n)), .int (nI (R))])), (aK, .inl (cI, 24, .inl (Kf))), (aX, .inl (cI, 24, .inl (Xf))), (aY, .inl (cI, 24, .inl (Yf))), (aN, .inl (cI, 24, .inl (Nf))), (f0, .inr (2, [.ref aZ, .ref aO, .int (ch)])), (aZ, .inl (cI, 24, .inl (Zs))), (aO, .inl (cI, 24, .inl (On)))] sz) t) (va_A [(u0, .inr (1, [.ref aK, .ref aX, .ref aY, .ref aN, .ref aV, .ref aM, .int (nI (n)), .int (nI (R))])), (aK, .inl (cI, 24, .inl (Kf))), (aX, .inl (cI, 24, .inl (Xf))), (aY, .inl (cI, 24, .inl (Yf))), (aN, .inl (cI, 24, .inl (Nf))), (f0, .inr (2, [.ref aZ, .ref aO, .int (ch)])), (aZ, .inl (cI, 24, .inl (Zs))), (aO, .inl (cI, 24, .inl (On)))] sz)) 0 0 (va_A [(u0, .inr (1, [.ref aK, .ref aX, .ref aY, .ref aN, .ref aV, .ref aM, .int (nI (n)), .int (nI (R))])), (aK, .inl (cI, 24, .inl (Kf))), (aX, .inl (cI, 24, .inl (Xf))), (aY, .inl (cI, 24, .inl (Yf))), (aN, .inl (cI, 24, .inl (Nf))), (f0, .inr (2, [.ref aZ, .ref aO, .int (ch)])), (aZ, .inl (cI, 24, .inl (Zs))), (aO, .inl (cI, 24, .inl (On)))] sz) := by
  refine Met.ofW (cc := cE_askedOfY) (maxL := 6) (ret := (some .int)) (by decide) rfl ?_
  intro p e s m args below meth c s₁ B hml hv0
  have hx := B.exec
  have hb := B.bytes
  have hr := B.returns
  have hts := atoms_spec (ws := wsE_askedOfY) B.pre
  have hown : s.vm.findClass RE = some m.cls := findClass_of_methodNamed B.named
  have hlocks := B.notSynchronized
  obtain ⟨rfl, hsz, hG⟩ := dw_enter hv0
  generalize va_A [(u0, .inr (1, [.ref aK, .ref aX, .ref aY, .ref aN, .ref aV, .ref aM, .int (nI (n)), .int (nI (R))])), (aK, .inl (cI, 24, .inl (Kf))), (aX, .inl (cI, 24, .inl (Xf))), (aY, .inl (cI, 24, .inl (Yf))), (aN, .inl (cI, 24, .inl (Nf))), (f0, .inr (2, [.ref aZ, .ref aO, .int (ch)])), (aZ, .inl (cI, 24, .inl (Zs))), (aO, .inl (cI, 24, .inl (On)))] sz = A at hG ⊢
  have hl := lv_entry ([.ref u0, .ref f0, .int (nI (v)), .int (d)]) (n := 6) (Nat.le_of_ble_eq_true rfl)
  rw [lg_entry_eq]
  generalize (lg_sl ([.ref u0, .ref f0, .int (nI (v)), .int (d)]) ++ List.replicate (6 - (lg_sl ([.ref u0, .ref f0, .int (nI (v)), .int (d)])).length) Slot.unset).toArray = ls at hl ⊢
  have hl : lv_has ls 6 [(0, .ref u0), (1, .ref f0), (2, .int (nI (v))), (3, .int (d))] := hl
  have hw38 := hts _ (List.mem_cons_of_mem _ tw_38)
  have hw42 := hts _ (List.mem_cons_of_mem _ tw_42)
  have hw33 := hts _ (List.mem_cons_of_mem _ tw_33)
  refine dw_Q (fun Q hQ => ?_)
  suffices hgo : ∀ (H : Heap) (locs : List Loc), dw_G (dC, dI) vwCl [(cI, .int), (cZ, .boolean)] A s.heap s [(u0, .inr (1, [.ref aK, .ref aX, .ref aY, .ref aN, .ref aV, .ref aM, .int (nI (n)), .int (nI (R))])), (aK, .inl (cI, 24, .inl (Kf))), (aX, .inl (cI, 24, .inl (Xf))), (aY, .inl (cI, 24, .inl (Yf))), (aN, .inl (cI, 24, .inl (Nf))), (f0, .inr (2, [.ref aZ, .ref aO, .int (ch)])), (aZ, .inl (cI, 24, .inl (Zs))), (aO, .inl (cI, 24, .inl (On)))] H locs → W p l e (headSpec wsE_askedOfY { frames := 2, cells := 0, slots := 0, locals := 60 }).room s m [.ref u0, .ref f0, .int (nI (v)), .int (d)].toArray below meth c H locs 0 0 Q (F0 m 0 ls []) from hgo _ _ hG
  clear hG
  intro H locs hG
  refine lv_aload_n hx hb dE_askedOfY_0 rfl (lv_at hl 0 rfl) ?_
  refine dw_get hx hb hts inUc hown hG 0 1 rfl rfl (by decide) hw38 rfl rfl dE_askedOfY_1 ?_
  refine lv_iload_n hx hb dE_askedOfY_4 rfl (lv_at hl 2 rfl) ?_
  refine dw_ia (x := nI (x)) hx hb hG 2 0 rfl rfl (v) rfl (by omega) (by decide) ex dE_askedOfY_5 ?_
  refine lv_istore (lv' := [(4, .int (nI (x))), (0, .ref u0), (1, .ref f0), (2, .int (nI (v))), (3, .int (d))]) hx hb dE_askedOfY_6 hl (by decide) rfl (fun ls hl => ?_)
  refine lv_aload_n hx hb dE_askedOfY_8 rfl (lv_at hl 1 rfl) ?_
  refine dw_get hx hb hts inUc hown hG 0 2 rfl rfl (by decide) hw42 rfl rfl dE_askedOfY_9 ?_
  refine lv_iload_n hx hb dE_askedOfY_12 rfl (lv_at hl 3 rfl) ?_
  refine dw_ia (x := nI (y)) hx hb hG 3 0 rfl rfl (v) rfl (by omega) (by decide) ey dE_askedOfY_13 ?_
  refine lv_istore (lv' := [(5, .int (nI (y))), (4, .int (nI (x))), (0, .ref u0), (1, .ref f0), (2, .int (nI (v))), (3, .int (d))]) hx hb dE_askedOfY_14 hl (by decide) rfl (fun ls hl => ?_)
  refine lv_aload_n hx hb dE_askedOfY_16 rfl (lv_at hl 2 rfl) ?_
  refine dw_get hx hb hts inUc hown hG 0 0 rfl rfl (by decide) hw33 rfl rfl dE_askedOfY_17 ?_
  refine lv_iload_n hx hb dE_askedOfY_20 rfl (lv_at hl 4 rfl) ?_
  refine dw_ia (x := 8) hx hb hG 1 0 rfl rfl (v) rfl (by omega) (by decide) ek dE_askedOfY_21 ?_
  refine lv_tableIn (tgt := 143) hx hb dE_askedOfY_22 (by decide) (by decide) rfl (by decide) ?_
  refine lv_iconst (v := 0) hx hb dE_askedOfY_143 (by decide) ?_
  subst hQ
  exact dw_iret hx hb hr hG (()) rfl rfl dE_askedOfY_144 hlocks

set_option maxRecDepth 100000 in
set_option maxHeartbeats 4000000 in
theorem ce_askedOfY9 (l : Launch) (dC : Nat → ClassId) (dI : Nat → Nat → Nat) (cI cZ : ClassId) (f0 aZ aO : Nat) (ch : Int32) (Zs On : Nat → Int32) (u0 aK aX aY aN aV aM n R : Nat) (Kf Xf Yf Nf : Nat → Int32) (v x y : Nat) (d : Int32) (sz : Nat) (hv : v < 24) (hx9 : x < 24) (hy9 : y < 24) (ex : Xf v = nI x) (ey : Yf v = nI y) (ek : Kf v = nI 9) : Met l yE_askedOfY wsE_askedOfY { frames := 2, cells := 0, slots := 0, locals := 60 } (va_Pc [.ref u0, .ref f0, .int (nI (v)), .int (d)] (dw_pre (dC, dI) vwCl [(u0, .inr (1, [.ref aK, .ref aX, .ref aY, .ref aN, .ref aV, .ref aM, .int (nI (n)), .int (nI (R))])), (aK, .inl (cI, 24, .inl (Kf))), (aX, .inl (cI, 24, .inl (Xf))), (aY, .inl (cI, 24, .inl (Yf))), (aN, .inl (cI, 24, .inl (Nf))), (f0, .inr (2, [.ref aZ, .ref aO, .int (ch)])), (aZ, .inl (cI, 24, .inl (Zs))), (aO, .inl (cI, 24, .inl (On)))] [(cI, .int), (cZ, .boolean)] sz)) (va_Qi (fun (r : Int32) (u : Unit) => r = db_askY 9 (Zs x) (On x) (Zs y) (On y) d) (fun u t => dw_post (dC, dI) vwCl [(u0, .inr (1, [.ref aK, .ref aX, .ref aY, .ref aN, .ref aV, .ref aM, .int (nI (n)), .int (nI (R))])), (aK, .inl (cI, 24, .inl (Kf))), (aX, .inl (cI, 24, .inl (Xf))), (aY, .inl (cI, 24, .inl (Yf))), (aN, .inl (cI, 24, .inl (Nf))), (f0, .inr (2, [.ref aZ, .ref aO, .int (ch)])), (aZ, .inl (cI, 24, .inl (Zs))), (aO, .inl (cI, 24, .inl (On)))] [(cI, .int), (cZ, .boolean)] (va_A [(u0, .inr (1, [.ref aK, .ref aX, .ref aY, .ref aN, .ref aV, .ref aM, .int (nI (n)), .int (nI (R))])), (aK, .inl (cI, 24, .inl (Kf))), (aX, .inl (cI, 24, .inl (Xf))), (aY, .inl (cI, 24, .inl (Yf))), (aN, .inl (cI, 24, .inl (Nf))), (f0, .inr (2, [.ref aZ, .ref aO, .int (ch)])), (aZ, .inl (cI, 24, .inl (Zs))), (aO, .inl (cI, 24, .inl (On)))] sz) t) (va_A [(u0, .inr (1, [.ref aK, .ref aX, .ref aY, .ref aN, .ref aV, .ref aM, .int (nI (n)), .int (nI (R))])), (aK, .inl (cI, 24, .inl (Kf))), (aX, .inl (cI, 24, .inl (Xf))), (aY, .inl (cI, 24, .inl (Yf))), (aN, .inl (cI, 24, .inl (Nf))), (f0, .inr (2, [.ref aZ, .ref aO, .int (ch)])), (aZ, .inl (cI, 24, .inl (Zs))), (aO, .inl (cI, 24, .inl (On)))] sz)) 0 0 (va_A [(u0, .inr (1, [.ref aK, .ref aX, .ref aY, .ref aN, .ref aV, .ref aM, .int (nI (n)), .int (nI (R))])), (aK, .inl (cI, 24, .inl (Kf))), (aX, .inl (cI, 24, .inl (Xf))), (aY, .inl (cI, 24, .inl (Yf))), (aN, .inl (cI, 24, .inl (Nf))), (f0, .inr (2, [.ref aZ, .ref aO, .int (ch)])), (aZ, .inl (cI, 24, .inl (Zs))), (aO, .inl (cI, 24, .inl (On)))] sz) := by
  refine Met.ofW (cc := cE_askedOfY) (maxL := 6) (ret := (some .int)) (by decide) rfl ?_
  intro p e s m args below meth c s₁ B hml hv0
  have hx := B.exec
  have hb := B.bytes
  have hr := B.returns
  have hts := atoms_spec (ws := wsE_askedOfY) B.pre
  have hown : s.vm.findClass RE = some m.cls := findClass_of_methodNamed B.named
  have hlocks := B.notSynchronized
  obtain ⟨rfl, hsz, hG⟩ := dw_enter hv0
  generalize va_A [(u0, .inr (1, [.ref aK, .ref aX, .ref aY, .ref aN, .ref aV, .ref aM, .int (nI (n)), .int (nI (R))])), (aK, .inl (cI, 24, .inl (Kf))), (aX, .inl (cI, 24, .inl (Xf))), (aY, .inl (cI, 24, .inl (Yf))), (aN, .inl (cI, 24, .inl (Nf))), (f0, .inr (2, [.ref aZ, .ref aO, .int (ch)])), (aZ, .inl (cI, 24, .inl (Zs))), (aO, .inl (cI, 24, .inl (On)))] sz = A at hG ⊢
  have hl := lv_entry ([.ref u0, .ref f0, .int (nI (v)), .int (d)]) (n := 6) (Nat.le_of_ble_eq_true rfl)
  rw [lg_entry_eq]
  generalize (lg_sl ([.ref u0, .ref f0, .int (nI (v)), .int (d)]) ++ List.replicate (6 - (lg_sl ([.ref u0, .ref f0, .int (nI (v)), .int (d)])).length) Slot.unset).toArray = ls at hl ⊢
  have hl : lv_has ls 6 [(0, .ref u0), (1, .ref f0), (2, .int (nI (v))), (3, .int (d))] := hl
  have hw38 := hts _ (List.mem_cons_of_mem _ tw_38)
  have hw42 := hts _ (List.mem_cons_of_mem _ tw_42)
  have hw33 := hts _ (List.mem_cons_of_mem _ tw_33)
  refine dw_Q (fun Q hQ => ?_)
  suffices hgo : ∀ (H : Heap) (locs : List Loc), dw_G (dC, dI) vwCl [(cI, .int), (cZ, .boolean)] A s.heap s [(u0, .inr (1, [.ref aK, .ref aX, .ref aY, .ref aN, .ref aV, .ref aM, .int (nI (n)), .int (nI (R))])), (aK, .inl (cI, 24, .inl (Kf))), (aX, .inl (cI, 24, .inl (Xf))), (aY, .inl (cI, 24, .inl (Yf))), (aN, .inl (cI, 24, .inl (Nf))), (f0, .inr (2, [.ref aZ, .ref aO, .int (ch)])), (aZ, .inl (cI, 24, .inl (Zs))), (aO, .inl (cI, 24, .inl (On)))] H locs → W p l e (headSpec wsE_askedOfY { frames := 2, cells := 0, slots := 0, locals := 60 }).room s m [.ref u0, .ref f0, .int (nI (v)), .int (d)].toArray below meth c H locs 0 0 Q (F0 m 0 ls []) from hgo _ _ hG
  clear hG
  intro H locs hG
  refine lv_aload_n hx hb dE_askedOfY_0 rfl (lv_at hl 0 rfl) ?_
  refine dw_get hx hb hts inUc hown hG 0 1 rfl rfl (by decide) hw38 rfl rfl dE_askedOfY_1 ?_
  refine lv_iload_n hx hb dE_askedOfY_4 rfl (lv_at hl 2 rfl) ?_
  refine dw_ia (x := nI (x)) hx hb hG 2 0 rfl rfl (v) rfl (by omega) (by decide) ex dE_askedOfY_5 ?_
  refine lv_istore (lv' := [(4, .int (nI (x))), (0, .ref u0), (1, .ref f0), (2, .int (nI (v))), (3, .int (d))]) hx hb dE_askedOfY_6 hl (by decide) rfl (fun ls hl => ?_)
  refine lv_aload_n hx hb dE_askedOfY_8 rfl (lv_at hl 1 rfl) ?_
  refine dw_get hx hb hts inUc hown hG 0 2 rfl rfl (by decide) hw42 rfl rfl dE_askedOfY_9 ?_
  refine lv_iload_n hx hb dE_askedOfY_12 rfl (lv_at hl 3 rfl) ?_
  refine dw_ia (x := nI (y)) hx hb hG 3 0 rfl rfl (v) rfl (by omega) (by decide) ey dE_askedOfY_13 ?_
  refine lv_istore (lv' := [(5, .int (nI (y))), (4, .int (nI (x))), (0, .ref u0), (1, .ref f0), (2, .int (nI (v))), (3, .int (d))]) hx hb dE_askedOfY_14 hl (by decide) rfl (fun ls hl => ?_)
  refine lv_aload_n hx hb dE_askedOfY_16 rfl (lv_at hl 2 rfl) ?_
  refine dw_get hx hb hts inUc hown hG 0 0 rfl rfl (by decide) hw33 rfl rfl dE_askedOfY_17 ?_
  refine lv_iload_n hx hb dE_askedOfY_20 rfl (lv_at hl 4 rfl) ?_
  refine dw_ia (x := 9) hx hb hG 1 0 rfl rfl (v) rfl (by omega) (by decide) ek dE_askedOfY_21 ?_
  refine lv_tableIn (tgt := 143) hx hb dE_askedOfY_22 (by decide) (by decide) rfl (by decide) ?_
  refine lv_iconst (v := 0) hx hb dE_askedOfY_143 (by decide) ?_
  subst hQ
  exact dw_iret hx hb hr hG (()) rfl rfl dE_askedOfY_144 hlocks

set_option maxRecDepth 100000 in
set_option maxHeartbeats 4000000 in
theorem ce_askedOfY10 (l : Launch) (dC : Nat → ClassId) (dI : Nat → Nat → Nat) (cI cZ : ClassId) (f0 aZ aO : Nat) (ch : Int32) (Zs On : Nat → Int32) (u0 aK aX aY aN aV aM n R : Nat) (Kf Xf Yf Nf : Nat → Int32) (v x y : Nat) (d : Int32) (sz : Nat) (hv : v < 24) (hx9 : x < 24) (hy9 : y < 24) (ex : Xf v = nI x) (ey : Yf v = nI y) (ek : Kf v = nI 10) : Met l yE_askedOfY wsE_askedOfY { frames := 2, cells := 0, slots := 0, locals := 60 } (va_Pc [.ref u0, .ref f0, .int (nI (v)), .int (d)] (dw_pre (dC, dI) vwCl [(u0, .inr (1, [.ref aK, .ref aX, .ref aY, .ref aN, .ref aV, .ref aM, .int (nI (n)), .int (nI (R))])), (aK, .inl (cI, 24, .inl (Kf))), (aX, .inl (cI, 24, .inl (Xf))), (aY, .inl (cI, 24, .inl (Yf))), (aN, .inl (cI, 24, .inl (Nf))), (f0, .inr (2, [.ref aZ, .ref aO, .int (ch)])), (aZ, .inl (cI, 24, .inl (Zs))), (aO, .inl (cI, 24, .inl (On)))] [(cI, .int), (cZ, .boolean)] sz)) (va_Qi (fun (r : Int32) (u : Unit) => r = db_askY 10 (Zs x) (On x) (Zs y) (On y) d) (fun u t => dw_post (dC, dI) vwCl [(u0, .inr (1, [.ref aK, .ref aX, .ref aY, .ref aN, .ref aV, .ref aM, .int (nI (n)), .int (nI (R))])), (aK, .inl (cI, 24, .inl (Kf))), (aX, .inl (cI, 24, .inl (Xf))), (aY, .inl (cI, 24, .inl (Yf))), (aN, .inl (cI, 24, .inl (Nf))), (f0, .inr (2, [.ref aZ, .ref aO, .int (ch)])), (aZ, .inl (cI, 24, .inl (Zs))), (aO, .inl (cI, 24, .inl (On)))] [(cI, .int), (cZ, .boolean)] (va_A [(u0, .inr (1, [.ref aK, .ref aX, .ref aY, .ref aN, .ref aV, .ref aM, .int (nI (n)), .int (nI (R))])), (aK, .inl (cI, 24, .inl (Kf))), (aX, .inl (cI, 24, .inl (Xf))), (aY, .inl (cI, 24, .inl (Yf))), (aN, .inl (cI, 24, .inl (Nf))), (f0, .inr (2, [.ref aZ, .ref aO, .int (ch)])), (aZ, .inl (cI, 24, .inl (Zs))), (aO, .inl (cI, 24, .inl (On)))] sz) t) (va_A [(u0, .inr (1, [.ref aK, .ref aX, .ref aY, .ref aN, .ref aV, .ref aM, .int (nI (n)), .int (nI (R))])), (aK, .inl (cI, 24, .inl (Kf))), (aX, .inl (cI, 24, .inl (Xf))), (aY, .inl (cI, 24, .inl (Yf))), (aN, .inl (cI, 24, .inl (Nf))), (f0, .inr (2, [.ref aZ, .ref aO, .int (ch)])), (aZ, .inl (cI, 24, .inl (Zs))), (aO, .inl (cI, 24, .inl (On)))] sz)) 0 0 (va_A [(u0, .inr (1, [.ref aK, .ref aX, .ref aY, .ref aN, .ref aV, .ref aM, .int (nI (n)), .int (nI (R))])), (aK, .inl (cI, 24, .inl (Kf))), (aX, .inl (cI, 24, .inl (Xf))), (aY, .inl (cI, 24, .inl (Yf))), (aN, .inl (cI, 24, .inl (Nf))), (f0, .inr (2, [.ref aZ, .ref aO, .int (ch)])), (aZ, .inl (cI, 24, .inl (Zs))), (aO, .inl (cI, 24, .inl (On)))] sz) := by
  refine Met.ofW (cc := cE_askedOfY) (maxL := 6) (ret := (some .int)) (by decide) rfl ?_
  intro p e s m args below meth c s₁ B hml hv0
  have hx := B.exec
  have hb := B.bytes
  have hr := B.returns
  have hts := atoms_spec (ws := wsE_askedOfY) B.pre
  have hown : s.vm.findClass RE = some m.cls := findClass_of_methodNamed B.named
  have hlocks := B.notSynchronized
  obtain ⟨rfl, hsz, hG⟩ := dw_enter hv0
  generalize va_A [(u0, .inr (1, [.ref aK, .ref aX, .ref aY, .ref aN, .ref aV, .ref aM, .int (nI (n)), .int (nI (R))])), (aK, .inl (cI, 24, .inl (Kf))), (aX, .inl (cI, 24, .inl (Xf))), (aY, .inl (cI, 24, .inl (Yf))), (aN, .inl (cI, 24, .inl (Nf))), (f0, .inr (2, [.ref aZ, .ref aO, .int (ch)])), (aZ, .inl (cI, 24, .inl (Zs))), (aO, .inl (cI, 24, .inl (On)))] sz = A at hG ⊢
  have hl := lv_entry ([.ref u0, .ref f0, .int (nI (v)), .int (d)]) (n := 6) (Nat.le_of_ble_eq_true rfl)
  rw [lg_entry_eq]
  generalize (lg_sl ([.ref u0, .ref f0, .int (nI (v)), .int (d)]) ++ List.replicate (6 - (lg_sl ([.ref u0, .ref f0, .int (nI (v)), .int (d)])).length) Slot.unset).toArray = ls at hl ⊢
  have hl : lv_has ls 6 [(0, .ref u0), (1, .ref f0), (2, .int (nI (v))), (3, .int (d))] := hl
  have hw38 := hts _ (List.mem_cons_of_mem _ tw_38)
  have hw42 := hts _ (List.mem_cons_of_mem _ tw_42)
  have hw33 := hts _ (List.mem_cons_of_mem _ tw_33)
  refine dw_Q (fun Q hQ => ?_)
  suffices hgo : ∀ (H : Heap) (locs : List Loc), dw_G (dC, dI) vwCl [(cI, .int), (cZ, .boolean)] A s.heap s [(u0, .inr (1, [.ref aK, .ref aX, .ref aY, .ref aN, .ref aV, .ref aM, .int (nI (n)), .int (nI (R))])), (aK, .inl (cI, 24, .inl (Kf))), (aX, .inl (cI, 24, .inl (Xf))), (aY, .inl (cI, 24, .inl (Yf))), (aN, .inl (cI, 24, .inl (Nf))), (f0, .inr (2, [.ref aZ, .ref aO, .int (ch)])), (aZ, .inl (cI, 24, .inl (Zs))), (aO, .inl (cI, 24, .inl (On)))] H locs → W p l e (headSpec wsE_askedOfY { frames := 2, cells := 0, slots := 0, locals := 60 }).room s m [.ref u0, .ref f0, .int (nI (v)), .int (d)].toArray below meth c H locs 0 0 Q (F0 m 0 ls []) from hgo _ _ hG
  clear hG
  intro H locs hG
  refine lv_aload_n hx hb dE_askedOfY_0 rfl (lv_at hl 0 rfl) ?_
  refine dw_get hx hb hts inUc hown hG 0 1 rfl rfl (by decide) hw38 rfl rfl dE_askedOfY_1 ?_
  refine lv_iload_n hx hb dE_askedOfY_4 rfl (lv_at hl 2 rfl) ?_
  refine dw_ia (x := nI (x)) hx hb hG 2 0 rfl rfl (v) rfl (by omega) (by decide) ex dE_askedOfY_5 ?_
  refine lv_istore (lv' := [(4, .int (nI (x))), (0, .ref u0), (1, .ref f0), (2, .int (nI (v))), (3, .int (d))]) hx hb dE_askedOfY_6 hl (by decide) rfl (fun ls hl => ?_)
  refine lv_aload_n hx hb dE_askedOfY_8 rfl (lv_at hl 1 rfl) ?_
  refine dw_get hx hb hts inUc hown hG 0 2 rfl rfl (by decide) hw42 rfl rfl dE_askedOfY_9 ?_
  refine lv_iload_n hx hb dE_askedOfY_12 rfl (lv_at hl 3 rfl) ?_
  refine dw_ia (x := nI (y)) hx hb hG 3 0 rfl rfl (v) rfl (by omega) (by decide) ey dE_askedOfY_13 ?_
  refine lv_istore (lv' := [(5, .int (nI (y))), (4, .int (nI (x))), (0, .ref u0), (1, .ref f0), (2, .int (nI (v))), (3, .int (d))]) hx hb dE_askedOfY_14 hl (by decide) rfl (fun ls hl => ?_)
  refine lv_aload_n hx hb dE_askedOfY_16 rfl (lv_at hl 2 rfl) ?_
  refine dw_get hx hb hts inUc hown hG 0 0 rfl rfl (by decide) hw33 rfl rfl dE_askedOfY_17 ?_
  refine lv_iload_n hx hb dE_askedOfY_20 rfl (lv_at hl 4 rfl) ?_
  refine dw_ia (x := 10) hx hb hG 1 0 rfl rfl (v) rfl (by omega) (by decide) ek dE_askedOfY_21 ?_
  refine lv_tableIn (tgt := 143) hx hb dE_askedOfY_22 (by decide) (by decide) rfl (by decide) ?_
  refine lv_iconst (v := 0) hx hb dE_askedOfY_143 (by decide) ?_
  subst hQ
  exact dw_iret hx hb hr hG (()) rfl rfl dE_askedOfY_144 hlocks

set_option maxRecDepth 100000 in
set_option maxHeartbeats 4000000 in
theorem ce_askedOfY11 (l : Launch) (dC : Nat → ClassId) (dI : Nat → Nat → Nat) (cI cZ : ClassId) (f0 aZ aO : Nat) (ch : Int32) (Zs On : Nat → Int32) (u0 aK aX aY aN aV aM n R : Nat) (Kf Xf Yf Nf : Nat → Int32) (v x y : Nat) (d : Int32) (sz : Nat) (hv : v < 24) (hx9 : x < 24) (hy9 : y < 24) (ex : Xf v = nI x) (ey : Yf v = nI y) (ek : Kf v = nI 11) : Met l yE_askedOfY wsE_askedOfY { frames := 2, cells := 0, slots := 0, locals := 60 } (va_Pc [.ref u0, .ref f0, .int (nI (v)), .int (d)] (dw_pre (dC, dI) vwCl [(u0, .inr (1, [.ref aK, .ref aX, .ref aY, .ref aN, .ref aV, .ref aM, .int (nI (n)), .int (nI (R))])), (aK, .inl (cI, 24, .inl (Kf))), (aX, .inl (cI, 24, .inl (Xf))), (aY, .inl (cI, 24, .inl (Yf))), (aN, .inl (cI, 24, .inl (Nf))), (f0, .inr (2, [.ref aZ, .ref aO, .int (ch)])), (aZ, .inl (cI, 24, .inl (Zs))), (aO, .inl (cI, 24, .inl (On)))] [(cI, .int), (cZ, .boolean)] sz)) (va_Qi (fun (r : Int32) (u : Unit) => r = db_askY 11 (Zs x) (On x) (Zs y) (On y) d) (fun u t => dw_post (dC, dI) vwCl [(u0, .inr (1, [.ref aK, .ref aX, .ref aY, .ref aN, .ref aV, .ref aM, .int (nI (n)), .int (nI (R))])), (aK, .inl (cI, 24, .inl (Kf))), (aX, .inl (cI, 24, .inl (Xf))), (aY, .inl (cI, 24, .inl (Yf))), (aN, .inl (cI, 24, .inl (Nf))), (f0, .inr (2, [.ref aZ, .ref aO, .int (ch)])), (aZ, .inl (cI, 24, .inl (Zs))), (aO, .inl (cI, 24, .inl (On)))] [(cI, .int), (cZ, .boolean)] (va_A [(u0, .inr (1, [.ref aK, .ref aX, .ref aY, .ref aN, .ref aV, .ref aM, .int (nI (n)), .int (nI (R))])), (aK, .inl (cI, 24, .inl (Kf))), (aX, .inl (cI, 24, .inl (Xf))), (aY, .inl (cI, 24, .inl (Yf))), (aN, .inl (cI, 24, .inl (Nf))), (f0, .inr (2, [.ref aZ, .ref aO, .int (ch)])), (aZ, .inl (cI, 24, .inl (Zs))), (aO, .inl (cI, 24, .inl (On)))] sz) t) (va_A [(u0, .inr (1, [.ref aK, .ref aX, .ref aY, .ref aN, .ref aV, .ref aM, .int (nI (n)), .int (nI (R))])), (aK, .inl (cI, 24, .inl (Kf))), (aX, .inl (cI, 24, .inl (Xf))), (aY, .inl (cI, 24, .inl (Yf))), (aN, .inl (cI, 24, .inl (Nf))), (f0, .inr (2, [.ref aZ, .ref aO, .int (ch)])), (aZ, .inl (cI, 24, .inl (Zs))), (aO, .inl (cI, 24, .inl (On)))] sz)) 0 0 (va_A [(u0, .inr (1, [.ref aK, .ref aX, .ref aY, .ref aN, .ref aV, .ref aM, .int (nI (n)), .int (nI (R))])), (aK, .inl (cI, 24, .inl (Kf))), (aX, .inl (cI, 24, .inl (Xf))), (aY, .inl (cI, 24, .inl (Yf))), (aN, .inl (cI, 24, .inl (Nf))), (f0, .inr (2, [.ref aZ, .ref aO, .int (ch)])), (aZ, .inl (cI, 24, .inl (Zs))), (aO, .inl (cI, 24, .inl (On)))] sz) := by
  refine Met.ofW (cc := cE_askedOfY) (maxL := 6) (ret := (some .int)) (by decide) rfl ?_
  intro p e s m args below meth c s₁ B hml hv0
  have hx := B.exec
  have hb := B.bytes
  have hr := B.returns
  have hts := atoms_spec (ws := wsE_askedOfY) B.pre
  have hown : s.vm.findClass RE = some m.cls := findClass_of_methodNamed B.named
  have hlocks := B.notSynchronized
  obtain ⟨rfl, hsz, hG⟩ := dw_enter hv0
  generalize va_A [(u0, .inr (1, [.ref aK, .ref aX, .ref aY, .ref aN, .ref aV, .ref aM, .int (nI (n)), .int (nI (R))])), (aK, .inl (cI, 24, .inl (Kf))), (aX, .inl (cI, 24, .inl (Xf))), (aY, .inl (cI, 24, .inl (Yf))), (aN, .inl (cI, 24, .inl (Nf))), (f0, .inr (2, [.ref aZ, .ref aO, .int (ch)])), (aZ, .inl (cI, 24, .inl (Zs))), (aO, .inl (cI, 24, .inl (On)))] sz = A at hG ⊢
  have hl := lv_entry ([.ref u0, .ref f0, .int (nI (v)), .int (d)]) (n := 6) (Nat.le_of_ble_eq_true rfl)
  rw [lg_entry_eq]
  generalize (lg_sl ([.ref u0, .ref f0, .int (nI (v)), .int (d)]) ++ List.replicate (6 - (lg_sl ([.ref u0, .ref f0, .int (nI (v)), .int (d)])).length) Slot.unset).toArray = ls at hl ⊢
  have hl : lv_has ls 6 [(0, .ref u0), (1, .ref f0), (2, .int (nI (v))), (3, .int (d))] := hl
  have hw38 := hts _ (List.mem_cons_of_mem _ tw_38)
  have hw42 := hts _ (List.mem_cons_of_mem _ tw_42)
  have hw33 := hts _ (List.mem_cons_of_mem _ tw_33)
  refine dw_Q (fun Q hQ => ?_)
  suffices hgo : ∀ (H : Heap) (locs : List Loc), dw_G (dC, dI) vwCl [(cI, .int), (cZ, .boolean)] A s.heap s [(u0, .inr (1, [.ref aK, .ref aX, .ref aY, .ref aN, .ref aV, .ref aM, .int (nI (n)), .int (nI (R))])), (aK, .inl (cI, 24, .inl (Kf))), (aX, .inl (cI, 24, .inl (Xf))), (aY, .inl (cI, 24, .inl (Yf))), (aN, .inl (cI, 24, .inl (Nf))), (f0, .inr (2, [.ref aZ, .ref aO, .int (ch)])), (aZ, .inl (cI, 24, .inl (Zs))), (aO, .inl (cI, 24, .inl (On)))] H locs → W p l e (headSpec wsE_askedOfY { frames := 2, cells := 0, slots := 0, locals := 60 }).room s m [.ref u0, .ref f0, .int (nI (v)), .int (d)].toArray below meth c H locs 0 0 Q (F0 m 0 ls []) from hgo _ _ hG
  clear hG
  intro H locs hG
  refine lv_aload_n hx hb dE_askedOfY_0 rfl (lv_at hl 0 rfl) ?_
  refine dw_get hx hb hts inUc hown hG 0 1 rfl rfl (by decide) hw38 rfl rfl dE_askedOfY_1 ?_
  refine lv_iload_n hx hb dE_askedOfY_4 rfl (lv_at hl 2 rfl) ?_
  refine dw_ia (x := nI (x)) hx hb hG 2 0 rfl rfl (v) rfl (by omega) (by decide) ex dE_askedOfY_5 ?_
  refine lv_istore (lv' := [(4, .int (nI (x))), (0, .ref u0), (1, .ref f0), (2, .int (nI (v))), (3, .int (d))]) hx hb dE_askedOfY_6 hl (by decide) rfl (fun ls hl => ?_)
  refine lv_aload_n hx hb dE_askedOfY_8 rfl (lv_at hl 1 rfl) ?_
  refine dw_get hx hb hts inUc hown hG 0 2 rfl rfl (by decide) hw42 rfl rfl dE_askedOfY_9 ?_
  refine lv_iload_n hx hb dE_askedOfY_12 rfl (lv_at hl 3 rfl) ?_
  refine dw_ia (x := nI (y)) hx hb hG 3 0 rfl rfl (v) rfl (by omega) (by decide) ey dE_askedOfY_13 ?_
  refine lv_istore (lv' := [(5, .int (nI (y))), (4, .int (nI (x))), (0, .ref u0), (1, .ref f0), (2, .int (nI (v))), (3, .int (d))]) hx hb dE_askedOfY_14 hl (by decide) rfl (fun ls hl => ?_)
  refine lv_aload_n hx hb dE_askedOfY_16 rfl (lv_at hl 2 rfl) ?_
  refine dw_get hx hb hts inUc hown hG 0 0 rfl rfl (by decide) hw33 rfl rfl dE_askedOfY_17 ?_
  refine lv_iload_n hx hb dE_askedOfY_20 rfl (lv_at hl 4 rfl) ?_
  refine dw_ia (x := 11) hx hb hG 1 0 rfl rfl (v) rfl (by omega) (by decide) ek dE_askedOfY_21 ?_
  refine lv_tableIn (tgt := 143) hx hb dE_askedOfY_22 (by decide) (by decide) rfl (by decide) ?_
  refine lv_iconst (v := 0) hx hb dE_askedOfY_143 (by decide) ?_
  subst hQ
  exact dw_iret hx hb hr hG (()) rfl rfl dE_askedOfY_144 hlocks

set_option maxRecDepth 100000 in
set_option maxHeartbeats 4000000 in
theorem ce_askedOfY12 (l : Launch) (dC : Nat → ClassId) (dI : Nat → Nat → Nat) (cI cZ : ClassId) (f0 aZ aO : Nat) (ch : Int32) (Zs On : Nat → Int32) (u0 aK aX aY aN aV aM n R : Nat) (Kf Xf Yf Nf : Nat → Int32) (v x y : Nat) (d : Int32) (sz : Nat) (hv : v < 24) (hx9 : x < 24) (hy9 : y < 24) (ex : Xf v = nI x) (ey : Yf v = nI y) (ek : Kf v = nI 12) : Met l yE_askedOfY wsE_askedOfY { frames := 2, cells := 0, slots := 0, locals := 60 } (va_Pc [.ref u0, .ref f0, .int (nI (v)), .int (d)] (dw_pre (dC, dI) vwCl [(u0, .inr (1, [.ref aK, .ref aX, .ref aY, .ref aN, .ref aV, .ref aM, .int (nI (n)), .int (nI (R))])), (aK, .inl (cI, 24, .inl (Kf))), (aX, .inl (cI, 24, .inl (Xf))), (aY, .inl (cI, 24, .inl (Yf))), (aN, .inl (cI, 24, .inl (Nf))), (f0, .inr (2, [.ref aZ, .ref aO, .int (ch)])), (aZ, .inl (cI, 24, .inl (Zs))), (aO, .inl (cI, 24, .inl (On)))] [(cI, .int), (cZ, .boolean)] sz)) (va_Qi (fun (r : Int32) (u : Unit) => r = db_askY 12 (Zs x) (On x) (Zs y) (On y) d) (fun u t => dw_post (dC, dI) vwCl [(u0, .inr (1, [.ref aK, .ref aX, .ref aY, .ref aN, .ref aV, .ref aM, .int (nI (n)), .int (nI (R))])), (aK, .inl (cI, 24, .inl (Kf))), (aX, .inl (cI, 24, .inl (Xf))), (aY, .inl (cI, 24, .inl (Yf))), (aN, .inl (cI, 24, .inl (Nf))), (f0, .inr (2, [.ref aZ, .ref aO, .int (ch)])), (aZ, .inl (cI, 24, .inl (Zs))), (aO, .inl (cI, 24, .inl (On)))] [(cI, .int), (cZ, .boolean)] (va_A [(u0, .inr (1, [.ref aK, .ref aX, .ref aY, .ref aN, .ref aV, .ref aM, .int (nI (n)), .int (nI (R))])), (aK, .inl (cI, 24, .inl (Kf))), (aX, .inl (cI, 24, .inl (Xf))), (aY, .inl (cI, 24, .inl (Yf))), (aN, .inl (cI, 24, .inl (Nf))), (f0, .inr (2, [.ref aZ, .ref aO, .int (ch)])), (aZ, .inl (cI, 24, .inl (Zs))), (aO, .inl (cI, 24, .inl (On)))] sz) t) (va_A [(u0, .inr (1, [.ref aK, .ref aX, .ref aY, .ref aN, .ref aV, .ref aM, .int (nI (n)), .int (nI (R))])), (aK, .inl (cI, 24, .inl (Kf))), (aX, .inl (cI, 24, .inl (Xf))), (aY, .inl (cI, 24, .inl (Yf))), (aN, .inl (cI, 24, .inl (Nf))), (f0, .inr (2, [.ref aZ, .ref aO, .int (ch)])), (aZ, .inl (cI, 24, .inl (Zs))), (aO, .inl (cI, 24, .inl (On)))] sz)) 0 0 (va_A [(u0, .inr (1, [.ref aK, .ref aX, .ref aY, .ref aN, .ref aV, .ref aM, .int (nI (n)), .int (nI (R))])), (aK, .inl (cI, 24, .inl (Kf))), (aX, .inl (cI, 24, .inl (Xf))), (aY, .inl (cI, 24, .inl (Yf))), (aN, .inl (cI, 24, .inl (Nf))), (f0, .inr (2, [.ref aZ, .ref aO, .int (ch)])), (aZ, .inl (cI, 24, .inl (Zs))), (aO, .inl (cI, 24, .inl (On)))] sz) := by
  refine Met.ofW (cc := cE_askedOfY) (maxL := 6) (ret := (some .int)) (by decide) rfl ?_
  intro p e s m args below meth c s₁ B hml hv0
  have hx := B.exec
  have hb := B.bytes
  have hr := B.returns
  have hts := atoms_spec (ws := wsE_askedOfY) B.pre
  have hown : s.vm.findClass RE = some m.cls := findClass_of_methodNamed B.named
  have hlocks := B.notSynchronized
  obtain ⟨rfl, hsz, hG⟩ := dw_enter hv0
  generalize va_A [(u0, .inr (1, [.ref aK, .ref aX, .ref aY, .ref aN, .ref aV, .ref aM, .int (nI (n)), .int (nI (R))])), (aK, .inl (cI, 24, .inl (Kf))), (aX, .inl (cI, 24, .inl (Xf))), (aY, .inl (cI, 24, .inl (Yf))), (aN, .inl (cI, 24, .inl (Nf))), (f0, .inr (2, [.ref aZ, .ref aO, .int (ch)])), (aZ, .inl (cI, 24, .inl (Zs))), (aO, .inl (cI, 24, .inl (On)))] sz = A at hG ⊢
  have hl := lv_entry ([.ref u0, .ref f0, .int (nI (v)), .int (d)]) (n := 6) (Nat.le_of_ble_eq_true rfl)
  rw [lg_entry_eq]
  generalize (lg_sl ([.ref u0, .ref f0, .int (nI (v)), .int (d)]) ++ List.replicate (6 - (lg_sl ([.ref u0, .ref f0, .int (nI (v)), .int (d)])).length) Slot.unset).toArray = ls at hl ⊢
  have hl : lv_has ls 6 [(0, .ref u0), (1, .ref f0), (2, .int (nI (v))), (3, .int (d))] := hl
  have hw38 := hts _ (List.mem_cons_of_mem _ tw_38)
  have hw42 := hts _ (List.mem_cons_of_mem _ tw_42)
  have hw33 := hts _ (List.mem_cons_of_mem _ tw_33)
  refine dw_Q (fun Q hQ => ?_)
  suffices hgo : ∀ (H : Heap) (locs : List Loc), dw_G (dC, dI) vwCl [(cI, .int), (cZ, .boolean)] A s.heap s [(u0, .inr (1, [.ref aK, .ref aX, .ref aY, .ref aN, .ref aV, .ref aM, .int (nI (n)), .int (nI (R))])), (aK, .inl (cI, 24, .inl (Kf))), (aX, .inl (cI, 24, .inl (Xf))), (aY, .inl (cI, 24, .inl (Yf))), (aN, .inl (cI, 24, .inl (Nf))), (f0, .inr (2, [.ref aZ, .ref aO, .int (ch)])), (aZ, .inl (cI, 24, .inl (Zs))), (aO, .inl (cI, 24, .inl (On)))] H locs → W p l e (headSpec wsE_askedOfY { frames := 2, cells := 0, slots := 0, locals := 60 }).room s m [.ref u0, .ref f0, .int (nI (v)), .int (d)].toArray below meth c H locs 0 0 Q (F0 m 0 ls []) from hgo _ _ hG
  clear hG
  intro H locs hG
  refine lv_aload_n hx hb dE_askedOfY_0 rfl (lv_at hl 0 rfl) ?_
  refine dw_get hx hb hts inUc hown hG 0 1 rfl rfl (by decide) hw38 rfl rfl dE_askedOfY_1 ?_
  refine lv_iload_n hx hb dE_askedOfY_4 rfl (lv_at hl 2 rfl) ?_
  refine dw_ia (x := nI (x)) hx hb hG 2 0 rfl rfl (v) rfl (by omega) (by decide) ex dE_askedOfY_5 ?_
  refine lv_istore (lv' := [(4, .int (nI (x))), (0, .ref u0), (1, .ref f0), (2, .int (nI (v))), (3, .int (d))]) hx hb dE_askedOfY_6 hl (by decide) rfl (fun ls hl => ?_)
  refine lv_aload_n hx hb dE_askedOfY_8 rfl (lv_at hl 1 rfl) ?_
  refine dw_get hx hb hts inUc hown hG 0 2 rfl rfl (by decide) hw42 rfl rfl dE_askedOfY_9 ?_
  refine lv_iload_n hx hb dE_askedOfY_12 rfl (lv_at hl 3 rfl) ?_
  refine dw_ia (x := nI (y)) hx hb hG 3 0 rfl rfl (v) rfl (by omega) (by decide) ey dE_askedOfY_13 ?_
  refine lv_istore (lv' := [(5, .int (nI (y))), (4, .int (nI (x))), (0, .ref u0), (1, .ref f0), (2, .int (nI (v))), (3, .int (d))]) hx hb dE_askedOfY_14 hl (by decide) rfl (fun ls hl => ?_)
  refine lv_aload_n hx hb dE_askedOfY_16 rfl (lv_at hl 2 rfl) ?_
  refine dw_get hx hb hts inUc hown hG 0 0 rfl rfl (by decide) hw33 rfl rfl dE_askedOfY_17 ?_
  refine lv_iload_n hx hb dE_askedOfY_20 rfl (lv_at hl 4 rfl) ?_
  refine dw_ia (x := 12) hx hb hG 1 0 rfl rfl (v) rfl (by omega) (by decide) ek dE_askedOfY_21 ?_
  refine lv_tableIn (tgt := 143) hx hb dE_askedOfY_22 (by decide) (by decide) rfl (by decide) ?_
  refine lv_iconst (v := 0) hx hb dE_askedOfY_143 (by decide) ?_
  subst hQ
  exact dw_iret hx hb hr hG (()) rfl rfl dE_askedOfY_144 hlocks

set_option maxRecDepth 100000 in
set_option maxHeartbeats 4000000 in
theorem ce_askedOfY13 (l : Launch) (dC : Nat → ClassId) (dI : Nat → Nat → Nat) (cI cZ : ClassId) (f0 aZ aO : Nat) (ch : Int32) (Zs On : Nat → Int32) (u0 aK aX aY aN aV aM n R : Nat) (Kf Xf Yf Nf : Nat → Int32) (v x y : Nat) (d : Int32) (sz : Nat) (hv : v < 24) (hx9 : x < 24) (hy9 : y < 24) (ex : Xf v = nI x) (ey : Yf v = nI y) (ek : Kf v = nI 13) : Met l yE_askedOfY wsE_askedOfY { frames := 2, cells := 0, slots := 0, locals := 60 } (va_Pc [.ref u0, .ref f0, .int (nI (v)), .int (d)] (dw_pre (dC, dI) vwCl [(u0, .inr (1, [.ref aK, .ref aX, .ref aY, .ref aN, .ref aV, .ref aM, .int (nI (n)), .int (nI (R))])), (aK, .inl (cI, 24, .inl (Kf))), (aX, .inl (cI, 24, .inl (Xf))), (aY, .inl (cI, 24, .inl (Yf))), (aN, .inl (cI, 24, .inl (Nf))), (f0, .inr (2, [.ref aZ, .ref aO, .int (ch)])), (aZ, .inl (cI, 24, .inl (Zs))), (aO, .inl (cI, 24, .inl (On)))] [(cI, .int), (cZ, .boolean)] sz)) (va_Qi (fun (r : Int32) (u : Unit) => r = db_askY 13 (Zs x) (On x) (Zs y) (On y) d) (fun u t => dw_post (dC, dI) vwCl [(u0, .inr (1, [.ref aK, .ref aX, .ref aY, .ref aN, .ref aV, .ref aM, .int (nI (n)), .int (nI (R))])), (aK, .inl (cI, 24, .inl (Kf))), (aX, .inl (cI, 24, .inl (Xf))), (aY, .inl (cI, 24, .inl (Yf))), (aN, .inl (cI, 24, .inl (Nf))), (f0, .inr (2, [.ref aZ, .ref aO, .int (ch)])), (aZ, .inl (cI, 24, .inl (Zs))), (aO, .inl (cI, 24, .inl (On)))] [(cI, .int), (cZ, .boolean)] (va_A [(u0, .inr (1, [.ref aK, .ref aX, .ref aY, .ref aN, .ref aV, .ref aM, .int (nI (n)), .int (nI (R))])), (aK, .inl (cI, 24, .inl (Kf))), (aX, .inl (cI, 24, .inl (Xf))), (aY, .inl (cI, 24, .inl (Yf))), (aN, .inl (cI, 24, .inl (Nf))), (f0, .inr (2, [.ref aZ, .ref aO, .int (ch)])), (aZ, .inl (cI, 24, .inl (Zs))), (aO, .inl (cI, 24, .inl (On)))] sz) t) (va_A [(u0, .inr (1, [.ref aK, .ref aX, .ref aY, .ref aN, .ref aV, .ref aM, .int (nI (n)), .int (nI (R))])), (aK, .inl (cI, 24, .inl (Kf))), (aX, .inl (cI, 24, .inl (Xf))), (aY, .inl (cI, 24, .inl (Yf))), (aN, .inl (cI, 24, .inl (Nf))), (f0, .inr (2, [.ref aZ, .ref aO, .int (ch)])), (aZ, .inl (cI, 24, .inl (Zs))), (aO, .inl (cI, 24, .inl (On)))] sz)) 0 0 (va_A [(u0, .inr (1, [.ref aK, .ref aX, .ref aY, .ref aN, .ref aV, .ref aM, .int (nI (n)), .int (nI (R))])), (aK, .inl (cI, 24, .inl (Kf))), (aX, .inl (cI, 24, .inl (Xf))), (aY, .inl (cI, 24, .inl (Yf))), (aN, .inl (cI, 24, .inl (Nf))), (f0, .inr (2, [.ref aZ, .ref aO, .int (ch)])), (aZ, .inl (cI, 24, .inl (Zs))), (aO, .inl (cI, 24, .inl (On)))] sz) := by
  refine Met.ofW (cc := cE_askedOfY) (maxL := 6) (ret := (some .int)) (by decide) rfl ?_
  intro p e s m args below meth c s₁ B hml hv0
  have hx := B.exec
  have hb := B.bytes
  have hr := B.returns
  have hts := atoms_spec (ws := wsE_askedOfY) B.pre
  have hown : s.vm.findClass RE = some m.cls := findClass_of_methodNamed B.named
  have hlocks := B.notSynchronized
  obtain ⟨rfl, hsz, hG⟩ := dw_enter hv0
  generalize va_A [(u0, .inr (1, [.ref aK, .ref aX, .ref aY, .ref aN, .ref aV, .ref aM, .int (nI (n)), .int (nI (R))])), (aK, .inl (cI, 24, .inl (Kf))), (aX, .inl (cI, 24, .inl (Xf))), (aY, .inl (cI, 24, .inl (Yf))), (aN, .inl (cI, 24, .inl (Nf))), (f0, .inr (2, [.ref aZ, .ref aO, .int (ch)])), (aZ, .inl (cI, 24, .inl (Zs))), (aO, .inl (cI, 24, .inl (On)))] sz = A at hG ⊢
  have hl := lv_entry ([.ref u0, .ref f0, .int (nI (v)), .int (d)]) (n := 6) (Nat.le_of_ble_eq_true rfl)
  rw [lg_entry_eq]
  generalize (lg_sl ([.ref u0, .ref f0, .int (nI (v)), .int (d)]) ++ List.replicate (6 - (lg_sl ([.ref u0, .ref f0, .int (nI (v)), .int (d)])).length) Slot.unset).toArray = ls at hl ⊢
  have hl : lv_has ls 6 [(0, .ref u0), (1, .ref f0), (2, .int (nI (v))), (3, .int (d))] := hl
  have hw38 := hts _ (List.mem_cons_of_mem _ tw_38)
  have hw42 := hts _ (List.mem_cons_of_mem _ tw_42)
  have hw33 := hts _ (List.mem_cons_of_mem _ tw_33)
  refine dw_Q (fun Q hQ => ?_)
  suffices hgo : ∀ (H : Heap) (locs : List Loc), dw_G (dC, dI) vwCl [(cI, .int), (cZ, .boolean)] A s.heap s [(u0, .inr (1, [.ref aK, .ref aX, .ref aY, .ref aN, .ref aV, .ref aM, .int (nI (n)), .int (nI (R))])), (aK, .inl (cI, 24, .inl (Kf))), (aX, .inl (cI, 24, .inl (Xf))), (aY, .inl (cI, 24, .inl (Yf))), (aN, .inl (cI, 24, .inl (Nf))), (f0, .inr (2, [.ref aZ, .ref aO, .int (ch)])), (aZ, .inl (cI, 24, .inl (Zs))), (aO, .inl (cI, 24, .inl (On)))] H locs → W p l e (headSpec wsE_askedOfY { frames := 2, cells := 0, slots := 0, locals := 60 }).room s m [.ref u0, .ref f0, .int (nI (v)), .int (d)].toArray below meth c H locs 0 0 Q (F0 m 0 ls []) from hgo _ _ hG
  clear hG
  intro H locs hG
  refine lv_aload_n hx hb dE_askedOfY_0 rfl (lv_at hl 0 rfl) ?_
  refine dw_get hx hb hts inUc hown hG 0 1 rfl rfl (by decide) hw38 rfl rfl dE_askedOfY_1 ?_
  refine lv_iload_n hx hb dE_askedOfY_4 rfl (lv_at hl 2 rfl) ?_
  refine dw_ia (x := nI (x)) hx hb hG 2 0 rfl rfl (v) rfl (by omega) (by decide) ex dE_askedOfY_5 ?_
  refine lv_istore (lv' := [(4, .int (nI (x))), (0, .ref u0), (1, .ref f0), (2, .int (nI (v))), (3, .int (d))]) hx hb dE_askedOfY_6 hl (by decide) rfl (fun ls hl => ?_)
  refine lv_aload_n hx hb dE_askedOfY_8 rfl (lv_at hl 1 rfl) ?_
  refine dw_get hx hb hts inUc hown hG 0 2 rfl rfl (by decide) hw42 rfl rfl dE_askedOfY_9 ?_
  refine lv_iload_n hx hb dE_askedOfY_12 rfl (lv_at hl 3 rfl) ?_
  refine dw_ia (x := nI (y)) hx hb hG 3 0 rfl rfl (v) rfl (by omega) (by decide) ey dE_askedOfY_13 ?_
  refine lv_istore (lv' := [(5, .int (nI (y))), (4, .int (nI (x))), (0, .ref u0), (1, .ref f0), (2, .int (nI (v))), (3, .int (d))]) hx hb dE_askedOfY_14 hl (by decide) rfl (fun ls hl => ?_)
  refine lv_aload_n hx hb dE_askedOfY_16 rfl (lv_at hl 2 rfl) ?_
  refine dw_get hx hb hts inUc hown hG 0 0 rfl rfl (by decide) hw33 rfl rfl dE_askedOfY_17 ?_
  refine lv_iload_n hx hb dE_askedOfY_20 rfl (lv_at hl 4 rfl) ?_
  refine dw_ia (x := 13) hx hb hG 1 0 rfl rfl (v) rfl (by omega) (by decide) ek dE_askedOfY_21 ?_
  refine lv_tableIn (tgt := 141) hx hb dE_askedOfY_22 (by decide) (by decide) rfl (by decide) ?_
  refine lv_iload_n hx hb dE_askedOfY_141 rfl (lv_at hl 5 rfl) ?_
  subst hQ
  exact dw_iret hx hb hr hG (()) rfl rfl dE_askedOfY_142 hlocks

set_option maxRecDepth 100000 in
theorem ce_askedOfY (l : Launch) (dC : Nat → ClassId) (dI : Nat → Nat → Nat) (cI cZ : ClassId) (f0 aZ aO : Nat) (ch : Int32) (Zs On : Nat → Int32) (u0 aK aX aY aN aV aM n R : Nat) (Kf Xf Yf Nf : Nat → Int32) (v x y : Nat) (d : Int32) (kd : Nat) (sz : Nat) (hv : v < 24) (hx9 : x < 24) (hy9 : y < 24) (ex : Xf v = nI x) (ey : Yf v = nI y) (hkd : kd ≤ 13) (ek : Kf v = nI kd) : Met l yE_askedOfY wsE_askedOfY { frames := 2, cells := 0, slots := 0, locals := 60 } (va_Pc [.ref u0, .ref f0, .int (nI (v)), .int (d)] (dw_pre (dC, dI) vwCl [(u0, .inr (1, [.ref aK, .ref aX, .ref aY, .ref aN, .ref aV, .ref aM, .int (nI (n)), .int (nI (R))])), (aK, .inl (cI, 24, .inl (Kf))), (aX, .inl (cI, 24, .inl (Xf))), (aY, .inl (cI, 24, .inl (Yf))), (aN, .inl (cI, 24, .inl (Nf))), (f0, .inr (2, [.ref aZ, .ref aO, .int (ch)])), (aZ, .inl (cI, 24, .inl (Zs))), (aO, .inl (cI, 24, .inl (On)))] [(cI, .int), (cZ, .boolean)] sz)) (va_Qi (fun (r : Int32) (u : Unit) => r = db_askY kd (Zs x) (On x) (Zs y) (On y) d) (fun u t => dw_post (dC, dI) vwCl [(u0, .inr (1, [.ref aK, .ref aX, .ref aY, .ref aN, .ref aV, .ref aM, .int (nI (n)), .int (nI (R))])), (aK, .inl (cI, 24, .inl (Kf))), (aX, .inl (cI, 24, .inl (Xf))), (aY, .inl (cI, 24, .inl (Yf))), (aN, .inl (cI, 24, .inl (Nf))), (f0, .inr (2, [.ref aZ, .ref aO, .int (ch)])), (aZ, .inl (cI, 24, .inl (Zs))), (aO, .inl (cI, 24, .inl (On)))] [(cI, .int), (cZ, .boolean)] (va_A [(u0, .inr (1, [.ref aK, .ref aX, .ref aY, .ref aN, .ref aV, .ref aM, .int (nI (n)), .int (nI (R))])), (aK, .inl (cI, 24, .inl (Kf))), (aX, .inl (cI, 24, .inl (Xf))), (aY, .inl (cI, 24, .inl (Yf))), (aN, .inl (cI, 24, .inl (Nf))), (f0, .inr (2, [.ref aZ, .ref aO, .int (ch)])), (aZ, .inl (cI, 24, .inl (Zs))), (aO, .inl (cI, 24, .inl (On)))] sz) t) (va_A [(u0, .inr (1, [.ref aK, .ref aX, .ref aY, .ref aN, .ref aV, .ref aM, .int (nI (n)), .int (nI (R))])), (aK, .inl (cI, 24, .inl (Kf))), (aX, .inl (cI, 24, .inl (Xf))), (aY, .inl (cI, 24, .inl (Yf))), (aN, .inl (cI, 24, .inl (Nf))), (f0, .inr (2, [.ref aZ, .ref aO, .int (ch)])), (aZ, .inl (cI, 24, .inl (Zs))), (aO, .inl (cI, 24, .inl (On)))] sz)) 0 0 (va_A [(u0, .inr (1, [.ref aK, .ref aX, .ref aY, .ref aN, .ref aV, .ref aM, .int (nI (n)), .int (nI (R))])), (aK, .inl (cI, 24, .inl (Kf))), (aX, .inl (cI, 24, .inl (Xf))), (aY, .inl (cI, 24, .inl (Yf))), (aN, .inl (cI, 24, .inl (Nf))), (f0, .inr (2, [.ref aZ, .ref aO, .int (ch)])), (aZ, .inl (cI, 24, .inl (Zs))), (aO, .inl (cI, 24, .inl (On)))] sz) := by
  rcases (by omega : kd = 0 ∨ kd = 1 ∨ kd = 2 ∨ kd = 3 ∨ kd = 4 ∨ kd = 5 ∨ kd = 6 ∨ kd = 7 ∨ kd = 8 ∨ kd = 9 ∨ kd = 10 ∨ kd = 11 ∨ kd = 12 ∨ kd = 13) with e | e | e | e | e | e | e | e | e | e | e | e | e | e
  · subst e
    exact ce_askedOfY0 l dC dI cI cZ f0 aZ aO ch Zs On u0 aK aX aY aN aV aM n R Kf Xf Yf Nf v x y d sz hv hx9 hy9 ex ey ek
  · subst e
    exact ce_askedOfY1 l dC dI cI cZ f0 aZ aO ch Zs On u0 aK aX aY aN aV aM n R Kf Xf Yf Nf v x y d sz hv hx9 hy9 ex ey ek
  · subst e
    exact ce_askedOfY2 l dC dI cI cZ f0 aZ aO ch Zs On u0 aK aX aY aN aV aM n R Kf Xf Yf Nf v x y d sz hv hx9 hy9 ex ey ek
  · subst e
    exact ce_askedOfY3 l dC dI cI cZ f0 aZ aO ch Zs On u0 aK aX aY aN aV aM n R Kf Xf Yf Nf v x y d sz hv hx9 hy9 ex ey ek
  · subst e
    exact ce_askedOfY4 l dC dI cI cZ f0 aZ aO ch Zs On u0 aK aX aY aN aV aM n R Kf Xf Yf Nf v x y d sz hv hx9 hy9 ex ey ek
  · subst e
    exact ce_askedOfY5 l dC dI cI cZ f0 aZ aO ch Zs On u0 aK aX aY aN aV aM n R Kf Xf Yf Nf v x y d sz hv hx9 hy9 ex ey ek
  · subst e
    exact ce_askedOfY6 l dC dI cI cZ f0 aZ aO ch Zs On u0 aK aX aY aN aV aM n R Kf Xf Yf Nf v x y d sz hv hx9 hy9 ex ey ek
  · subst e
    exact ce_askedOfY7 l dC dI cI cZ f0 aZ aO ch Zs On u0 aK aX aY aN aV aM n R Kf Xf Yf Nf v x y d sz hv hx9 hy9 ex ey ek
  · subst e
    exact ce_askedOfY8 l dC dI cI cZ f0 aZ aO ch Zs On u0 aK aX aY aN aV aM n R Kf Xf Yf Nf v x y d sz hv hx9 hy9 ex ey ek
  · subst e
    exact ce_askedOfY9 l dC dI cI cZ f0 aZ aO ch Zs On u0 aK aX aY aN aV aM n R Kf Xf Yf Nf v x y d sz hv hx9 hy9 ex ey ek
  · subst e
    exact ce_askedOfY10 l dC dI cI cZ f0 aZ aO ch Zs On u0 aK aX aY aN aV aM n R Kf Xf Yf Nf v x y d sz hv hx9 hy9 ex ey ek
  · subst e
    exact ce_askedOfY11 l dC dI cI cZ f0 aZ aO ch Zs On u0 aK aX aY aN aV aM n R Kf Xf Yf Nf v x y d sz hv hx9 hy9 ex ey ek
  · subst e
    exact ce_askedOfY12 l dC dI cI cZ f0 aZ aO ch Zs On u0 aK aX aY aN aV aM n R Kf Xf Yf Nf v x y d sz hv hx9 hy9 ex ey ek
  · subst e
    exact ce_askedOfY13 l dC dI cI cZ f0 aZ aO ch Zs On u0 aK aX aY aN aV aM n R Kf Xf Yf Nf v x y d sz hv hx9 hy9 ex ey ek

