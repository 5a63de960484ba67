set_option maxRecDepth 100000 in
set_option maxHeartbeats 4000000 in
theorem rf_word (l : Launch) (dC : Nat → ClassId) (dI : Nat → Nat → Nat) (cI cZ : ClassId) (m0 aS v : Nat) (Se : Nat → Int32) (d : Int32) (sz : Nat) (hv : v < 24) (hd : db_set Se v d) : Met l yM_word wsM_word { frames := 0, cells := 0, slots := 0, locals := 0 } (va_Pc [.ref m0, .ref aS, .int (nI (v))] (dw_pre (dC, dI) vwCl [(aS, .inl (cZ, 768, .inl (Se)))] [(cI, .int), (cZ, .boolean)] sz)) (va_Qi (fun (r : Int32) (u : Unit) => r = d) (fun u t => dw_post (dC, dI) vwCl [(aS, .inl (cZ, 768, .inl (Se)))] [(cI, .int), (cZ, .boolean)] (va_A [(aS, .inl (cZ, 768, .inl (Se)))] sz) t) (va_A [(aS, .inl (cZ, 768, .inl (Se)))] sz)) 0 0 (va_A [(aS, .inl (cZ, 768, .inl (Se)))] sz) := by
  refine Met.ofW (cc := cM_word) (maxL := 5) (ret := (some .int)) (by decide) rfl ?_
  intro p e s m args below meth c s₁ B hml hv0
  have hx := B.exec
  have hb := B.bytes
  have hr := B.returns
  have hts := atoms_spec (ws := wsM_word) B.pre
  have hown : s.vm.findClass RM = some m.cls := findClass_of_methodNamed B.named
  have hlocks := B.notSynchronized
  obtain ⟨rfl, hsz, hG⟩ := dw_enter hv0
  generalize va_A [(aS, .inl (cZ, 768, .inl (Se)))] sz = A at hG ⊢
  have hl := lv_entry ([.ref m0, .ref aS, .int (nI (v))]) (n := 5) (Nat.le_of_ble_eq_true rfl)
  rw [lg_entry_eq]
  generalize (lg_sl ([.ref m0, .ref aS, .int (nI (v))]) ++ List.replicate (5 - (lg_sl ([.ref m0, .ref aS, .int (nI (v))])).length) Slot.unset).toArray = ls at hl ⊢
  have hl : lv_has ls 5 [(0, .ref m0), (1, .ref aS), (2, .int (nI (v)))] := hl
  refine dw_Q (fun Q hQ => ?_)
  suffices hgo : ∀ (H : Heap) (locs : List Loc), dw_G (dC, dI) vwCl [(cI, .int), (cZ, .boolean)] A s.heap s [(aS, .inl (cZ, 768, .inl (Se)))] H locs → W p l e (headSpec wsM_word { frames := 0, cells := 0, slots := 0, locals := 0 }).room s m [.ref m0, .ref aS, .int (nI (v))].toArray below meth c H locs 0 0 Q (F0 m 0 ls []) from hgo _ _ hG
  clear hG
  intro H locs hG
  refine lv_iconst (v := 0) hx hb dM_word_0 (by decide) ?_
  refine lv_istore_n (lv' := [(3, .int (0)), (0, .ref m0), (1, .ref aS), (2, .int (nI (v)))]) hx hb dM_word_1 rfl hl (by decide) rfl (fun ls hl => ?_)
  refine lv_iconst (v := 0) hx hb dM_word_2 (by decide) ?_
  refine lv_istore (lv' := [(4, .int (0)), (3, .int (0)), (0, .ref m0), (1, .ref aS), (2, .int (nI (v)))]) hx hb dM_word_3 hl (by decide) rfl (fun ls hl => ?_)
  have L5 : ∀ (zz : Nat) (k : Nat) (w : Int32) (ls : Array Slot) (H : Heap) (locs : List Loc), 32 - k < zz → k ≤ 32 → db_lay w (fun b => bt d b = true) k → lv_has ls 5 [(0, .ref m0), (1, .ref aS), (2, .int (nI (v))), (3, .int (w)), (4, .int (nI (k)))] → dw_G (dC, dI) vwCl [(cI, .int), (cZ, .boolean)] A s.heap s [(aS, .inl (cZ, 768, .inl (Se)))] H locs → W p l e (headSpec wsM_word { frames := 0, cells := 0, slots := 0, locals := 0 }).room s m [.ref m0, .ref aS, .int (nI (v))].toArray below meth c H locs 0 0 Q (F0 m 5 ls []) := by
    intro zz
    induction zz with
    | zero => intro k w ls H locs hz; exact absurd hz (Nat.not_lt_zero _)
    | succ zz L5_ih =>
      intro k w ls H locs hz hk hw hl hG
      refine lv_iload hx hb dM_word_5 (lv_at hl 4 rfl) ?_
      refine lv_bipush (v := 32) hx hb dM_word_7 (by decide) ?_
      refine lv_icmp_ge (tgt := 41) hx hb dM_word_9 (by decide) (fun h9 => ?_) (fun h9 => ?_)
      · skip
        replace h9 := (nI_leI (a := 32) (b := k) (by omega) (by omega)).mp h9
        refine lv_iload_n hx hb dM_word_41 rfl (lv_at hl 3 rfl) ?_
        subst hQ
        exact dw_iret hx hb hr hG (()) rfl (db_lay_end (by rw [show k = 32 by omega] at hw; exact hw) (fun b hb => Iff.rfl)) dM_word_42 hlocks
      replace h9 : ¬ 32 ≤ k := fun q => h9 ((nI_leI (a := 32) (b := k) (by omega) (by omega)).mpr q)
      refine lv_aload_n hx hb dM_word_12 rfl (lv_at hl 1 rfl) ?_
      refine lv_bipush (v := 32) hx hb dM_word_13 (by decide) ?_
      refine lv_iload_n hx hb dM_word_15 rfl (lv_at hl 2 rfl) ?_
      refine lv_imul hx hb dM_word_16 ?_
      refine lv_topi (nm_r (pk_mul (32) (v)) ?_)
      refine lv_iload hx hb dM_word_17 (lv_at hl 4 rfl) ?_
      refine lv_iadd hx hb dM_word_19 ?_
      refine lv_topi (nm_r (nI_add (32 * (v)) (k)) ?_)
      refine dw_za (x := (Se) (32 * (v) + k)) hx hb hG 0 1 rfl rfl (32 * (v) + k) rfl (by omega) (by decide) rfl dM_word_20 ?_
      refine lv_if_eq (tgt := 33) hx hb dM_word_21 (by decide) (fun h21 => ?_) (fun h21 => ?_)
      · skip
        refine lv_iload_n hx hb dM_word_33 rfl (lv_at hl 3 rfl) ?_
        refine lv_istore_n (lv' := [(3, .int (w)), (0, .ref m0), (1, .ref aS), (2, .int (nI (v))), (4, .int (nI (k)))]) hx hb dM_word_34 rfl hl (by decide) rfl (fun ls hl => ?_)
        refine lv_iinc (v := nI (k + 1)) (lv' := [(4, .int (nI (k + 1))), (3, .int (w)), (0, .ref m0), (1, .ref aS), (2, .int (nI (v)))]) hx hb dM_word_35 hl (k := 4) rfl (dw_inc (k)) (by decide) rfl (fun ls hl => ?_)
        refine lv_goto (tgt := 5) hx hb dM_word_38 (by decide) ?_
        exact L5_ih (k + 1) (w) ls H locs (by omega) (by omega) (db_lay_n hw (by rw [db_set_n hd (by omega) h21]; decide)) (lv_sub hl [2, 3, 4, 1, 0] rfl) hG
      refine lv_iload_n hx hb dM_word_24 rfl (lv_at hl 3 rfl) ?_
      refine lv_iconst (v := 1) hx hb dM_word_25 (by decide) ?_
      refine lv_iload hx hb dM_word_26 (lv_at hl 4 rfl) ?_
      refine lv_ishl hx hb dM_word_28 ?_
      refine lv_ior hx hb dM_word_29 ?_
      refine lv_goto (tgt := 34) hx hb dM_word_30 (by decide) ?_
      refine lv_istore_n (lv' := [(3, .int ((w) ||| ((1) <<< (nI (k) &&& 31)))), (0, .ref m0), (1, .ref aS), (2, .int (nI (v))), (4, .int (nI (k)))]) hx hb dM_word_34 rfl hl (by decide) rfl (fun ls hl => ?_)
      refine lv_iinc (v := nI (k + 1)) (lv' := [(4, .int (nI (k + 1))), (3, .int ((w) ||| ((1) <<< (nI (k) &&& 31)))), (0, .ref m0), (1, .ref aS), (2, .int (nI (v)))]) hx hb dM_word_35 hl (k := 4) rfl (dw_inc (k)) (by decide) rfl (fun ls hl => ?_)
      refine lv_goto (tgt := 5) hx hb dM_word_38 (by decide) ?_
      exact L5_ih (k + 1) ((w) ||| ((1) <<< (nI (k) &&& 31))) ls H locs (by omega) (by omega) (db_lay_y hw (by omega) (db_set_y hd (by omega) h21)) (lv_sub hl [2, 3, 4, 1, 0] rfl) hG
  exact L5 _ (0) (0) ls H locs (Nat.lt_succ_self _) (by omega) (db_lay0 _) (lv_sub hl [2, 3, 4, 1, 0] rfl) hG

set_option maxRecDepth 100000 in
set_option maxHeartbeats 4000000 in
theorem rf_known0 (l : Launch) (dC : Nat → ClassId) (dI : Nat → Nat → Nat) (cI cZ : ClassId) (m0 aMd aO1 aT2 aSh aMk aFa aDe aNe aBy aPi aNw aNs aBf : Nat) (ft vl rs pd rn rr : Int32) (v : Nat) (Fa : Nat → Int32) (z o : Int32) (sz : Nat) (hv : v < 24) (hd : db_rep Fa v z o) (ha : db_ap z o) : Met l yM_known wsM_known { frames := 0, cells := 0, slots := 0, locals := 0 } (va_Pc [.ref m0, .int (nI (v)), .int (0)] (dw_pre (dC, dI) vwCl [(m0, .inr (5, [.int (ft), .int (vl), .ref aMd, .ref aO1, .ref aT2, .int (rs), .ref aSh, .ref aMk, .ref aFa, .ref aDe, .ref aNe, .ref aBy, .ref aPi, .int (pd), .ref aNw, .ref aNs, .ref aBf, .int (rn), .int (rr)])), (aFa, .inl (cI, 768, .inl (Fa)))] [(cI, .int), (cZ, .boolean)] sz)) (va_Qi (fun (r : Int32) (u : Unit) => r = z) (fun u t => dw_post (dC, dI) vwCl [(m0, .inr (5, [.int (ft), .int (vl), .ref aMd, .ref aO1, .ref aT2, .int (rs), .ref aSh, .ref aMk, .ref aFa, .ref aDe, .ref aNe, .ref aBy, .ref aPi, .int (pd), .ref aNw, .ref aNs, .ref aBf, .int (rn), .int (rr)])), (aFa, .inl (cI, 768, .inl (Fa)))] [(cI, .int), (cZ, .boolean)] (va_A [(m0, .inr (5, [.int (ft), .int (vl), .ref aMd, .ref aO1, .ref aT2, .int (rs), .ref aSh, .ref aMk, .ref aFa, .ref aDe, .ref aNe, .ref aBy, .ref aPi, .int (pd), .ref aNw, .ref aNs, .ref aBf, .int (rn), .int (rr)])), (aFa, .inl (cI, 768, .inl (Fa)))] sz) t) (va_A [(m0, .inr (5, [.int (ft), .int (vl), .ref aMd, .ref aO1, .ref aT2, .int (rs), .ref aSh, .ref aMk, .ref aFa, .ref aDe, .ref aNe, .ref aBy, .ref aPi, .int (pd), .ref aNw, .ref aNs, .ref aBf, .int (rn), .int (rr)])), (aFa, .inl (cI, 768, .inl (Fa)))] sz)) 0 0 (va_A [(m0, .inr (5, [.int (ft), .int (vl), .ref aMd, .ref aO1, .ref aT2, .int (rs), .ref aSh, .ref aMk, .ref aFa, .ref aDe, .ref aNe, .ref aBy, .ref aPi, .int (pd), .ref aNw, .ref aNs, .ref aBf, .int (rn), .int (rr)])), (aFa, .inl (cI, 768, .inl (Fa)))] sz) := by
  refine Met.ofW (cc := cM_known) (maxL := 5) (ret := (some .int)) (by decide) rfl ?_
  intro p e s m args below meth c s₁ B hml hv0
  have hx := B.exec
  have hb := B.bytes
  have hr := B.returns
  have hts := atoms_spec (ws := wsM_known) B.pre
  have hown : s.vm.findClass RM = some m.cls := findClass_of_methodNamed B.named
  have hlocks := B.notSynchronized
  obtain ⟨rfl, hsz, hG⟩ := dw_enter hv0
  generalize va_A [(m0, .inr (5, [.int (ft), .int (vl), .ref aMd, .ref aO1, .ref aT2, .int (rs), .ref aSh, .ref aMk, .ref aFa, .ref aDe, .ref aNe, .ref aBy, .ref aPi, .int (pd), .ref aNw, .ref aNs, .ref aBf, .int (rn), .int (rr)])), (aFa, .inl (cI, 768, .inl (Fa)))] sz = A at hG ⊢
  have hl := lv_entry ([.ref m0, .int (nI (v)), .int (0)]) (n := 5) (Nat.le_of_ble_eq_true rfl)
  rw [lg_entry_eq]
  generalize (lg_sl ([.ref m0, .int (nI (v)), .int (0)]) ++ List.replicate (5 - (lg_sl ([.ref m0, .int (nI (v)), .int (0)])).length) Slot.unset).toArray = ls at hl ⊢
  have hl : lv_has ls 5 [(0, .ref m0), (1, .int (nI (v))), (2, .int (0))] := hl
  have hw502 := hts _ (List.mem_cons_of_mem _ tw_502)
  refine dw_Q (fun Q hQ => ?_)
  suffices hgo : ∀ (H : Heap) (locs : List Loc), dw_G (dC, dI) vwCl [(cI, .int), (cZ, .boolean)] A s.heap s [(m0, .inr (5, [.int (ft), .int (vl), .ref aMd, .ref aO1, .ref aT2, .int (rs), .ref aSh, .ref aMk, .ref aFa, .ref aDe, .ref aNe, .ref aBy, .ref aPi, .int (pd), .ref aNw, .ref aNs, .ref aBf, .int (rn), .int (rr)])), (aFa, .inl (cI, 768, .inl (Fa)))] H locs → W p l e (headSpec wsM_known { frames := 0, cells := 0, slots := 0, locals := 0 }).room s m [.ref m0, .int (nI (v)), .int (0)].toArray below meth c H locs 0 0 Q (F0 m 0 ls []) from hgo _ _ hG
  clear hG
  intro H locs hG
  refine lv_iconst (v := 0) hx hb dM_known_0 (by decide) ?_
  refine lv_istore_n (lv' := [(3, .int (0)), (0, .ref m0), (1, .int (nI (v))), (2, .int (0))]) hx hb dM_known_1 rfl hl (by decide) rfl (fun ls hl => ?_)
  refine lv_iconst (v := 0) hx hb dM_known_2 (by decide) ?_
  refine lv_istore (lv' := [(4, .int (0)), (3, .int (0)), (0, .ref m0), (1, .int (nI (v))), (2, .int (0))]) hx hb dM_known_3 hl (by decide) rfl (fun ls hl => ?_)
  have L5 : ∀ (zz : Nat) (k : Nat) (w : Int32) (ls : Array Slot) (H : Heap) (locs : List Loc), 32 - k < zz → k ≤ 32 → db_lay w (fun b => bt z b = true) k → lv_has ls 5 [(0, .ref m0), (1, .int (nI (v))), (2, .int (0)), (3, .int (w)), (4, .int (nI (k)))] → dw_G (dC, dI) vwCl [(cI, .int), (cZ, .boolean)] A s.heap s [(m0, .inr (5, [.int (ft), .int (vl), .ref aMd, .ref aO1, .ref aT2, .int (rs), .ref aSh, .ref aMk, .ref aFa, .ref aDe, .ref aNe, .ref aBy, .ref aPi, .int (pd), .ref aNw, .ref aNs, .ref aBf, .int (rn), .int (rr)])), (aFa, .inl (cI, 768, .inl (Fa)))] H locs → W p l e (headSpec wsM_known { frames := 0, cells := 0, slots := 0, locals := 0 }).room s m [.ref m0, .int (nI (v)), .int (0)].toArray below meth c H locs 0 0 Q (F0 m 5 ls []) := by
    intro zz
    induction zz with
    | zero => intro k w ls H locs hz; exact absurd hz (Nat.not_lt_zero _)
    | succ zz L5_ih =>
      intro k w ls H locs hz hk hw hl hG
      refine lv_iload hx hb dM_known_5 (lv_at hl 4 rfl) ?_
      refine lv_bipush (v := 32) hx hb dM_known_7 (by decide) ?_
      refine lv_icmp_ge (tgt := 45) hx hb dM_known_9 (by decide) (fun h9 => ?_) (fun h9 => ?_)
      · skip
        replace h9 := (nI_leI (a := 32) (b := k) (by omega) (by omega)).mp h9
        refine lv_iload_n hx hb dM_known_45 rfl (lv_at hl 3 rfl) ?_
        subst hQ
        exact dw_iret hx hb hr hG (()) rfl (db_lay_end (by rw [show k = 32 by omega] at hw; exact hw) (fun b hb => Iff.rfl)) dM_known_46 hlocks
      replace h9 : ¬ 32 ≤ k := fun q => h9 ((nI_leI (a := 32) (b := k) (by omega) (by omega)).mpr q)
      refine lv_aload_n hx hb dM_known_12 rfl (lv_at hl 0 rfl) ?_
      refine dw_get hx hb hts inMc hown hG 0 8 rfl rfl (by decide) hw502 rfl rfl dM_known_13 ?_
      refine lv_bipush (v := 32) hx hb dM_known_16 (by decide) ?_
      refine lv_iload_n hx hb dM_known_18 rfl (lv_at hl 1 rfl) ?_
      refine lv_imul hx hb dM_known_19 ?_
      refine lv_topi (nm_r (pk_mul (32) (v)) ?_)
      refine lv_iload hx hb dM_known_20 (lv_at hl 4 rfl) ?_
      refine lv_iadd hx hb dM_known_22 ?_
      refine lv_topi (nm_r (nI_add (32 * (v)) (k)) ?_)
      refine dw_ia (x := (Fa) (32 * (v) + k)) hx hb hG 1 0 rfl rfl (32 * (v) + k) rfl (by omega) (by decide) rfl dM_known_23 ?_
      refine lv_iload_n hx hb dM_known_24 rfl (lv_at hl 2 rfl) ?_
      refine lv_icmp_ne (tgt := 37) hx hb dM_known_25 (by decide) (fun h25 => ?_) (fun h25 => ?_)
      · skip
        refine lv_iload_n hx hb dM_known_37 rfl (lv_at hl 3 rfl) ?_
        refine lv_istore_n (lv' := [(3, .int (w)), (0, .ref m0), (1, .int (nI (v))), (2, .int (0)), (4, .int (nI (k)))]) hx hb dM_known_38 rfl hl (by decide) rfl (fun ls hl => ?_)
        refine lv_iinc (v := nI (k + 1)) (lv' := [(4, .int (nI (k + 1))), (3, .int (w)), (0, .ref m0), (1, .int (nI (v))), (2, .int (0))]) hx hb dM_known_39 hl (k := 4) rfl (dw_inc (k)) (by decide) rfl (fun ls hl => ?_)
        refine lv_goto (tgt := 5) hx hb dM_known_42 (by decide) ?_
        exact L5_ih (k + 1) (w) ls H locs (by omega) (by omega) (db_lay_n hw (db_rep_nz hd (by omega) h25)) (lv_sub hl [2, 3, 4, 1, 0] rfl) hG
      refine lv_iload_n hx hb dM_known_28 rfl (lv_at hl 3 rfl) ?_
      refine lv_iconst (v := 1) hx hb dM_known_29 (by decide) ?_
      refine lv_iload hx hb dM_known_30 (lv_at hl 4 rfl) ?_
      refine lv_ishl hx hb dM_known_32 ?_
      refine lv_ior hx hb dM_known_33 ?_
      refine lv_goto (tgt := 38) hx hb dM_known_34 (by decide) ?_
      refine lv_istore_n (lv' := [(3, .int ((w) ||| ((1) <<< (nI (k) &&& 31)))), (0, .ref m0), (1, .int (nI (v))), (2, .int (0)), (4, .int (nI (k)))]) hx hb dM_known_38 rfl hl (by decide) rfl (fun ls hl => ?_)
      refine lv_iinc (v := nI (k + 1)) (lv' := [(4, .int (nI (k + 1))), (3, .int ((w) ||| ((1) <<< (nI (k) &&& 31)))), (0, .ref m0), (1, .int (nI (v))), (2, .int (0))]) hx hb dM_known_39 hl (k := 4) rfl (dw_inc (k)) (by decide) rfl (fun ls hl => ?_)
      refine lv_goto (tgt := 5) hx hb dM_known_42 (by decide) ?_
      exact L5_ih (k + 1) ((w) ||| ((1) <<< (nI (k) &&& 31))) ls H locs (by omega) (by omega) (db_lay_y hw (by omega) (db_rep_z hd (by omega) h25)) (lv_sub hl [2, 3, 4, 1, 0] rfl) hG
  exact L5 _ (0) (0) ls H locs (Nat.lt_succ_self _) (by omega) (db_lay0 _) (lv_sub hl [2, 3, 4, 1, 0] rfl) hG

set_option maxRecDepth 100000 in
set_option maxHeartbeats 4000000 in
theorem rf_known1 (l : Launch) (dC : Nat → ClassId) (dI : Nat → Nat → Nat) (cI cZ : ClassId) (m0 aMd aO1 aT2 aSh aMk aFa aDe aNe aBy aPi aNw aNs aBf : Nat) (ft vl rs pd rn rr : Int32) (v : Nat) (Fa : Nat → Int32) (z o : Int32) (sz : Nat) (hv : v < 24) (hd : db_rep Fa v z o) (ha : db_ap z o) : Met l yM_known wsM_known { frames := 0, cells := 0, slots := 0, locals := 0 } (va_Pc [.ref m0, .int (nI (v)), .int (1)] (dw_pre (dC, dI) vwCl [(m0, .inr (5, [.int (ft), .int (vl), .ref aMd, .ref aO1, .ref aT2, .int (rs), .ref aSh, .ref aMk, .ref aFa, .ref aDe, .ref aNe, .ref aBy, .ref aPi, .int (pd), .ref aNw, .ref aNs, .ref aBf, .int (rn), .int (rr)])), (aFa, .inl (cI, 768, .inl (Fa)))] [(cI, .int), (cZ, .boolean)] sz)) (va_Qi (fun (r : Int32) (u : Unit) => r = o) (fun u t => dw_post (dC, dI) vwCl [(m0, .inr (5, [.int (ft), .int (vl), .ref aMd, .ref aO1, .ref aT2, .int (rs), .ref aSh, .ref aMk, .ref aFa, .ref aDe, .ref aNe, .ref aBy, .ref aPi, .int (pd), .ref aNw, .ref aNs, .ref aBf, .int (rn), .int (rr)])), (aFa, .inl (cI, 768, .inl (Fa)))] [(cI, .int), (cZ, .boolean)] (va_A [(m0, .inr (5, [.int (ft), .int (vl), .ref aMd, .ref aO1, .ref aT2, .int (rs), .ref aSh, .ref aMk, .ref aFa, .ref aDe, .ref aNe, .ref aBy, .ref aPi, .int (pd), .ref aNw, .ref aNs, .ref aBf, .int (rn), .int (rr)])), (aFa, .inl (cI, 768, .inl (Fa)))] sz) t) (va_A [(m0, .inr (5, [.int (ft), .int (vl), .ref aMd, .ref aO1, .ref aT2, .int (rs), .ref aSh, .ref aMk, .ref aFa, .ref aDe, .ref aNe, .ref aBy, .ref aPi, .int (pd), .ref aNw, .ref aNs, .ref aBf, .int (rn), .int (rr)])), (aFa, .inl (cI, 768, .inl (Fa)))] sz)) 0 0 (va_A [(m0, .inr (5, [.int (ft), .int (vl), .ref aMd, .ref aO1, .ref aT2, .int (rs), .ref aSh, .ref aMk, .ref aFa, .ref aDe, .ref aNe, .ref aBy, .ref aPi, .int (pd), .ref aNw, .ref aNs, .ref aBf, .int (rn), .int (rr)])), (aFa, .inl (cI, 768, .inl (Fa)))] sz) := by
  refine Met.ofW (cc := cM_known) (maxL := 5) (ret := (some .int)) (by decide) rfl ?_
  intro p e s m args below meth c s₁ B hml hv0
  have hx := B.exec
  have hb := B.bytes
  have hr := B.returns
  have hts := atoms_spec (ws := wsM_known) B.pre
  have hown : s.vm.findClass RM = some m.cls := findClass_of_methodNamed B.named
  have hlocks := B.notSynchronized
  obtain ⟨rfl, hsz, hG⟩ := dw_enter hv0
  generalize va_A [(m0, .inr (5, [.int (ft), .int (vl), .ref aMd, .ref aO1, .ref aT2, .int (rs), .ref aSh, .ref aMk, .ref aFa, .ref aDe, .ref aNe, .ref aBy, .ref aPi, .int (pd), .ref aNw, .ref aNs, .ref aBf, .int (rn), .int (rr)])), (aFa, .inl (cI, 768, .inl (Fa)))] sz = A at hG ⊢
  have hl := lv_entry ([.ref m0, .int (nI (v)), .int (1)]) (n := 5) (Nat.le_of_ble_eq_true rfl)
  rw [lg_entry_eq]
  generalize (lg_sl ([.ref m0, .int (nI (v)), .int (1)]) ++ List.replicate (5 - (lg_sl ([.ref m0, .int (nI (v)), .int (1)])).length) Slot.unset).toArray = ls at hl ⊢
  have hl : lv_has ls 5 [(0, .ref m0), (1, .int (nI (v))), (2, .int (1))] := hl
  have hw502 := hts _ (List.mem_cons_of_mem _ tw_502)
  refine dw_Q (fun Q hQ => ?_)
  suffices hgo : ∀ (H : Heap) (locs : List Loc), dw_G (dC, dI) vwCl [(cI, .int), (cZ, .boolean)] A s.heap s [(m0, .inr (5, [.int (ft), .int (vl), .ref aMd, .ref aO1, .ref aT2, .int (rs), .ref aSh, .ref aMk, .ref aFa, .ref aDe, .ref aNe, .ref aBy, .ref aPi, .int (pd), .ref aNw, .ref aNs, .ref aBf, .int (rn), .int (rr)])), (aFa, .inl (cI, 768, .inl (Fa)))] H locs → W p l e (headSpec wsM_known { frames := 0, cells := 0, slots := 0, locals := 0 }).room s m [.ref m0, .int (nI (v)), .int (1)].toArray below meth c H locs 0 0 Q (F0 m 0 ls []) from hgo _ _ hG
  clear hG
  intro H locs hG
  refine lv_iconst (v := 0) hx hb dM_known_0 (by decide) ?_
  refine lv_istore_n (lv' := [(3, .int (0)), (0, .ref m0), (1, .int (nI (v))), (2, .int (1))]) hx hb dM_known_1 rfl hl (by decide) rfl (fun ls hl => ?_)
  refine lv_iconst (v := 0) hx hb dM_known_2 (by decide) ?_
  refine lv_istore (lv' := [(4, .int (0)), (3, .int (0)), (0, .ref m0), (1, .int (nI (v))), (2, .int (1))]) hx hb dM_known_3 hl (by decide) rfl (fun ls hl => ?_)
  have L5 : ∀ (zz : Nat) (k : Nat) (w : Int32) (ls : Array Slot) (H : Heap) (locs : List Loc), 32 - k < zz → k ≤ 32 → db_lay w (fun b => bt o b = true) k → lv_has ls 5 [(0, .ref m0), (1, .int (nI (v))), (2, .int (1)), (3, .int (w)), (4, .int (nI (k)))] → dw_G (dC, dI) vwCl [(cI, .int), (cZ, .boolean)] A s.heap s [(m0, .inr (5, [.int (ft), .int (vl), .ref aMd, .ref aO1, .ref aT2, .int (rs), .ref aSh, .ref aMk, .ref aFa, .ref aDe, .ref aNe, .ref aBy, .ref aPi, .int (pd), .ref aNw, .ref aNs, .ref aBf, .int (rn), .int (rr)])), (aFa, .inl (cI, 768, .inl (Fa)))] H locs → W p l e (headSpec wsM_known { frames := 0, cells := 0, slots := 0, locals := 0 }).room s m [.ref m0, .int (nI (v)), .int (1)].toArray below meth c H locs 0 0 Q (F0 m 5 ls []) := by
    intro zz
    induction zz with
    | zero => intro k w ls H locs hz; exact absurd hz (Nat.not_lt_zero _)
    | succ zz L5_ih =>
      intro k w ls H locs hz hk hw hl hG
      refine lv_iload hx hb dM_known_5 (lv_at hl 4 rfl) ?_
      refine lv_bipush (v := 32) hx hb dM_known_7 (by decide) ?_
      refine lv_icmp_ge (tgt := 45) hx hb dM_known_9 (by decide) (fun h9 => ?_) (fun h9 => ?_)
      · skip
        replace h9 := (nI_leI (a := 32) (b := k) (by omega) (by omega)).mp h9
        refine lv_iload_n hx hb dM_known_45 rfl (lv_at hl 3 rfl) ?_
        subst hQ
        exact dw_iret hx hb hr hG (()) rfl (db_lay_end (by rw [show k = 32 by omega] at hw; exact hw) (fun b hb => Iff.rfl)) dM_known_46 hlocks
      replace h9 : ¬ 32 ≤ k := fun q => h9 ((nI_leI (a := 32) (b := k) (by omega) (by omega)).mpr q)
      refine lv_aload_n hx hb dM_known_12 rfl (lv_at hl 0 rfl) ?_
      refine dw_get hx hb hts inMc hown hG 0 8 rfl rfl (by decide) hw502 rfl rfl dM_known_13 ?_
      refine lv_bipush (v := 32) hx hb dM_known_16 (by decide) ?_
      refine lv_iload_n hx hb dM_known_18 rfl (lv_at hl 1 rfl) ?_
      refine lv_imul hx hb dM_known_19 ?_
      refine lv_topi (nm_r (pk_mul (32) (v)) ?_)
      refine lv_iload hx hb dM_known_20 (lv_at hl 4 rfl) ?_
      refine lv_iadd hx hb dM_known_22 ?_
      refine lv_topi (nm_r (nI_add (32 * (v)) (k)) ?_)
      refine dw_ia (x := (Fa) (32 * (v) + k)) hx hb hG 1 0 rfl rfl (32 * (v) + k) rfl (by omega) (by decide) rfl dM_known_23 ?_
      refine lv_iload_n hx hb dM_known_24 rfl (lv_at hl 2 rfl) ?_
      refine lv_icmp_ne (tgt := 37) hx hb dM_known_25 (by decide) (fun h25 => ?_) (fun h25 => ?_)
      · skip
        refine lv_iload_n hx hb dM_known_37 rfl (lv_at hl 3 rfl) ?_
        refine lv_istore_n (lv' := [(3, .int (w)), (0, .ref m0), (1, .int (nI (v))), (2, .int (1)), (4, .int (nI (k)))]) hx hb dM_known_38 rfl hl (by decide) rfl (fun ls hl => ?_)
        refine lv_iinc (v := nI (k + 1)) (lv' := [(4, .int (nI (k + 1))), (3, .int (w)), (0, .ref m0), (1, .int (nI (v))), (2, .int (1))]) hx hb dM_known_39 hl (k := 4) rfl (dw_inc (k)) (by decide) rfl (fun ls hl => ?_)
        refine lv_goto (tgt := 5) hx hb dM_known_42 (by decide) ?_
        exact L5_ih (k + 1) (w) ls H locs (by omega) (by omega) (db_lay_n hw (db_rep_no hd ha (by omega) h25)) (lv_sub hl [2, 3, 4, 1, 0] rfl) hG
      refine lv_iload_n hx hb dM_known_28 rfl (lv_at hl 3 rfl) ?_
      refine lv_iconst (v := 1) hx hb dM_known_29 (by decide) ?_
      refine lv_iload hx hb dM_known_30 (lv_at hl 4 rfl) ?_
      refine lv_ishl hx hb dM_known_32 ?_
      refine lv_ior hx hb dM_known_33 ?_
      refine lv_goto (tgt := 38) hx hb dM_known_34 (by decide) ?_
      refine lv_istore_n (lv' := [(3, .int ((w) ||| ((1) <<< (nI (k) &&& 31)))), (0, .ref m0), (1, .int (nI (v))), (2, .int (1)), (4, .int (nI (k)))]) hx hb dM_known_38 rfl hl (by decide) rfl (fun ls hl => ?_)
      refine lv_iinc (v := nI (k + 1)) (lv' := [(4, .int (nI (k + 1))), (3, .int ((w) ||| ((1) <<< (nI (k) &&& 31)))), (0, .ref m0), (1, .int (nI (v))), (2, .int (1))]) hx hb dM_known_39 hl (k := 4) rfl (dw_inc (k)) (by decide) rfl (fun ls hl => ?_)
      refine lv_goto (tgt := 5) hx hb dM_known_42 (by decide) ?_
      exact L5_ih (k + 1) ((w) ||| ((1) <<< (nI (k) &&& 31))) ls H locs (by omega) (by omega) (db_lay_y hw (by omega) (db_rep_o hd (by omega) h25)) (lv_sub hl [2, 3, 4, 1, 0] rfl) hG
  exact L5 _ (0) (0) ls H locs (Nat.lt_succ_self _) (by omega) (db_lay0 _) (lv_sub hl [2, 3, 4, 1, 0] rfl) hG

set_option maxRecDepth 100000 in
set_option maxHeartbeats 4000000 in
theorem rf_isNarrow8 (l : Launch) (dC : Nat → ClassId) (dI : Nat → Nat → Nat) (cI cZ : ClassId) (m0 aMd aO1 aT2 aSh aMk aFa aDe aNe aBy aPi aNw aNs aBf : Nat) (ft vl rs pd rn rr : Int32) (v : Nat) (De : Nat → Int32) (d : Int32) (sz : Nat) (hv : v < 24) (hd : db_set De v d) : Met l yM_isNarrow wsM_isNarrow { frames := 0, cells := 0, slots := 0, locals := 0 } (va_Pc [.ref m0, .int (nI (v)), .int (8)] (dw_pre (dC, dI) vwCl [(m0, .inr (5, [.int (ft), .int (vl), .ref aMd, .ref aO1, .ref aT2, .int (rs), .ref aSh, .ref aMk, .ref aFa, .ref aDe, .ref aNe, .ref aBy, .ref aPi, .int (pd), .ref aNw, .ref aNs, .ref aBf, .int (rn), .int (rr)])), (aDe, .inl (cZ, 768, .inl (De)))] [(cI, .int), (cZ, .boolean)] sz)) (va_Qi (fun (r : Int32) (u : Unit) => r = if d &&& (-256) = 0 then 1 else 0) (fun u t => dw_post (dC, dI) vwCl [(m0, .inr (5, [.int (ft), .int (vl), .ref aMd, .ref aO1, .ref aT2, .int (rs), .ref aSh, .ref aMk, .ref aFa, .ref aDe, .ref aNe, .ref aBy, .ref aPi, .int (pd), .ref aNw, .ref aNs, .ref aBf, .int (rn), .int (rr)])), (aDe, .inl (cZ, 768, .inl (De)))] [(cI, .int), (cZ, .boolean)] (va_A [(m0, .inr (5, [.int (ft), .int (vl), .ref aMd, .ref aO1, .ref aT2, .int (rs), .ref aSh, .ref aMk, .ref aFa, .ref aDe, .ref aNe, .ref aBy, .ref aPi, .int (pd), .ref aNw, .ref aNs, .ref aBf, .int (rn), .int (rr)])), (aDe, .inl (cZ, 768, .inl (De)))] sz) t) (va_A [(m0, .inr (5, [.int (ft), .int (vl), .ref aMd, .ref aO1, .ref aT2, .int (rs), .ref aSh, .ref aMk, .ref aFa, .ref aDe, .ref aNe, .ref aBy, .ref aPi, .int (pd), .ref aNw, .ref aNs, .ref aBf, .int (rn), .int (rr)])), (aDe, .inl (cZ, 768, .inl (De)))] sz)) 0 0 (va_A [(m0, .inr (5, [.int (ft), .int (vl), .ref aMd, .ref aO1, .ref aT2, .int (rs), .ref aSh, .ref aMk, .ref aFa, .ref aDe, .ref aNe, .ref aBy, .ref aPi, .int (pd), .ref aNw, .ref aNs, .ref aBf, .int (rn), .int (rr)])), (aDe, .inl (cZ, 768, .inl (De)))] sz) := by
  refine Met.ofW (cc := cM_isNarrow) (maxL := 5) (ret := (some .boolean)) (by decide) rfl ?_
  intro p e s m args below meth c s₁ B hml hv0
  have hx := B.exec
  have hb := B.bytes
  have hr := B.returns
  have hts := atoms_spec (ws := wsM_isNarrow) B.pre
  have hown : s.vm.findClass RM = some m.cls := findClass_of_methodNamed B.named
  have hlocks := B.notSynchronized
  obtain ⟨rfl, hsz, hG⟩ := dw_enter hv0
  generalize va_A [(m0, .inr (5, [.int (ft), .int (vl), .ref aMd, .ref aO1, .ref aT2, .int (rs), .ref aSh, .ref aMk, .ref aFa, .ref aDe, .ref aNe, .ref aBy, .ref aPi, .int (pd), .ref aNw, .ref aNs, .ref aBf, .int (rn), .int (rr)])), (aDe, .inl (cZ, 768, .inl (De)))] sz = A at hG ⊢
  have hl := lv_entry ([.ref m0, .int (nI (v)), .int (8)]) (n := 5) (Nat.le_of_ble_eq_true rfl)
  rw [lg_entry_eq]
  generalize (lg_sl ([.ref m0, .int (nI (v)), .int (8)]) ++ List.replicate (5 - (lg_sl ([.ref m0, .int (nI (v)), .int (8)])).length) Slot.unset).toArray = ls at hl ⊢
  have hl : lv_has ls 5 [(0, .ref m0), (1, .int (nI (v))), (2, .int (8))] := hl
  have hw503 := hts _ (List.mem_cons_of_mem _ tw_503)
  refine dw_Q (fun Q hQ => ?_)
  suffices hgo : ∀ (H : Heap) (locs : List Loc), dw_G (dC, dI) vwCl [(cI, .int), (cZ, .boolean)] A s.heap s [(m0, .inr (5, [.int (ft), .int (vl), .ref aMd, .ref aO1, .ref aT2, .int (rs), .ref aSh, .ref aMk, .ref aFa, .ref aDe, .ref aNe, .ref aBy, .ref aPi, .int (pd), .ref aNw, .ref aNs, .ref aBf, .int (rn), .int (rr)])), (aDe, .inl (cZ, 768, .inl (De)))] H locs → W p l e (headSpec wsM_isNarrow { frames := 0, cells := 0, slots := 0, locals := 0 }).room s m [.ref m0, .int (nI (v)), .int (8)].toArray below meth c H locs 0 0 Q (F0 m 0 ls []) from hgo _ _ hG
  clear hG
  intro H locs hG
  refine lv_iconst (v := 1) hx hb dM_isNarrow_0 (by decide) ?_
  refine lv_istore_n (lv' := [(3, .int (1)), (0, .ref m0), (1, .int (nI (v))), (2, .int (8))]) hx hb dM_isNarrow_1 rfl hl (by decide) rfl (fun ls hl => ?_)
  refine lv_iload_n hx hb dM_isNarrow_2 rfl (lv_at hl 3 rfl) ?_
  refine lv_istore (lv' := [(4, .int (8)), (3, .int (1)), (0, .ref m0), (1, .int (nI (v))), (2, .int (8))]) hx hb dM_isNarrow_3 hl (by decide) rfl (fun ls hl => ?_)
  have L5 : ∀ (zz : Nat) (k : Nat) (al : Int32) (ls : Array Slot) (H : Heap) (locs : List Loc), 32 - k < zz → 8 ≤ k ∧ k ≤ 32 → db_all al (fun i => bt d i = false) 8 k → lv_has ls 5 [(0, .ref m0), (1, .int (nI (v))), (2, .int (8)), (3, .int (al)), (4, .int (nI (k)))] → dw_G (dC, dI) vwCl [(cI, .int), (cZ, .boolean)] A s.heap s [(m0, .inr (5, [.int (ft), .int (vl), .ref aMd, .ref aO1, .ref aT2, .int (rs), .ref aSh, .ref aMk, .ref aFa, .ref aDe, .ref aNe, .ref aBy, .ref aPi, .int (pd), .ref aNw, .ref aNs, .ref aBf, .int (rn), .int (rr)])), (aDe, .inl (cZ, 768, .inl (De)))] H locs → W p l e (headSpec wsM_isNarrow { frames := 0, cells := 0, slots := 0, locals := 0 }).room s m [.ref m0, .int (nI (v)), .int (8)].toArray below meth c H locs 0 0 Q (F0 m 5 ls []) := by
    intro zz
    induction zz with
    | zero => intro k al ls H locs hz; exact absurd hz (Nat.not_lt_zero _)
    | succ zz L5_ih =>
      intro k al ls H locs hz hk hw hl hG
      refine lv_iload hx hb dM_isNarrow_5 (lv_at hl 4 rfl) ?_
      refine lv_bipush (v := 32) hx hb dM_isNarrow_7 (by decide) ?_
      refine lv_icmp_ge (tgt := 43) hx hb dM_isNarrow_9 (by decide) (fun h9 => ?_) (fun h9 => ?_)
      · skip
        replace h9 := (nI_leI (a := 32) (b := k) (by omega) (by omega)).mp h9
        refine lv_iload_n hx hb dM_isNarrow_43 rfl (lv_at hl 3 rfl) ?_
        subst hQ
        exact dw_zret hx hb hr (db_all_01 hw) hG (()) rfl (db_all_end (by rw [show k = 32 by omega] at hw; exact hw) db_narrow8.symm) dM_isNarrow_44 hlocks
      replace h9 : ¬ 32 ≤ k := fun q => h9 ((nI_leI (a := 32) (b := k) (by omega) (by omega)).mpr q)
      refine lv_iload_n hx hb dM_isNarrow_12 rfl (lv_at hl 3 rfl) ?_
      refine lv_if_eq (tgt := 35) hx hb dM_isNarrow_13 (by decide) (fun h13 => ?_) (fun h13 => ?_)
      · skip
        refine lv_iconst (v := 0) hx hb dM_isNarrow_35 (by decide) ?_
        refine lv_istore_n (lv' := [(3, .int (0)), (0, .ref m0), (1, .int (nI (v))), (2, .int (8)), (4, .int (nI (k)))]) hx hb dM_isNarrow_36 rfl hl (by decide) rfl (fun ls hl => ?_)
        refine lv_iinc (v := nI (k + 1)) (lv' := [(4, .int (nI (k + 1))), (3, .int (0)), (0, .ref m0), (1, .int (nI (v))), (2, .int (8))]) hx hb dM_isNarrow_37 hl (k := 4) rfl (dw_inc (k)) (by decide) rfl (fun ls hl => ?_)
        refine lv_goto (tgt := 5) hx hb dM_isNarrow_40 (by decide) ?_
        exact L5_ih (k + 1) (0) ls H locs (by omega) ⟨by omega, by omega⟩ (db_all_f hw h13) (lv_sub hl [2, 3, 4, 1, 0] rfl) hG
      refine lv_aload_n hx hb dM_isNarrow_16 rfl (lv_at hl 0 rfl) ?_
      refine dw_get hx hb hts inMc hown hG 0 9 rfl rfl (by decide) hw503 rfl rfl dM_isNarrow_17 ?_
      refine lv_bipush (v := 32) hx hb dM_isNarrow_20 (by decide) ?_
      refine lv_iload_n hx hb dM_isNarrow_22 rfl (lv_at hl 1 rfl) ?_
      refine lv_imul hx hb dM_isNarrow_23 ?_
      refine lv_topi (nm_r (pk_mul (32) (v)) ?_)
      refine lv_iload hx hb dM_isNarrow_24 (lv_at hl 4 rfl) ?_
      refine lv_iadd hx hb dM_isNarrow_26 ?_
      refine lv_topi (nm_r (nI_add (32 * (v)) (k)) ?_)
      refine dw_za (x := (De) (32 * (v) + k)) hx hb hG 1 1 rfl rfl (32 * (v) + k) rfl (by omega) (by decide) rfl dM_isNarrow_27 ?_
      refine lv_if_ne (tgt := 35) hx hb dM_isNarrow_28 (by decide) (fun h28 => ?_) (fun h28 => ?_)
      · skip
        refine lv_iconst (v := 0) hx hb dM_isNarrow_35 (by decide) ?_
        refine lv_istore_n (lv' := [(3, .int (0)), (0, .ref m0), (1, .int (nI (v))), (2, .int (8)), (4, .int (nI (k)))]) hx hb dM_isNarrow_36 rfl hl (by decide) rfl (fun ls hl => ?_)
        refine lv_iinc (v := nI (k + 1)) (lv' := [(4, .int (nI (k + 1))), (3, .int (0)), (0, .ref m0), (1, .int (nI (v))), (2, .int (8))]) hx hb dM_isNarrow_37 hl (k := 4) rfl (dw_inc (k)) (by decide) rfl (fun ls hl => ?_)
        refine lv_goto (tgt := 5) hx hb dM_isNarrow_40 (by decide) ?_
        exact L5_ih (k + 1) (0) ls H locs (by omega) ⟨by omega, by omega⟩ (db_all_n (by omega) hw (by rw [db_set_y hd (by omega) h28]; decide)) (lv_sub hl [2, 3, 4, 1, 0] rfl) hG
      refine lv_iconst (v := 1) hx hb dM_isNarrow_31 (by decide) ?_
      refine lv_goto (tgt := 36) hx hb dM_isNarrow_32 (by decide) ?_
      refine lv_istore_n (lv' := [(3, .int (1)), (0, .ref m0), (1, .int (nI (v))), (2, .int (8)), (4, .int (nI (k)))]) hx hb dM_isNarrow_36 rfl hl (by decide) rfl (fun ls hl => ?_)
      refine lv_iinc (v := nI (k + 1)) (lv' := [(4, .int (nI (k + 1))), (3, .int (1)), (0, .ref m0), (1, .int (nI (v))), (2, .int (8))]) hx hb dM_isNarrow_37 hl (k := 4) rfl (dw_inc (k)) (by decide) rfl (fun ls hl => ?_)
      refine lv_goto (tgt := 5) hx hb dM_isNarrow_40 (by decide) ?_
      exact L5_ih (k + 1) (1) ls H locs (by omega) ⟨by omega, by omega⟩ (db_all_y hw h13 (db_set_n hd (by omega) h28)) (lv_sub hl [2, 3, 4, 1, 0] rfl) hG
  exact L5 _ (8) (1) ls H locs (Nat.lt_succ_self _) ⟨by omega, by omega⟩ (db_all0 _ _) (lv_sub hl [2, 3, 4, 1, 0] rfl) hG

set_option maxRecDepth 100000 in
set_option maxHeartbeats 4000000 in
theorem rf_isNarrow16 (l : Launch) (dC : Nat → ClassId) (dI : Nat → Nat → Nat) (cI cZ : ClassId) (m0 aMd aO1 aT2 aSh aMk aFa aDe aNe aBy aPi aNw aNs aBf : Nat) (ft vl rs pd rn rr : Int32) (v : Nat) (De : Nat → Int32) (d : Int32) (sz : Nat) (hv : v < 24) (hd : db_set De v d) : Met l yM_isNarrow wsM_isNarrow { frames := 0, cells := 0, slots := 0, locals := 0 } (va_Pc [.ref m0, .int (nI (v)), .int (16)] (dw_pre (dC, dI) vwCl [(m0, .inr (5, [.int (ft), .int (vl), .ref aMd, .ref aO1, .ref aT2, .int (rs), .ref aSh, .ref aMk, .ref aFa, .ref aDe, .ref aNe, .ref aBy, .ref aPi, .int (pd), .ref aNw, .ref aNs, .ref aBf, .int (rn), .int (rr)])), (aDe, .inl (cZ, 768, .inl (De)))] [(cI, .int), (cZ, .boolean)] sz)) (va_Qi (fun (r : Int32) (u : Unit) => r = if d &&& (-65536) = 0 then 1 else 0) (fun u t => dw_post (dC, dI) vwCl [(m0, .inr (5, [.int (ft), .int (vl), .ref aMd, .ref aO1, .ref aT2, .int (rs), .ref aSh, .ref aMk, .ref aFa, .ref aDe, .ref aNe, .ref aBy, .ref aPi, .int (pd), .ref aNw, .ref aNs, .ref aBf, .int (rn), .int (rr)])), (aDe, .inl (cZ, 768, .inl (De)))] [(cI, .int), (cZ, .boolean)] (va_A [(m0, .inr (5, [.int (ft), .int (vl), .ref aMd, .ref aO1, .ref aT2, .int (rs), .ref aSh, .ref aMk, .ref aFa, .ref aDe, .ref aNe, .ref aBy, .ref aPi, .int (pd), .ref aNw, .ref aNs, .ref aBf, .int (rn), .int (rr)])), (aDe, .inl (cZ, 768, .inl (De)))] sz) t) (va_A [(m0, .inr (5, [.int (ft), .int (vl), .ref aMd, .ref aO1, .ref aT2, .int (rs), .ref aSh, .ref aMk, .ref aFa, .ref aDe, .ref aNe, .ref aBy, .ref aPi, .int (pd), .ref aNw, .ref aNs, .ref aBf, .int (rn), .int (rr)])), (aDe, .inl (cZ, 768, .inl (De)))] sz)) 0 0 (va_A [(m0, .inr (5, [.int (ft), .int (vl), .ref aMd, .ref aO1, .ref aT2, .int (rs), .ref aSh, .ref aMk, .ref aFa, .ref aDe, .ref aNe, .ref aBy, .ref aPi, .int (pd), .ref aNw, .ref aNs, .ref aBf, .int (rn), .int (rr)])), (aDe, .inl (cZ, 768, .inl (De)))] sz) := by
  refine Met.ofW (cc := cM_isNarrow) (maxL := 5) (ret := (some .boolean)) (by decide) rfl ?_
  intro p e s m args below meth c s₁ B hml hv0
  have hx := B.exec
  have hb := B.bytes
  have hr := B.returns
  have hts := atoms_spec (ws := wsM_isNarrow) B.pre
  have hown : s.vm.findClass RM = some m.cls := findClass_of_methodNamed B.named
  have hlocks := B.notSynchronized
  obtain ⟨rfl, hsz, hG⟩ := dw_enter hv0
  generalize va_A [(m0, .inr (5, [.int (ft), .int (vl), .ref aMd, .ref aO1, .ref aT2, .int (rs), .ref aSh, .ref aMk, .ref aFa, .ref aDe, .ref aNe, .ref aBy, .ref aPi, .int (pd), .ref aNw, .ref aNs, .ref aBf, .int (rn), .int (rr)])), (aDe, .inl (cZ, 768, .inl (De)))] sz = A at hG ⊢
  have hl := lv_entry ([.ref m0, .int (nI (v)), .int (16)]) (n := 5) (Nat.le_of_ble_eq_true rfl)
  rw [lg_entry_eq]
  generalize (lg_sl ([.ref m0, .int (nI (v)), .int (16)]) ++ List.replicate (5 - (lg_sl ([.ref m0, .int (nI (v)), .int (16)])).length) Slot.unset).toArray = ls at hl ⊢
  have hl : lv_has ls 5 [(0, .ref m0), (1, .int (nI (v))), (2, .int (16))] := hl
  have hw503 := hts _ (List.mem_cons_of_mem _ tw_503)
  refine dw_Q (fun Q hQ => ?_)
  suffices hgo : ∀ (H : Heap) (locs : List Loc), dw_G (dC, dI) vwCl [(cI, .int), (cZ, .boolean)] A s.heap s [(m0, .inr (5, [.int (ft), .int (vl), .ref aMd, .ref aO1, .ref aT2, .int (rs), .ref aSh, .ref aMk, .ref aFa, .ref aDe, .ref aNe, .ref aBy, .ref aPi, .int (pd), .ref aNw, .ref aNs, .ref aBf, .int (rn), .int (rr)])), (aDe, .inl (cZ, 768, .inl (De)))] H locs → W p l e (headSpec wsM_isNarrow { frames := 0, cells := 0, slots := 0, locals := 0 }).room s m [.ref m0, .int (nI (v)), .int (16)].toArray below meth c H locs 0 0 Q (F0 m 0 ls []) from hgo _ _ hG
  clear hG
  intro H locs hG
  refine lv_iconst (v := 1) hx hb dM_isNarrow_0 (by decide) ?_
  refine lv_istore_n (lv' := [(3, .int (1)), (0, .ref m0), (1, .int (nI (v))), (2, .int (16))]) hx hb dM_isNarrow_1 rfl hl (by decide) rfl (fun ls hl => ?_)
  refine lv_iload_n hx hb dM_isNarrow_2 rfl (lv_at hl 3 rfl) ?_
  refine lv_istore (lv' := [(4, .int (16)), (3, .int (1)), (0, .ref m0), (1, .int (nI (v))), (2, .int (16))]) hx hb dM_isNarrow_3 hl (by decide) rfl (fun ls hl => ?_)
  have L5 : ∀ (zz : Nat) (k : Nat) (al : Int32) (ls : Array Slot) (H : Heap) (locs : List Loc), 32 - k < zz → 16 ≤ k ∧ k ≤ 32 → db_all al (fun i => bt d i = false) 16 k → lv_has ls 5 [(0, .ref m0), (1, .int (nI (v))), (2, .int (16)), (3, .int (al)), (4, .int (nI (k)))] → dw_G (dC, dI) vwCl [(cI, .int), (cZ, .boolean)] A s.heap s [(m0, .inr (5, [.int (ft), .int (vl), .ref aMd, .ref aO1, .ref aT2, .int (rs), .ref aSh, .ref aMk, .ref aFa, .ref aDe, .ref aNe, .ref aBy, .ref aPi, .int (pd), .ref aNw, .ref aNs, .ref aBf, .int (rn), .int (rr)])), (aDe, .inl (cZ, 768, .inl (De)))] H locs → W p l e (headSpec wsM_isNarrow { frames := 0, cells := 0, slots := 0, locals := 0 }).room s m [.ref m0, .int (nI (v)), .int (16)].toArray below meth c H locs 0 0 Q (F0 m 5 ls []) := by
    intro zz
    induction zz with
    | zero => intro k al ls H locs hz; exact absurd hz (Nat.not_lt_zero _)
    | succ zz L5_ih =>
      intro k al ls H locs hz hk hw hl hG
      refine lv_iload hx hb dM_isNarrow_5 (lv_at hl 4 rfl) ?_
      refine lv_bipush (v := 32) hx hb dM_isNarrow_7 (by decide) ?_
      refine lv_icmp_ge (tgt := 43) hx hb dM_isNarrow_9 (by decide) (fun h9 => ?_) (fun h9 => ?_)
      · skip
        replace h9 := (nI_leI (a := 32) (b := k) (by omega) (by omega)).mp h9
        refine lv_iload_n hx hb dM_isNarrow_43 rfl (lv_at hl 3 rfl) ?_
        subst hQ
        exact dw_zret hx hb hr (db_all_01 hw) hG (()) rfl (db_all_end (by rw [show k = 32 by omega] at hw; exact hw) db_narrow16.symm) dM_isNarrow_44 hlocks
      replace h9 : ¬ 32 ≤ k := fun q => h9 ((nI_leI (a := 32) (b := k) (by omega) (by omega)).mpr q)
      refine lv_iload_n hx hb dM_isNarrow_12 rfl (lv_at hl 3 rfl) ?_
      refine lv_if_eq (tgt := 35) hx hb dM_isNarrow_13 (by decide) (fun h13 => ?_) (fun h13 => ?_)
      · skip
        refine lv_iconst (v := 0) hx hb dM_isNarrow_35 (by decide) ?_
        refine lv_istore_n (lv' := [(3, .int (0)), (0, .ref m0), (1, .int (nI (v))), (2, .int (16)), (4, .int (nI (k)))]) hx hb dM_isNarrow_36 rfl hl (by decide) rfl (fun ls hl => ?_)
        refine lv_iinc (v := nI (k + 1)) (lv' := [(4, .int (nI (k + 1))), (3, .int (0)), (0, .ref m0), (1, .int (nI (v))), (2, .int (16))]) hx hb dM_isNarrow_37 hl (k := 4) rfl (dw_inc (k)) (by decide) rfl (fun ls hl => ?_)
        refine lv_goto (tgt := 5) hx hb dM_isNarrow_40 (by decide) ?_
        exact L5_ih (k + 1) (0) ls H locs (by omega) ⟨by omega, by omega⟩ (db_all_f hw h13) (lv_sub hl [2, 3, 4, 1, 0] rfl) hG
      refine lv_aload_n hx hb dM_isNarrow_16 rfl (lv_at hl 0 rfl) ?_
      refine dw_get hx hb hts inMc hown hG 0 9 rfl rfl (by decide) hw503 rfl rfl dM_isNarrow_17 ?_
      refine lv_bipush (v := 32) hx hb dM_isNarrow_20 (by decide) ?_
      refine lv_iload_n hx hb dM_isNarrow_22 rfl (lv_at hl 1 rfl) ?_
      refine lv_imul hx hb dM_isNarrow_23 ?_
      refine lv_topi (nm_r (pk_mul (32) (v)) ?_)
      refine lv_iload hx hb dM_isNarrow_24 (lv_at hl 4 rfl) ?_
      refine lv_iadd hx hb dM_isNarrow_26 ?_
      refine lv_topi (nm_r (nI_add (32 * (v)) (k)) ?_)
      refine dw_za (x := (De) (32 * (v) + k)) hx hb hG 1 1 rfl rfl (32 * (v) + k) rfl (by omega) (by decide) rfl dM_isNarrow_27 ?_
      refine lv_if_ne (tgt := 35) hx hb dM_isNarrow_28 (by decide) (fun h28 => ?_) (fun h28 => ?_)
      · skip
        refine lv_iconst (v := 0) hx hb dM_isNarrow_35 (by decide) ?_
        refine lv_istore_n (lv' := [(3, .int (0)), (0, .ref m0), (1, .int (nI (v))), (2, .int (16)), (4, .int (nI (k)))]) hx hb dM_isNarrow_36 rfl hl (by decide) rfl (fun ls hl => ?_)
        refine lv_iinc (v := nI (k + 1)) (lv' := [(4, .int (nI (k + 1))), (3, .int (0)), (0, .ref m0), (1, .int (nI (v))), (2, .int (16))]) hx hb dM_isNarrow_37 hl (k := 4) rfl (dw_inc (k)) (by decide) rfl (fun ls hl => ?_)
        refine lv_goto (tgt := 5) hx hb dM_isNarrow_40 (by decide) ?_
        exact L5_ih (k + 1) (0) ls H locs (by omega) ⟨by omega, by omega⟩ (db_all_n (by omega) hw (by rw [db_set_y hd (by omega) h28]; decide)) (lv_sub hl [2, 3, 4, 1, 0] rfl) hG
      refine lv_iconst (v := 1) hx hb dM_isNarrow_31 (by decide) ?_
      refine lv_goto (tgt := 36) hx hb dM_isNarrow_32 (by decide) ?_
      refine lv_istore_n (lv' := [(3, .int (1)), (0, .ref m0), (1, .int (nI (v))), (2, .int (16)), (4, .int (nI (k)))]) hx hb dM_isNarrow_36 rfl hl (by decide) rfl (fun ls hl => ?_)
      refine lv_iinc (v := nI (k + 1)) (lv' := [(4, .int (nI (k + 1))), (3, .int (1)), (0, .ref m0), (1, .int (nI (v))), (2, .int (16))]) hx hb dM_isNarrow_37 hl (k := 4) rfl (dw_inc (k)) (by decide) rfl (fun ls hl => ?_)
      refine lv_goto (tgt := 5) hx hb dM_isNarrow_40 (by decide) ?_
      exact L5_ih (k + 1) (1) ls H locs (by omega) ⟨by omega, by omega⟩ (db_all_y hw h13 (db_set_n hd (by omega) h28)) (lv_sub hl [2, 3, 4, 1, 0] rfl) hG
  exact L5 _ (16) (1) ls H locs (Nat.lt_succ_self _) ⟨by omega, by omega⟩ (db_all0 _ _) (lv_sub hl [2, 3, 4, 1, 0] rfl) hG

set_option maxRecDepth 100000 in
set_option maxHeartbeats 4000000 in
theorem rf_isKnown (l : Launch) (dC : Nat → ClassId) (dI : Nat → Nat → Nat) (cI cZ : ClassId) (m0 aMd aO1 aT2 aSh aMk aFa aDe aNe aBy aPi aNw aNs aBf : Nat) (ft vl rs pd rn rr : Int32) (v : Nat) (Fa De : Nat → Int32) (d z o : Int32) (sz : Nat) (hv : v < 24) (hd : db_set De v d) (hf : db_rep Fa v z o) : Met l yM_isKnown wsM_isKnown { frames := 0, cells := 0, slots := 0, locals := 0 } (va_Pc [.ref m0, .int (nI (v))] (dw_pre (dC, dI) vwCl [(m0, .inr (5, [.int (ft), .int (vl), .ref aMd, .ref aO1, .ref aT2, .int (rs), .ref aSh, .ref aMk, .ref aFa, .ref aDe, .ref aNe, .ref aBy, .ref aPi, .int (pd), .ref aNw, .ref aNs, .ref aBf, .int (rn), .int (rr)])), (aFa, .inl (cI, 768, .inl (Fa))), (aDe, .inl (cZ, 768, .inl (De)))] [(cI, .int), (cZ, .boolean)] sz)) (va_Qi (fun (r : Int32) (u : Unit) => r = if d &&& ((z ||| o) ^^^ (-1)) = 0 then 1 else 0) (fun u t => dw_post (dC, dI) vwCl [(m0, .inr (5, [.int (ft), .int (vl), .ref aMd, .ref aO1, .ref aT2, .int (rs), .ref aSh, .ref aMk, .ref aFa, .ref aDe, .ref aNe, .ref aBy, .ref aPi, .int (pd), .ref aNw, .ref aNs, .ref aBf, .int (rn), .int (rr)])), (aFa, .inl (cI, 768, .inl (Fa))), (aDe, .inl (cZ, 768, .inl (De)))] [(cI, .int), (cZ, .boolean)] (va_A [(m0, .inr (5, [.int (ft), .int (vl), .ref aMd, .ref aO1, .ref aT2, .int (rs), .ref aSh, .ref aMk, .ref aFa, .ref aDe, .ref aNe, .ref aBy, .ref aPi, .int (pd), .ref aNw, .ref aNs, .ref aBf, .int (rn), .int (rr)])), (aFa, .inl (cI, 768, .inl (Fa))), (aDe, .inl (cZ, 768, .inl (De)))] sz) t) (va_A [(m0, .inr (5, [.int (ft), .int (vl), .ref aMd, .ref aO1, .ref aT2, .int (rs), .ref aSh, .ref aMk, .ref aFa, .ref aDe, .ref aNe, .ref aBy, .ref aPi, .int (pd), .ref aNw, .ref aNs, .ref aBf, .int (rn), .int (rr)])), (aFa, .inl (cI, 768, .inl (Fa))), (aDe, .inl (cZ, 768, .inl (De)))] sz)) 0 0 (va_A [(m0, .inr (5, [.int (ft), .int (vl), .ref aMd, .ref aO1, .ref aT2, .int (rs), .ref aSh, .ref aMk, .ref aFa, .ref aDe, .ref aNe, .ref aBy, .ref aPi, .int (pd), .ref aNw, .ref aNs, .ref aBf, .int (rn), .int (rr)])), (aFa, .inl (cI, 768, .inl (Fa))), (aDe, .inl (cZ, 768, .inl (De)))] sz) := by
  refine Met.ofW (cc := cM_isKnown) (maxL := 4) (ret := (some .boolean)) (by decide) rfl ?_
  intro p e s m args below meth c s₁ B hml hv0
  have hx := B.exec
  have hb := B.bytes
  have hr := B.returns
  have hts := atoms_spec (ws := wsM_isKnown) B.pre
  have hown : s.vm.findClass RM = some m.cls := findClass_of_methodNamed B.named
  have hlocks := B.notSynchronized
  obtain ⟨rfl, hsz, hG⟩ := dw_enter hv0
  generalize va_A [(m0, .inr (5, [.int (ft), .int (vl), .ref aMd, .ref aO1, .ref aT2, .int (rs), .ref aSh, .ref aMk, .ref aFa, .ref aDe, .ref aNe, .ref aBy, .ref aPi, .int (pd), .ref aNw, .ref aNs, .ref aBf, .int (rn), .int (rr)])), (aFa, .inl (cI, 768, .inl (Fa))), (aDe, .inl (cZ, 768, .inl (De)))] sz = A at hG ⊢
  have hl := lv_entry ([.ref m0, .int (nI (v))]) (n := 4) (Nat.le_of_ble_eq_true rfl)
  rw [lg_entry_eq]
  generalize (lg_sl ([.ref m0, .int (nI (v))]) ++ List.replicate (4 - (lg_sl ([.ref m0, .int (nI (v))])).length) Slot.unset).toArray = ls at hl ⊢
  have hl : lv_has ls 4 [(0, .ref m0), (1, .int (nI (v)))] := hl
  have hw503 := hts _ (List.mem_cons_of_mem _ tw_503)
  have hw502 := hts _ (List.mem_cons_of_mem _ tw_502)
  refine dw_Q (fun Q hQ => ?_)
  suffices hgo : ∀ (H : Heap) (locs : List Loc), dw_G (dC, dI) vwCl [(cI, .int), (cZ, .boolean)] A s.heap s [(m0, .inr (5, [.int (ft), .int (vl), .ref aMd, .ref aO1, .ref aT2, .int (rs), .ref aSh, .ref aMk, .ref aFa, .ref aDe, .ref aNe, .ref aBy, .ref aPi, .int (pd), .ref aNw, .ref aNs, .ref aBf, .int (rn), .int (rr)])), (aFa, .inl (cI, 768, .inl (Fa))), (aDe, .inl (cZ, 768, .inl (De)))] H locs → W p l e (headSpec wsM_isKnown { frames := 0, cells := 0, slots := 0, locals := 0 }).room s m [.ref m0, .int (nI (v))].toArray below meth c H locs 0 0 Q (F0 m 0 ls []) from hgo _ _ hG
  clear hG
  intro H locs hG
  refine lv_iconst (v := 1) hx hb dM_isKnown_0 (by decide) ?_
  refine lv_istore_n (lv' := [(2, .int (1)), (0, .ref m0), (1, .int (nI (v)))]) hx hb dM_isKnown_1 rfl hl (by decide) rfl (fun ls hl => ?_)
  refine lv_iconst (v := 0) hx hb dM_isKnown_2 (by decide) ?_
  refine lv_istore_n (lv' := [(3, .int (0)), (2, .int (1)), (0, .ref m0), (1, .int (nI (v)))]) hx hb dM_isKnown_3 rfl hl (by decide) rfl (fun ls hl => ?_)
  have L4 : ∀ (zz : Nat) (k : Nat) (al : Int32) (ls : Array Slot) (H : Heap) (locs : List Loc), 32 - k < zz → k ≤ 32 → db_all al (fun i => bt d i = true → ¬ db_tri (bt z i) (bt o i) = 2) 0 k → lv_has ls 4 [(0, .ref m0), (1, .int (nI (v))), (2, .int (al)), (3, .int (nI (k)))] → dw_G (dC, dI) vwCl [(cI, .int), (cZ, .boolean)] A s.heap s [(m0, .inr (5, [.int (ft), .int (vl), .ref aMd, .ref aO1, .ref aT2, .int (rs), .ref aSh, .ref aMk, .ref aFa, .ref aDe, .ref aNe, .ref aBy, .ref aPi, .int (pd), .ref aNw, .ref aNs, .ref aBf, .int (rn), .int (rr)])), (aFa, .inl (cI, 768, .inl (Fa))), (aDe, .inl (cZ, 768, .inl (De)))] H locs → W p l e (headSpec wsM_isKnown { frames := 0, cells := 0, slots := 0, locals := 0 }).room s m [.ref m0, .int (nI (v))].toArray below meth c H locs 0 0 Q (F0 m 4 ls []) := by
    intro zz
    induction zz with
    | zero => intro k al ls H locs hz; exact absurd hz (Nat.not_lt_zero _)
    | succ zz L4_ih =>
      intro k al ls H locs hz hk hw hl hG
      refine lv_iload_n hx hb dM_isKnown_4 rfl (lv_at hl 3 rfl) ?_
      refine lv_bipush (v := 32) hx hb dM_isKnown_5 (by decide) ?_
      refine lv_icmp_ge (tgt := 55) hx hb dM_isKnown_7 (by decide) (fun h7 => ?_) (fun h7 => ?_)
      · skip
        replace h7 := (nI_leI (a := 32) (b := k) (by omega) (by omega)).mp h7
        refine lv_iload_n hx hb dM_isKnown_55 rfl (lv_at hl 2 rfl) ?_
        subst hQ
        exact dw_zret hx hb hr (db_all_01 hw) hG (()) rfl (db_all_end (by rw [show k = 32 by omega] at hw; exact hw) (Iff.trans ⟨fun q i hi => q i (Nat.zero_le _) hi, fun q i _ hi => q i hi⟩ db_known.symm)) dM_isKnown_56 hlocks
      replace h7 : ¬ 32 ≤ k := fun q => h7 ((nI_leI (a := 32) (b := k) (by omega) (by omega)).mpr q)
      refine lv_iload_n hx hb dM_isKnown_10 rfl (lv_at hl 2 rfl) ?_
      refine lv_if_eq (tgt := 47) hx hb dM_isKnown_11 (by decide) (fun h11 => ?_) (fun h11 => ?_)
      · skip
        refine lv_iconst (v := 0) hx hb dM_isKnown_47 (by decide) ?_
        refine lv_istore_n (lv' := [(2, .int (0)), (0, .ref m0), (1, .int (nI (v))), (3, .int (nI (k)))]) hx hb dM_isKnown_48 rfl hl (by decide) rfl (fun ls hl => ?_)
        refine lv_iinc (v := nI (k + 1)) (lv' := [(3, .int (nI (k + 1))), (2, .int (0)), (0, .ref m0), (1, .int (nI (v)))]) hx hb dM_isKnown_49 hl (k := 3) rfl (dw_inc (k)) (by decide) rfl (fun ls hl => ?_)
        refine lv_goto (tgt := 4) hx hb dM_isKnown_52 (by decide) ?_
        exact L4_ih (k + 1) (0) ls H locs (by omega) (by omega) (db_all_f hw h11) (lv_sub hl [2, 3, 1, 0] rfl) hG
      refine lv_aload_n hx hb dM_isKnown_14 rfl (lv_at hl 0 rfl) ?_
      refine dw_get hx hb hts inMc hown hG 0 9 rfl rfl (by decide) hw503 rfl rfl dM_isKnown_15 ?_
      refine lv_bipush (v := 32) hx hb dM_isKnown_18 (by decide) ?_
      refine lv_iload_n hx hb dM_isKnown_20 rfl (lv_at hl 1 rfl) ?_
      refine lv_imul hx hb dM_isKnown_21 ?_
      refine lv_topi (nm_r (pk_mul (32) (v)) ?_)
      refine lv_iload_n hx hb dM_isKnown_22 rfl (lv_at hl 3 rfl) ?_
      refine lv_iadd hx hb dM_isKnown_23 ?_
      refine lv_topi (nm_r (nI_add (32 * (v)) (k)) ?_)
      refine dw_za (x := (De) (32 * (v) + k)) hx hb hG 2 1 rfl rfl (32 * (v) + k) rfl (by omega) (by decide) rfl dM_isKnown_24 ?_
      refine lv_if_eq (tgt := 43) hx hb dM_isKnown_25 (by decide) (fun h25 => ?_) (fun h25 => ?_)
      · skip
        refine lv_iconst (v := 1) hx hb dM_isKnown_43 (by decide) ?_
        refine lv_goto (tgt := 48) hx hb dM_isKnown_44 (by decide) ?_
        refine lv_istore_n (lv' := [(2, .int (1)), (0, .ref m0), (1, .int (nI (v))), (3, .int (nI (k)))]) hx hb dM_isKnown_48 rfl hl (by decide) rfl (fun ls hl => ?_)
        refine lv_iinc (v := nI (k + 1)) (lv' := [(3, .int (nI (k + 1))), (2, .int (1)), (0, .ref m0), (1, .int (nI (v)))]) hx hb dM_isKnown_49 hl (k := 3) rfl (dw_inc (k)) (by decide) rfl (fun ls hl => ?_)
        refine lv_goto (tgt := 4) hx hb dM_isKnown_52 (by decide) ?_
        exact L4_ih (k + 1) (1) ls H locs (by omega) (by omega) (db_all_y hw h11 (fun q => by rw [db_set_n hd (by omega) h25] at q; cases q)) (lv_sub hl [2, 3, 1, 0] rfl) hG
      refine lv_aload_n hx hb dM_isKnown_28 rfl (lv_at hl 0 rfl) ?_
      refine dw_get hx hb hts inMc hown hG 0 8 rfl rfl (by decide) hw502 rfl rfl dM_isKnown_29 ?_
      refine lv_bipush (v := 32) hx hb dM_isKnown_32 (by decide) ?_
      refine lv_iload_n hx hb dM_isKnown_34 rfl (lv_at hl 1 rfl) ?_
      refine lv_imul hx hb dM_isKnown_35 ?_
      refine lv_topi (nm_r (pk_mul (32) (v)) ?_)
      refine lv_iload_n hx hb dM_isKnown_36 rfl (lv_at hl 3 rfl) ?_
      refine lv_iadd hx hb dM_isKnown_37 ?_
      refine lv_topi (nm_r (nI_add (32 * (v)) (k)) ?_)
      refine dw_ia (x := (Fa) (32 * (v) + k)) hx hb hG 1 0 rfl rfl (32 * (v) + k) rfl (by omega) (by decide) rfl dM_isKnown_38 ?_
      refine lv_iconst (v := 2) hx hb dM_isKnown_39 (by decide) ?_
      refine lv_icmp_eq (tgt := 47) hx hb dM_isKnown_40 (by decide) (fun h40 => ?_) (fun h40 => ?_)
      · skip
        refine lv_iconst (v := 0) hx hb dM_isKnown_47 (by decide) ?_
        refine lv_istore_n (lv' := [(2, .int (0)), (0, .ref m0), (1, .int (nI (v))), (3, .int (nI (k)))]) hx hb dM_isKnown_48 rfl hl (by decide) rfl (fun ls hl => ?_)
        refine lv_iinc (v := nI (k + 1)) (lv' := [(3, .int (nI (k + 1))), (2, .int (0)), (0, .ref m0), (1, .int (nI (v)))]) hx hb dM_isKnown_49 hl (k := 3) rfl (dw_inc (k)) (by decide) rfl (fun ls hl => ?_)
        refine lv_goto (tgt := 4) hx hb dM_isKnown_52 (by decide) ?_
        exact L4_ih (k + 1) (0) ls H locs (by omega) (by omega) (db_all_n (Nat.zero_le _) hw (fun q => q (db_set_y hd (by omega) h25) (by rw [← hf k (by omega)]; exact h40))) (lv_sub hl [2, 3, 1, 0] rfl) hG
      refine lv_iconst (v := 1) hx hb dM_isKnown_43 (by decide) ?_
      refine lv_goto (tgt := 48) hx hb dM_isKnown_44 (by decide) ?_
      refine lv_istore_n (lv' := [(2, .int (1)), (0, .ref m0), (1, .int (nI (v))), (3, .int (nI (k)))]) hx hb dM_isKnown_48 rfl hl (by decide) rfl (fun ls hl => ?_)
      refine lv_iinc (v := nI (k + 1)) (lv' := [(3, .int (nI (k + 1))), (2, .int (1)), (0, .ref m0), (1, .int (nI (v)))]) hx hb dM_isKnown_49 hl (k := 3) rfl (dw_inc (k)) (by decide) rfl (fun ls hl => ?_)
      refine lv_goto (tgt := 4) hx hb dM_isKnown_52 (by decide) ?_
      exact L4_ih (k + 1) (1) ls H locs (by omega) (by omega) (db_all_y hw h11 (fun _ => by rw [← hf k (by omega)]; exact h40)) (lv_sub hl [2, 3, 1, 0] rfl) hG
  exact L4 _ (0) (1) ls H locs (Nat.lt_succ_self _) (by omega) (db_all0 _ _) (lv_sub hl [2, 3, 1, 0] rfl) hG

