set_option maxRecDepth 100000 in
set_option maxHeartbeats 4000000 in
theorem rf_add0 (l : Launch) (dC : Nat → ClassId) (dI : Nat → Nat → Nat) (cI cZ : ClassId) (m0 aMd aO1 aT2 aSh aMk aFa aDe aNe aBy aPi aNw aNs aBf : Nat) (ft vl rs pd rn rr : Int32) (v x y : Nat) (O1 T2 Fa : Nat → Int32) (zx ox zy oy : Int32) (sz : Nat) (hv : v < 24) (hxv : x < v) (hyv : y < v) (e1 : O1 v = nI x) (e2 : T2 v = nI y) (hfx : db_rep Fa x zx ox) (hfy : db_rep Fa y zy oy) (hax : db_ap zx ox) (hay : db_ap zy oy) : Met l yM_add wsM_add { frames := 1, cells := 0, slots := 0, locals := 24 } (va_Pc [.ref m0, .int (nI (v)), .int (0)] (dw_pre (dC, dI) vwCl [(m0, .inr (5, [.int (ft), .int (vl), .ref aMd, .ref aO1, .ref aT2, .int (rs), .ref aSh, .ref aMk, .ref aFa, .ref aDe, .ref aNe, .ref aBy, .ref aPi, .int (pd), .ref aNw, .ref aNs, .ref aBf, .int (rn), .int (rr)])), (aO1, .inl (cI, 24, .inl (O1))), (aT2, .inl (cI, 24, .inl (T2))), (aFa, .inl (cI, 768, .inl (Fa)))] [(cI, .int), (cZ, .boolean)] sz)) (va_Qv (fun (u : Nat → Int32) => db_out Fa u v ∧ db_rep u v (db_sumZ zx ox zy oy 0) (db_sumO zx ox zy oy 0)) (fun u t => dw_post (dC, dI) vwCl [(m0, .inr (5, [.int (ft), .int (vl), .ref aMd, .ref aO1, .ref aT2, .int (rs), .ref aSh, .ref aMk, .ref aFa, .ref aDe, .ref aNe, .ref aBy, .ref aPi, .int (pd), .ref aNw, .ref aNs, .ref aBf, .int (rn), .int (rr)])), (aO1, .inl (cI, 24, .inl (O1))), (aT2, .inl (cI, 24, .inl (T2))), (aFa, .inl (cI, 768, .inl (u)))] [(cI, .int), (cZ, .boolean)] (va_A [(m0, .inr (5, [.int (ft), .int (vl), .ref aMd, .ref aO1, .ref aT2, .int (rs), .ref aSh, .ref aMk, .ref aFa, .ref aDe, .ref aNe, .ref aBy, .ref aPi, .int (pd), .ref aNw, .ref aNs, .ref aBf, .int (rn), .int (rr)])), (aO1, .inl (cI, 24, .inl (O1))), (aT2, .inl (cI, 24, .inl (T2))), (aFa, .inl (cI, 768, .inl (Fa)))] sz) t) (va_A [(m0, .inr (5, [.int (ft), .int (vl), .ref aMd, .ref aO1, .ref aT2, .int (rs), .ref aSh, .ref aMk, .ref aFa, .ref aDe, .ref aNe, .ref aBy, .ref aPi, .int (pd), .ref aNw, .ref aNs, .ref aBf, .int (rn), .int (rr)])), (aO1, .inl (cI, 24, .inl (O1))), (aT2, .inl (cI, 24, .inl (T2))), (aFa, .inl (cI, 768, .inl (Fa)))] sz)) 0 0 (va_A [(m0, .inr (5, [.int (ft), .int (vl), .ref aMd, .ref aO1, .ref aT2, .int (rs), .ref aSh, .ref aMk, .ref aFa, .ref aDe, .ref aNe, .ref aBy, .ref aPi, .int (pd), .ref aNw, .ref aNs, .ref aBf, .int (rn), .int (rr)])), (aO1, .inl (cI, 24, .inl (O1))), (aT2, .inl (cI, 24, .inl (T2))), (aFa, .inl (cI, 768, .inl (Fa)))] sz) := by
  refine Met.ofW (cc := cM_add) (maxL := 7) (ret := none) (by decide) rfl ?_
  intro p e s m args below meth c s₁ B hml hv0
  have hx := B.exec
  have hb := B.bytes
  have hr := B.returns
  have hts := atoms_spec (ws := wsM_add) B.pre
  have hown : s.vm.findClass RM = some m.cls := findClass_of_methodNamed B.named
  have hlocks := B.notSynchronized
  obtain ⟨rfl, hsz, hG⟩ := dw_enter hv0
  generalize va_A [(m0, .inr (5, [.int (ft), .int (vl), .ref aMd, .ref aO1, .ref aT2, .int (rs), .ref aSh, .ref aMk, .ref aFa, .ref aDe, .ref aNe, .ref aBy, .ref aPi, .int (pd), .ref aNw, .ref aNs, .ref aBf, .int (rn), .int (rr)])), (aO1, .inl (cI, 24, .inl (O1))), (aT2, .inl (cI, 24, .inl (T2))), (aFa, .inl (cI, 768, .inl (Fa)))] sz = A at hG ⊢
  have hl := lv_entry ([.ref m0, .int (nI (v)), .int (0)]) (n := 7) (Nat.le_of_ble_eq_true rfl)
  rw [lg_entry_eq]
  generalize (lg_sl ([.ref m0, .int (nI (v)), .int (0)]) ++ List.replicate (7 - (lg_sl ([.ref m0, .int (nI (v)), .int (0)])).length) Slot.unset).toArray = ls at hl ⊢
  have hl : lv_has ls 7 [(0, .ref m0), (1, .int (nI (v))), (2, .int (0))] := hl
  have hw502 := hts _ (List.mem_cons_of_mem _ tw_502)
  have hw497 := hts _ (List.mem_cons_of_mem _ tw_497)
  have hw498 := hts _ (List.mem_cons_of_mem _ tw_498)
  refine dw_Q (fun Q hQ => ?_)
  suffices hgo : ∀ (H : Heap) (locs : List Loc), dw_G (dC, dI) vwCl [(cI, .int), (cZ, .boolean)] A s.heap s [(m0, .inr (5, [.int (ft), .int (vl), .ref aMd, .ref aO1, .ref aT2, .int (rs), .ref aSh, .ref aMk, .ref aFa, .ref aDe, .ref aNe, .ref aBy, .ref aPi, .int (pd), .ref aNw, .ref aNs, .ref aBf, .int (rn), .int (rr)])), (aO1, .inl (cI, 24, .inl (O1))), (aT2, .inl (cI, 24, .inl (T2))), (aFa, .inl (cI, 768, .inl (Fa)))] H locs → W p l e (headSpec wsM_add { frames := 1, cells := 0, slots := 0, locals := 24 }).room s m [.ref m0, .int (nI (v)), .int (0)].toArray below meth c H locs 0 0 Q (F0 m 0 ls []) from hgo _ _ hG
  clear hG
  intro H locs hG
  refine lv_iload_n hx hb dM_add_0 rfl (lv_at hl 2 rfl) ?_
  refine lv_if_eq (tgt := 8) hx hb dM_add_1 (by decide) (fun h1 => ?_) (fun h1 => ?_)
  · skip
    replace h1 := (nI_eq (a := 0) (b := 0) (by omega) (by omega)).mp h1
    refine lv_iconst (v := 0) hx hb dM_add_8 (by decide) ?_
    refine lv_istore_n (lv' := [(3, .int (0)), (0, .ref m0), (1, .int (nI (v))), (2, .int (0))]) hx hb dM_add_9 rfl hl (by decide) rfl (fun ls hl => ?_)
    refine lv_iconst (v := 0) hx hb dM_add_10 (by decide) ?_
    refine lv_istore (lv' := [(4, .int (0)), (3, .int (0)), (0, .ref m0), (1, .int (nI (v))), (2, .int (0))]) hx hb dM_add_11 hl (by decide) rfl (fun ls hl => ?_)
    have L13 : ∀ (zz : Nat) (k : Nat) (G : Nat → Int32) (ls : Array Slot) (H : Heap) (locs : List Loc), 32 - k < zz → k ≤ 32 → db_out Fa G v → db_part G v k (db_sumZ zx ox zy oy 0) (db_sumO zx ox zy oy 0) → lv_has ls 7 [(0, .ref m0), (1, .int (nI (v))), (2, .int (0)), (3, .int (db_rip zx ox zy oy false k)), (4, .int (nI (k)))] → dw_G (dC, dI) vwCl [(cI, .int), (cZ, .boolean)] A s.heap s [(m0, .inr (5, [.int (ft), .int (vl), .ref aMd, .ref aO1, .ref aT2, .int (rs), .ref aSh, .ref aMk, .ref aFa, .ref aDe, .ref aNe, .ref aBy, .ref aPi, .int (pd), .ref aNw, .ref aNs, .ref aBf, .int (rn), .int (rr)])), (aO1, .inl (cI, 24, .inl (O1))), (aT2, .inl (cI, 24, .inl (T2))), (aFa, .inl (cI, 768, .inl (G)))] H locs → W p l e (headSpec wsM_add { frames := 1, cells := 0, slots := 0, locals := 24 }).room s m [.ref m0, .int (nI (v)), .int (0)].toArray below meth c H locs 0 0 Q (F0 m 13 ls []) := by
      intro zz
      induction zz with
      | zero => intro k G ls H locs hz; exact absurd hz (Nat.not_lt_zero _)
      | succ zz L13_ih =>
        intro k G ls H locs hz hk ho hp9 hl hG
        refine lv_iload hx hb dM_add_13 (lv_at hl 4 rfl) ?_
        refine lv_bipush (v := 32) hx hb dM_add_15 (by decide) ?_
        refine lv_icmp_ge (tgt := 109) hx hb dM_add_17 (by decide) (fun h17 => ?_) (fun h17 => ?_)
        · skip
          replace h17 := (nI_leI (a := 32) (b := k) (by omega) (by omega)).mp h17
          subst hQ
          exact dw_vret hx hb hr hG (G) rfl ⟨ho, by rw [show k = 32 by omega] at hp9; exact hp9⟩ dM_add_109 hlocks
        replace h17 : ¬ 32 ≤ k := fun q => h17 ((nI_leI (a := 32) (b := k) (by omega) (by omega)).mpr q)
        refine lv_aload_n hx hb dM_add_20 rfl (lv_at hl 0 rfl) ?_
        refine dw_get hx hb hts inMc hown hG 0 8 rfl rfl (by decide) hw502 rfl rfl dM_add_21 ?_
        refine lv_bipush (v := 32) hx hb dM_add_24 (by decide) ?_
        refine lv_aload_n hx hb dM_add_26 rfl (lv_at hl 0 rfl) ?_
        refine dw_get hx hb hts inMc hown hG 0 3 rfl rfl (by decide) hw497 rfl rfl dM_add_27 ?_
        refine lv_iload_n hx hb dM_add_30 rfl (lv_at hl 1 rfl) ?_
        refine dw_ia (x := nI (x)) hx hb hG 1 0 rfl rfl (v) rfl (by omega) (by decide) e1 dM_add_31 ?_
        refine lv_imul hx hb dM_add_32 ?_
        refine lv_topi (nm_r (pk_mul (32) (x)) ?_)
        refine lv_iload hx hb dM_add_33 (lv_at hl 4 rfl) ?_
        refine lv_iadd hx hb dM_add_35 ?_
        refine lv_topi (nm_r (nI_add (32 * (x)) (k)) ?_)
        refine dw_ia (x := db_tri (bt zx k) (bt ox k)) hx hb hG 3 0 rfl rfl (32 * (x) + k) rfl (by omega) (by decide) (by rw [ho _ (by omega)]; exact hfx k (by omega)) dM_add_36 ?_
        refine lv_istore (lv' := [(5, .int (db_tri (bt zx k) (bt ox k))), (0, .ref m0), (1, .int (nI (v))), (2, .int (0)), (3, .int (db_rip zx ox zy oy false k)), (4, .int (nI (k)))]) hx hb dM_add_37 hl (by decide) rfl (fun ls hl => ?_)
        refine lv_aload_n hx hb dM_add_39 rfl (lv_at hl 1 rfl) ?_
        refine dw_get hx hb hts inMc hown hG 0 8 rfl rfl (by decide) hw502 rfl rfl dM_add_40 ?_
        refine lv_bipush (v := 32) hx hb dM_add_43 (by decide) ?_
        refine lv_aload_n hx hb dM_add_45 rfl (lv_at hl 1 rfl) ?_
        refine dw_get hx hb hts inMc hown hG 0 4 rfl rfl (by decide) hw498 rfl rfl dM_add_46 ?_
        refine lv_iload_n hx hb dM_add_49 rfl (lv_at hl 2 rfl) ?_
        refine dw_ia (x := nI (y)) hx hb hG 2 0 rfl rfl (v) rfl (by omega) (by decide) e2 dM_add_50 ?_
        refine lv_imul hx hb dM_add_51 ?_
        refine lv_topi (nm_r (pk_mul (32) (y)) ?_)
        refine lv_iload hx hb dM_add_52 (lv_at hl 5 rfl) ?_
        refine lv_iadd hx hb dM_add_54 ?_
        refine lv_topi (nm_r (nI_add (32 * (y)) (k)) ?_)
        refine dw_ia (x := db_tri (bt zy k) (bt oy k)) hx hb hG 3 0 rfl rfl (32 * (y) + k) rfl (by omega) (by decide) (by rw [ho _ (by omega)]; exact hfy k (by omega)) dM_add_55 ?_
        refine lv_istore (lv' := [(6, .int (db_tri (bt zy k) (bt oy k))), (5, .int (db_tri (bt zx k) (bt ox k))), (0, .ref m0), (1, .int (nI (v))), (2, .int (0)), (3, .int (db_rip zx ox zy oy false k)), (4, .int (nI (k)))]) hx hb dM_add_56 hl (by decide) rfl (fun ls hl => ?_)
        refine lv_iload_n hx hb dM_add_58 rfl (lv_at hl 4 rfl) ?_
        refine lv_if_eq (tgt := 70) hx hb dM_add_59 (by decide) (fun h59 => ?_) (fun h59 => ?_)
        · skip
          replace h59 := (nI_eq (a := 0) (b := 0) (by omega) (by omega)).mp h59
          refine lv_iload hx hb dM_add_70 (lv_at hl 0 rfl) ?_
          refine lv_istore (lv' := [(6, .int (db_tri (bt zy k) (bt oy k))), (5, .int (db_tri (bt zx k) (bt ox k))), (0, .ref m0), (1, .int (nI (v))), (2, .int (0)), (3, .int (db_rip zx ox zy oy false k)), (4, .int (nI (k)))]) hx hb dM_add_72 hl (by decide) rfl (fun ls hl => ?_)
          refine lv_aload_n hx hb dM_add_74 rfl (lv_at hl 2 rfl) ?_
          refine dw_get hx hb hts inMc hown hG 0 8 rfl rfl (by decide) hw502 rfl rfl dM_add_75 ?_
          refine lv_bipush (v := 32) hx hb dM_add_78 (by decide) ?_
          refine lv_iload_n hx hb dM_add_80 rfl (lv_at hl 3 rfl) ?_
          refine lv_imul hx hb dM_add_81 ?_
          refine lv_topi (nm_r (pk_mul (32) (v)) ?_)
          refine lv_iload hx hb dM_add_82 (lv_at hl 6 rfl) ?_
          refine lv_iadd hx hb dM_add_84 ?_
          refine lv_topi (nm_r (nI_add (32 * (v)) (k)) ?_)
          refine lv_iload hx hb dM_add_85 (lv_at hl 1 rfl) ?_
          refine lv_iload hx hb dM_add_87 (lv_at hl 0 rfl) ?_
          refine lv_iload_n hx hb dM_add_89 rfl (lv_at hl 5 rfl) ?_
          refine dw_calli (wc := []) (wr := [(m0, .inr (5, [.int (ft), .int (vl), .ref aMd, .ref aO1, .ref aT2, .int (rs), .ref aSh, .ref aMk, .ref aFa, .ref aDe, .ref aNe, .ref aBy, .ref aPi, .int (pd), .ref aNw, .ref aNs, .ref aBf, .int (rn), .int (rr)])), (aO1, .inl (cI, 24, .inl (O1))), (aT2, .inl (cI, 24, .inl (T2))), (aFa, .inl (cI, 768, .inl (G)))]) hG [] [0, 1, 2, 3] rfl rfl (by decide) (by decide) (va_runS (As := [.int (db_tri (bt zx k) (bt ox k)), .int (db_tri (bt zy k) (bt oy k)), .int (db_rip zx ox zy oy false k)]) (rest := [.int (nI (32 * (v) + k)), .ref aFa]) ⟨hx, hb, hml, hown, hts⟩ (rf_sum l dC dI cI cZ (db_tri (bt zx k) (bt ox k)) (db_tri (bt zy k) (bt oy k)) (db_rip zx ox zy oy false k) H.size ) (dc_S 3 hts tw_620 tw_621 tw_7 tw_622 rfl rfl (by decide +kernel) ⟨Nat.le_of_ble_eq_true rfl, Nat.le_of_ble_eq_true rfl⟩) (dw_preS hG [] [0, 1] rfl rfl (by decide) rfl) rfl rfl hl.1 rfl (lv_room (Nat.le_of_ble_eq_true rfl)) dM_add_90 ⟨Nat.le_refl _, Nat.le_refl _⟩) (fun r u H locs hp hG => ?_)
          subst hp
          have hG : dw_G (dC, dI) vwCl [(cI, .int), (cZ, .boolean)] A s.heap s [(m0, .inr (5, [.int (ft), .int (vl), .ref aMd, .ref aO1, .ref aT2, .int (rs), .ref aSh, .ref aMk, .ref aFa, .ref aDe, .ref aNe, .ref aBy, .ref aPi, .int (pd), .ref aNw, .ref aNs, .ref aBf, .int (rn), .int (rr)])), (aO1, .inl (cI, 24, .inl (O1))), (aT2, .inl (cI, 24, .inl (T2))), (aFa, .inl (cI, 768, .inl (G)))] H locs := hG
          refine dw_is (ws' := [(m0, .inr (5, [.int (ft), .int (vl), .ref aMd, .ref aO1, .ref aT2, .int (rs), .ref aSh, .ref aMk, .ref aFa, .ref aDe, .ref aNe, .ref aBy, .ref aPi, .int (pd), .ref aNw, .ref aNs, .ref aBf, .int (rn), .int (rr)])), (aO1, .inl (cI, 24, .inl (O1))), (aT2, .inl (cI, 24, .inl (T2))), (aFa, .inl (cI, 768, .inl (upd (G) (32 * (v) + k) (db_sum3 (db_tri (bt zx k) (bt ox k)) (db_tri (bt zy k) (bt oy k)) (db_rip zx ox zy oy false k)))))]) hx hb hG 3 0 rfl rfl (32 * (v) + k) rfl (by omega) (by decide) dM_add_93 rfl (fun H locs hG => ?_)
          refine lv_iload hx hb dM_add_94 (lv_at hl 1 rfl) ?_
          refine lv_iload hx hb dM_add_96 (lv_at hl 0 rfl) ?_
          refine lv_iload_n hx hb dM_add_98 rfl (lv_at hl 5 rfl) ?_
          refine dw_calli (wc := []) (wr := [(m0, .inr (5, [.int (ft), .int (vl), .ref aMd, .ref aO1, .ref aT2, .int (rs), .ref aSh, .ref aMk, .ref aFa, .ref aDe, .ref aNe, .ref aBy, .ref aPi, .int (pd), .ref aNw, .ref aNs, .ref aBf, .int (rn), .int (rr)])), (aO1, .inl (cI, 24, .inl (O1))), (aT2, .inl (cI, 24, .inl (T2))), (aFa, .inl (cI, 768, .inl (upd (G) (32 * (v) + k) (db_sum3 (db_tri (bt zx k) (bt ox k)) (db_tri (bt zy k) (bt oy k)) (db_rip zx ox zy oy false k)))))]) hG [] [0, 1, 2, 3] rfl rfl (by decide) (by decide) (va_runS (As := [.int (db_tri (bt zx k) (bt ox k)), .int (db_tri (bt zy k) (bt oy k)), .int (db_rip zx ox zy oy false k)]) (rest := []) ⟨hx, hb, hml, hown, hts⟩ (rf_carry l dC dI cI cZ (db_tri (bt zx k) (bt ox k)) (db_tri (bt zy k) (bt oy k)) (db_rip zx ox zy oy false k) H.size ) (dc_S 3 hts tw_623 tw_624 tw_7 tw_625 rfl rfl (by decide +kernel) ⟨Nat.le_of_ble_eq_true rfl, Nat.le_of_ble_eq_true rfl⟩) (dw_preS hG [] [0, 1] rfl rfl (by decide) rfl) rfl rfl hl.1 rfl (lv_room (Nat.le_of_ble_eq_true rfl)) dM_add_99 ⟨Nat.le_refl _, Nat.le_refl _⟩) (fun r u H locs hp hG => ?_)
          subst hp
          have hG : dw_G (dC, dI) vwCl [(cI, .int), (cZ, .boolean)] A s.heap s [(m0, .inr (5, [.int (ft), .int (vl), .ref aMd, .ref aO1, .ref aT2, .int (rs), .ref aSh, .ref aMk, .ref aFa, .ref aDe, .ref aNe, .ref aBy, .ref aPi, .int (pd), .ref aNw, .ref aNs, .ref aBf, .int (rn), .int (rr)])), (aO1, .inl (cI, 24, .inl (O1))), (aT2, .inl (cI, 24, .inl (T2))), (aFa, .inl (cI, 768, .inl (upd (G) (32 * (v) + k) (db_sum3 (db_tri (bt zx k) (bt ox k)) (db_tri (bt zy k) (bt oy k)) (db_rip zx ox zy oy false k)))))] H locs := hG
          refine lv_istore_n (lv' := [(3, .int (db_car3 (db_tri (bt zx k) (bt ox k)) (db_tri (bt zy k) (bt oy k)) (db_rip zx ox zy oy false k))), (6, .int (db_tri (bt zy k) (bt oy k))), (5, .int (db_tri (bt zx k) (bt ox k))), (0, .ref m0), (1, .int (nI (v))), (2, .int (0)), (4, .int (nI (k)))]) hx hb dM_add_102 rfl hl (by decide) rfl (fun ls hl => ?_)
          refine lv_iinc (v := nI (k + 1)) (lv' := [(4, .int (nI (k + 1))), (3, .int (db_car3 (db_tri (bt zx k) (bt ox k)) (db_tri (bt zy k) (bt oy k)) (db_rip zx ox zy oy false k))), (6, .int (db_tri (bt zy k) (bt oy k))), (5, .int (db_tri (bt zx k) (bt ox k))), (0, .ref m0), (1, .int (nI (v))), (2, .int (0))]) hx hb dM_add_103 hl (k := 6) rfl (dw_inc (k)) (by decide) rfl (fun ls hl => ?_)
          refine lv_goto (tgt := 13) hx hb dM_add_106 (by decide) ?_
          exact L13_ih (k + 1) (upd (G) (32 * (v) + k) (db_sum3 (db_tri (bt zx k) (bt ox k)) (db_tri (bt zy k) (bt oy k)) (db_rip zx ox zy oy false k))) ls H locs (by omega) (by omega) (db_out_upd _ ho (by omega)) (db_part_s hp9 (db_sum_bit zx ox zy oy false hax hay (by omega))) (lv_sub hl [4, 5, 6, 1, 0] rfl) hG
        replace h59 : ¬ 0 = 0 := fun q => h59 ((nI_eq (a := 0) (b := 0) (by omega) (by omega)).mpr q)
        (exfalso; omega)
    exact L13 _ (0) (Fa) ls H locs (Nat.lt_succ_self _) (by omega) (db_out_rfl _ _) (db_part0 _ _ _ _) (lv_sub hl [2, 3, 4, 1, 0] rfl) hG
  replace h1 : ¬ 0 = 0 := fun q => h1 ((nI_eq (a := 0) (b := 0) (by omega) (by omega)).mpr q)
  (exfalso; omega)

set_option maxRecDepth 100000 in
set_option maxHeartbeats 4000000 in
theorem rf_add1 (l : Launch) (dC : Nat → ClassId) (dI : Nat → Nat → Nat) (cI cZ : ClassId) (m0 aMd aO1 aT2 aSh aMk aFa aDe aNe aBy aPi aNw aNs aBf : Nat) (ft vl rs pd rn rr : Int32) (v x y : Nat) (O1 T2 Fa : Nat → Int32) (zx ox zy oy : Int32) (sz : Nat) (hv : v < 24) (hxv : x < v) (hyv : y < v) (e1 : O1 v = nI x) (e2 : T2 v = nI y) (hfx : db_rep Fa x zx ox) (hfy : db_rep Fa y zy oy) (hax : db_ap zx ox) (hay : db_ap zy oy) : Met l yM_add wsM_add { frames := 1, cells := 0, slots := 0, locals := 24 } (va_Pc [.ref m0, .int (nI (v)), .int (1)] (dw_pre (dC, dI) vwCl [(m0, .inr (5, [.int (ft), .int (vl), .ref aMd, .ref aO1, .ref aT2, .int (rs), .ref aSh, .ref aMk, .ref aFa, .ref aDe, .ref aNe, .ref aBy, .ref aPi, .int (pd), .ref aNw, .ref aNs, .ref aBf, .int (rn), .int (rr)])), (aO1, .inl (cI, 24, .inl (O1))), (aT2, .inl (cI, 24, .inl (T2))), (aFa, .inl (cI, 768, .inl (Fa)))] [(cI, .int), (cZ, .boolean)] sz)) (va_Qv (fun (u : Nat → Int32) => db_out Fa u v ∧ db_rep u v (db_sumZ zx ox oy zy 1) (db_sumO zx ox oy zy 1)) (fun u t => dw_post (dC, dI) vwCl [(m0, .inr (5, [.int (ft), .int (vl), .ref aMd, .ref aO1, .ref aT2, .int (rs), .ref aSh, .ref aMk, .ref aFa, .ref aDe, .ref aNe, .ref aBy, .ref aPi, .int (pd), .ref aNw, .ref aNs, .ref aBf, .int (rn), .int (rr)])), (aO1, .inl (cI, 24, .inl (O1))), (aT2, .inl (cI, 24, .inl (T2))), (aFa, .inl (cI, 768, .inl (u)))] [(cI, .int), (cZ, .boolean)] (va_A [(m0, .inr (5, [.int (ft), .int (vl), .ref aMd, .ref aO1, .ref aT2, .int (rs), .ref aSh, .ref aMk, .ref aFa, .ref aDe, .ref aNe, .ref aBy, .ref aPi, .int (pd), .ref aNw, .ref aNs, .ref aBf, .int (rn), .int (rr)])), (aO1, .inl (cI, 24, .inl (O1))), (aT2, .inl (cI, 24, .inl (T2))), (aFa, .inl (cI, 768, .inl (Fa)))] sz) t) (va_A [(m0, .inr (5, [.int (ft), .int (vl), .ref aMd, .ref aO1, .ref aT2, .int (rs), .ref aSh, .ref aMk, .ref aFa, .ref aDe, .ref aNe, .ref aBy, .ref aPi, .int (pd), .ref aNw, .ref aNs, .ref aBf, .int (rn), .int (rr)])), (aO1, .inl (cI, 24, .inl (O1))), (aT2, .inl (cI, 24, .inl (T2))), (aFa, .inl (cI, 768, .inl (Fa)))] sz)) 0 0 (va_A [(m0, .inr (5, [.int (ft), .int (vl), .ref aMd, .ref aO1, .ref aT2, .int (rs), .ref aSh, .ref aMk, .ref aFa, .ref aDe, .ref aNe, .ref aBy, .ref aPi, .int (pd), .ref aNw, .ref aNs, .ref aBf, .int (rn), .int (rr)])), (aO1, .inl (cI, 24, .inl (O1))), (aT2, .inl (cI, 24, .inl (T2))), (aFa, .inl (cI, 768, .inl (Fa)))] sz) := by
  refine Met.ofW (cc := cM_add) (maxL := 7) (ret := none) (by decide) rfl ?_
  intro p e s m args below meth c s₁ B hml hv0
  have hx := B.exec
  have hb := B.bytes
  have hr := B.returns
  have hts := atoms_spec (ws := wsM_add) B.pre
  have hown : s.vm.findClass RM = some m.cls := findClass_of_methodNamed B.named
  have hlocks := B.notSynchronized
  obtain ⟨rfl, hsz, hG⟩ := dw_enter hv0
  generalize va_A [(m0, .inr (5, [.int (ft), .int (vl), .ref aMd, .ref aO1, .ref aT2, .int (rs), .ref aSh, .ref aMk, .ref aFa, .ref aDe, .ref aNe, .ref aBy, .ref aPi, .int (pd), .ref aNw, .ref aNs, .ref aBf, .int (rn), .int (rr)])), (aO1, .inl (cI, 24, .inl (O1))), (aT2, .inl (cI, 24, .inl (T2))), (aFa, .inl (cI, 768, .inl (Fa)))] sz = A at hG ⊢
  have hl := lv_entry ([.ref m0, .int (nI (v)), .int (1)]) (n := 7) (Nat.le_of_ble_eq_true rfl)
  rw [lg_entry_eq]
  generalize (lg_sl ([.ref m0, .int (nI (v)), .int (1)]) ++ List.replicate (7 - (lg_sl ([.ref m0, .int (nI (v)), .int (1)])).length) Slot.unset).toArray = ls at hl ⊢
  have hl : lv_has ls 7 [(0, .ref m0), (1, .int (nI (v))), (2, .int (1))] := hl
  have hw502 := hts _ (List.mem_cons_of_mem _ tw_502)
  have hw497 := hts _ (List.mem_cons_of_mem _ tw_497)
  have hw498 := hts _ (List.mem_cons_of_mem _ tw_498)
  refine dw_Q (fun Q hQ => ?_)
  suffices hgo : ∀ (H : Heap) (locs : List Loc), dw_G (dC, dI) vwCl [(cI, .int), (cZ, .boolean)] A s.heap s [(m0, .inr (5, [.int (ft), .int (vl), .ref aMd, .ref aO1, .ref aT2, .int (rs), .ref aSh, .ref aMk, .ref aFa, .ref aDe, .ref aNe, .ref aBy, .ref aPi, .int (pd), .ref aNw, .ref aNs, .ref aBf, .int (rn), .int (rr)])), (aO1, .inl (cI, 24, .inl (O1))), (aT2, .inl (cI, 24, .inl (T2))), (aFa, .inl (cI, 768, .inl (Fa)))] H locs → W p l e (headSpec wsM_add { frames := 1, cells := 0, slots := 0, locals := 24 }).room s m [.ref m0, .int (nI (v)), .int (1)].toArray below meth c H locs 0 0 Q (F0 m 0 ls []) from hgo _ _ hG
  clear hG
  intro H locs hG
  refine lv_iload_n hx hb dM_add_0 rfl (lv_at hl 2 rfl) ?_
  refine lv_if_eq (tgt := 8) hx hb dM_add_1 (by decide) (fun h1 => ?_) (fun h1 => ?_)
  · skip
    replace h1 := (nI_eq (a := 1) (b := 0) (by omega) (by omega)).mp h1
    (exfalso; omega)
  replace h1 : ¬ 1 = 0 := fun q => h1 ((nI_eq (a := 1) (b := 0) (by omega) (by omega)).mpr q)
  refine lv_iconst (v := 1) hx hb dM_add_4 (by decide) ?_
  refine lv_goto (tgt := 9) hx hb dM_add_5 (by decide) ?_
  refine lv_istore_n (lv' := [(3, .int (1)), (0, .ref m0), (1, .int (nI (v))), (2, .int (1))]) hx hb dM_add_9 rfl hl (by decide) rfl (fun ls hl => ?_)
  refine lv_iconst (v := 0) hx hb dM_add_10 (by decide) ?_
  refine lv_istore (lv' := [(4, .int (0)), (3, .int (1)), (0, .ref m0), (1, .int (nI (v))), (2, .int (1))]) hx hb dM_add_11 hl (by decide) rfl (fun ls hl => ?_)
  have L13 : ∀ (zz : Nat) (k : Nat) (G : Nat → Int32) (ls : Array Slot) (H : Heap) (locs : List Loc), 32 - k < zz → k ≤ 32 → db_out Fa G v → db_part G v k (db_sumZ zx ox oy zy 1) (db_sumO zx ox oy zy 1) → lv_has ls 7 [(0, .ref m0), (1, .int (nI (v))), (2, .int (1)), (3, .int (db_rip zx ox oy zy true k)), (4, .int (nI (k)))] → dw_G (dC, dI) vwCl [(cI, .int), (cZ, .boolean)] A s.heap s [(m0, .inr (5, [.int (ft), .int (vl), .ref aMd, .ref aO1, .ref aT2, .int (rs), .ref aSh, .ref aMk, .ref aFa, .ref aDe, .ref aNe, .ref aBy, .ref aPi, .int (pd), .ref aNw, .ref aNs, .ref aBf, .int (rn), .int (rr)])), (aO1, .inl (cI, 24, .inl (O1))), (aT2, .inl (cI, 24, .inl (T2))), (aFa, .inl (cI, 768, .inl (G)))] H locs → W p l e (headSpec wsM_add { frames := 1, cells := 0, slots := 0, locals := 24 }).room s m [.ref m0, .int (nI (v)), .int (1)].toArray below meth c H locs 0 0 Q (F0 m 13 ls []) := by
    intro zz
    induction zz with
    | zero => intro k G ls H locs hz; exact absurd hz (Nat.not_lt_zero _)
    | succ zz L13_ih =>
      intro k G ls H locs hz hk ho hp9 hl hG
      refine lv_iload hx hb dM_add_13 (lv_at hl 4 rfl) ?_
      refine lv_bipush (v := 32) hx hb dM_add_15 (by decide) ?_
      refine lv_icmp_ge (tgt := 109) hx hb dM_add_17 (by decide) (fun h17 => ?_) (fun h17 => ?_)
      · skip
        replace h17 := (nI_leI (a := 32) (b := k) (by omega) (by omega)).mp h17
        subst hQ
        exact dw_vret hx hb hr hG (G) rfl ⟨ho, by rw [show k = 32 by omega] at hp9; exact hp9⟩ dM_add_109 hlocks
      replace h17 : ¬ 32 ≤ k := fun q => h17 ((nI_leI (a := 32) (b := k) (by omega) (by omega)).mpr q)
      refine lv_aload_n hx hb dM_add_20 rfl (lv_at hl 0 rfl) ?_
      refine dw_get hx hb hts inMc hown hG 0 8 rfl rfl (by decide) hw502 rfl rfl dM_add_21 ?_
      refine lv_bipush (v := 32) hx hb dM_add_24 (by decide) ?_
      refine lv_aload_n hx hb dM_add_26 rfl (lv_at hl 0 rfl) ?_
      refine dw_get hx hb hts inMc hown hG 0 3 rfl rfl (by decide) hw497 rfl rfl dM_add_27 ?_
      refine lv_iload_n hx hb dM_add_30 rfl (lv_at hl 1 rfl) ?_
      refine dw_ia (x := nI (x)) hx hb hG 1 0 rfl rfl (v) rfl (by omega) (by decide) e1 dM_add_31 ?_
      refine lv_imul hx hb dM_add_32 ?_
      refine lv_topi (nm_r (pk_mul (32) (x)) ?_)
      refine lv_iload hx hb dM_add_33 (lv_at hl 4 rfl) ?_
      refine lv_iadd hx hb dM_add_35 ?_
      refine lv_topi (nm_r (nI_add (32 * (x)) (k)) ?_)
      refine dw_ia (x := db_tri (bt zx k) (bt ox k)) hx hb hG 3 0 rfl rfl (32 * (x) + k) rfl (by omega) (by decide) (by rw [ho _ (by omega)]; exact hfx k (by omega)) dM_add_36 ?_
      refine lv_istore (lv' := [(5, .int (db_tri (bt zx k) (bt ox k))), (0, .ref m0), (1, .int (nI (v))), (2, .int (1)), (3, .int (db_rip zx ox oy zy true k)), (4, .int (nI (k)))]) hx hb dM_add_37 hl (by decide) rfl (fun ls hl => ?_)
      refine lv_aload_n hx hb dM_add_39 rfl (lv_at hl 1 rfl) ?_
      refine dw_get hx hb hts inMc hown hG 0 8 rfl rfl (by decide) hw502 rfl rfl dM_add_40 ?_
      refine lv_bipush (v := 32) hx hb dM_add_43 (by decide) ?_
      refine lv_aload_n hx hb dM_add_45 rfl (lv_at hl 1 rfl) ?_
      refine dw_get hx hb hts inMc hown hG 0 4 rfl rfl (by decide) hw498 rfl rfl dM_add_46 ?_
      refine lv_iload_n hx hb dM_add_49 rfl (lv_at hl 2 rfl) ?_
      refine dw_ia (x := nI (y)) hx hb hG 2 0 rfl rfl (v) rfl (by omega) (by decide) e2 dM_add_50 ?_
      refine lv_imul hx hb dM_add_51 ?_
      refine lv_topi (nm_r (pk_mul (32) (y)) ?_)
      refine lv_iload hx hb dM_add_52 (lv_at hl 5 rfl) ?_
      refine lv_iadd hx hb dM_add_54 ?_
      refine lv_topi (nm_r (nI_add (32 * (y)) (k)) ?_)
      refine dw_ia (x := db_tri (bt zy k) (bt oy k)) hx hb hG 3 0 rfl rfl (32 * (y) + k) rfl (by omega) (by decide) (by rw [ho _ (by omega)]; exact hfy k (by omega)) dM_add_55 ?_
      refine lv_istore (lv' := [(6, .int (db_tri (bt zy k) (bt oy k))), (5, .int (db_tri (bt zx k) (bt ox k))), (0, .ref m0), (1, .int (nI (v))), (2, .int (1)), (3, .int (db_rip zx ox oy zy true k)), (4, .int (nI (k)))]) hx hb dM_add_56 hl (by decide) rfl (fun ls hl => ?_)
      refine lv_iload_n hx hb dM_add_58 rfl (lv_at hl 4 rfl) ?_
      refine lv_if_eq (tgt := 70) hx hb dM_add_59 (by decide) (fun h59 => ?_) (fun h59 => ?_)
      · skip
        replace h59 := (nI_eq (a := 1) (b := 0) (by omega) (by omega)).mp h59
        (exfalso; omega)
      replace h59 : ¬ 1 = 0 := fun q => h59 ((nI_eq (a := 1) (b := 0) (by omega) (by omega)).mpr q)
      refine lv_iload hx hb dM_add_62 (lv_at hl 0 rfl) ?_
      refine dw_calli (wc := []) (wr := [(m0, .inr (5, [.int (ft), .int (vl), .ref aMd, .ref aO1, .ref aT2, .int (rs), .ref aSh, .ref aMk, .ref aFa, .ref aDe, .ref aNe, .ref aBy, .ref aPi, .int (pd), .ref aNw, .ref aNs, .ref aBf, .int (rn), .int (rr)])), (aO1, .inl (cI, 24, .inl (O1))), (aT2, .inl (cI, 24, .inl (T2))), (aFa, .inl (cI, 768, .inl (G)))]) hG [] [0, 1, 2, 3] rfl rfl (by decide) (by decide) (va_runS (As := [.int (db_tri (bt zy k) (bt oy k))]) (rest := []) ⟨hx, hb, hml, hown, hts⟩ (rf_turned l dC dI cI cZ (db_tri (bt zy k) (bt oy k)) H.size ) (dc_S 1 hts tw_617 tw_618 tw_7 tw_619 rfl rfl (by decide +kernel) ⟨Nat.le_of_ble_eq_true rfl, Nat.le_of_ble_eq_true rfl⟩) (dw_preS hG [] [0, 1] rfl rfl (by decide) rfl) rfl rfl hl.1 rfl (lv_room (Nat.le_of_ble_eq_true rfl)) dM_add_64 ⟨Nat.le_refl _, Nat.le_refl _⟩) (fun r u H locs hp hG => ?_)
      subst hp
      have hG : dw_G (dC, dI) vwCl [(cI, .int), (cZ, .boolean)] A s.heap s [(m0, .inr (5, [.int (ft), .int (vl), .ref aMd, .ref aO1, .ref aT2, .int (rs), .ref aSh, .ref aMk, .ref aFa, .ref aDe, .ref aNe, .ref aBy, .ref aPi, .int (pd), .ref aNw, .ref aNs, .ref aBf, .int (rn), .int (rr)])), (aO1, .inl (cI, 24, .inl (O1))), (aT2, .inl (cI, 24, .inl (T2))), (aFa, .inl (cI, 768, .inl (G)))] H locs := hG
      refine lv_topi (nm_r (db_turn_tri _ _ (hay k (by omega))) ?_)
      refine lv_goto (tgt := 72) hx hb dM_add_67 (by decide) ?_
      refine lv_istore (lv' := [(6, .int (db_tri (bt oy k) (bt zy k))), (5, .int (db_tri (bt zx k) (bt ox k))), (0, .ref m0), (1, .int (nI (v))), (2, .int (1)), (3, .int (db_rip zx ox oy zy true k)), (4, .int (nI (k)))]) hx hb dM_add_72 hl (by decide) rfl (fun ls hl => ?_)
      refine lv_aload_n hx hb dM_add_74 rfl (lv_at hl 2 rfl) ?_
      refine dw_get hx hb hts inMc hown hG 0 8 rfl rfl (by decide) hw502 rfl rfl dM_add_75 ?_
      refine lv_bipush (v := 32) hx hb dM_add_78 (by decide) ?_
      refine lv_iload_n hx hb dM_add_80 rfl (lv_at hl 3 rfl) ?_
      refine lv_imul hx hb dM_add_81 ?_
      refine lv_topi (nm_r (pk_mul (32) (v)) ?_)
      refine lv_iload hx hb dM_add_82 (lv_at hl 6 rfl) ?_
      refine lv_iadd hx hb dM_add_84 ?_
      refine lv_topi (nm_r (nI_add (32 * (v)) (k)) ?_)
      refine lv_iload hx hb dM_add_85 (lv_at hl 1 rfl) ?_
      refine lv_iload hx hb dM_add_87 (lv_at hl 0 rfl) ?_
      refine lv_iload_n hx hb dM_add_89 rfl (lv_at hl 5 rfl) ?_
      refine dw_calli (wc := []) (wr := [(m0, .inr (5, [.int (ft), .int (vl), .ref aMd, .ref aO1, .ref aT2, .int (rs), .ref aSh, .ref aMk, .ref aFa, .ref aDe, .ref aNe, .ref aBy, .ref aPi, .int (pd), .ref aNw, .ref aNs, .ref aBf, .int (rn), .int (rr)])), (aO1, .inl (cI, 24, .inl (O1))), (aT2, .inl (cI, 24, .inl (T2))), (aFa, .inl (cI, 768, .inl (G)))]) hG [] [0, 1, 2, 3] rfl rfl (by decide) (by decide) (va_runS (As := [.int (db_tri (bt zx k) (bt ox k)), .int (db_tri (bt oy k) (bt zy k)), .int (db_rip zx ox oy zy true k)]) (rest := [.int (nI (32 * (v) + k)), .ref aFa]) ⟨hx, hb, hml, hown, hts⟩ (rf_sum l dC dI cI cZ (db_tri (bt zx k) (bt ox k)) (db_tri (bt oy k) (bt zy k)) (db_rip zx ox oy zy true k) H.size ) (dc_S 3 hts tw_620 tw_621 tw_7 tw_622 rfl rfl (by decide +kernel) ⟨Nat.le_of_ble_eq_true rfl, Nat.le_of_ble_eq_true rfl⟩) (dw_preS hG [] [0, 1] rfl rfl (by decide) rfl) rfl rfl hl.1 rfl (lv_room (Nat.le_of_ble_eq_true rfl)) dM_add_90 ⟨Nat.le_refl _, Nat.le_refl _⟩) (fun r u H locs hp hG => ?_)
      subst hp
      have hG : dw_G (dC, dI) vwCl [(cI, .int), (cZ, .boolean)] A s.heap s [(m0, .inr (5, [.int (ft), .int (vl), .ref aMd, .ref aO1, .ref aT2, .int (rs), .ref aSh, .ref aMk, .ref aFa, .ref aDe, .ref aNe, .ref aBy, .ref aPi, .int (pd), .ref aNw, .ref aNs, .ref aBf, .int (rn), .int (rr)])), (aO1, .inl (cI, 24, .inl (O1))), (aT2, .inl (cI, 24, .inl (T2))), (aFa, .inl (cI, 768, .inl (G)))] H locs := hG
      refine dw_is (ws' := [(m0, .inr (5, [.int (ft), .int (vl), .ref aMd, .ref aO1, .ref aT2, .int (rs), .ref aSh, .ref aMk, .ref aFa, .ref aDe, .ref aNe, .ref aBy, .ref aPi, .int (pd), .ref aNw, .ref aNs, .ref aBf, .int (rn), .int (rr)])), (aO1, .inl (cI, 24, .inl (O1))), (aT2, .inl (cI, 24, .inl (T2))), (aFa, .inl (cI, 768, .inl (upd (G) (32 * (v) + k) (db_sum3 (db_tri (bt zx k) (bt ox k)) (db_tri (bt oy k) (bt zy k)) (db_rip zx ox oy zy true k)))))]) hx hb hG 3 0 rfl rfl (32 * (v) + k) rfl (by omega) (by decide) dM_add_93 rfl (fun H locs hG => ?_)
      refine lv_iload hx hb dM_add_94 (lv_at hl 1 rfl) ?_
      refine lv_iload hx hb dM_add_96 (lv_at hl 0 rfl) ?_
      refine lv_iload_n hx hb dM_add_98 rfl (lv_at hl 5 rfl) ?_
      refine dw_calli (wc := []) (wr := [(m0, .inr (5, [.int (ft), .int (vl), .ref aMd, .ref aO1, .ref aT2, .int (rs), .ref aSh, .ref aMk, .ref aFa, .ref aDe, .ref aNe, .ref aBy, .ref aPi, .int (pd), .ref aNw, .ref aNs, .ref aBf, .int (rn), .int (rr)])), (aO1, .inl (cI, 24, .inl (O1))), (aT2, .inl (cI, 24, .inl (T2))), (aFa, .inl (cI, 768, .inl (upd (G) (32 * (v) + k) (db_sum3 (db_tri (bt zx k) (bt ox k)) (db_tri (bt oy k) (bt zy k)) (db_rip zx ox oy zy true k)))))]) hG [] [0, 1, 2, 3] rfl rfl (by decide) (by decide) (va_runS (As := [.int (db_tri (bt zx k) (bt ox k)), .int (db_tri (bt oy k) (bt zy k)), .int (db_rip zx ox oy zy true k)]) (rest := []) ⟨hx, hb, hml, hown, hts⟩ (rf_carry l dC dI cI cZ (db_tri (bt zx k) (bt ox k)) (db_tri (bt oy k) (bt zy k)) (db_rip zx ox oy zy true k) H.size ) (dc_S 3 hts tw_623 tw_624 tw_7 tw_625 rfl rfl (by decide +kernel) ⟨Nat.le_of_ble_eq_true rfl, Nat.le_of_ble_eq_true rfl⟩) (dw_preS hG [] [0, 1] rfl rfl (by decide) rfl) rfl rfl hl.1 rfl (lv_room (Nat.le_of_ble_eq_true rfl)) dM_add_99 ⟨Nat.le_refl _, Nat.le_refl _⟩) (fun r u H locs hp hG => ?_)
      subst hp
      have hG : dw_G (dC, dI) vwCl [(cI, .int), (cZ, .boolean)] A s.heap s [(m0, .inr (5, [.int (ft), .int (vl), .ref aMd, .ref aO1, .ref aT2, .int (rs), .ref aSh, .ref aMk, .ref aFa, .ref aDe, .ref aNe, .ref aBy, .ref aPi, .int (pd), .ref aNw, .ref aNs, .ref aBf, .int (rn), .int (rr)])), (aO1, .inl (cI, 24, .inl (O1))), (aT2, .inl (cI, 24, .inl (T2))), (aFa, .inl (cI, 768, .inl (upd (G) (32 * (v) + k) (db_sum3 (db_tri (bt zx k) (bt ox k)) (db_tri (bt oy k) (bt zy k)) (db_rip zx ox oy zy true k)))))] H locs := hG
      refine lv_istore_n (lv' := [(3, .int (db_car3 (db_tri (bt zx k) (bt ox k)) (db_tri (bt oy k) (bt zy k)) (db_rip zx ox oy zy true k))), (6, .int (db_tri (bt oy k) (bt zy k))), (5, .int (db_tri (bt zx k) (bt ox k))), (0, .ref m0), (1, .int (nI (v))), (2, .int (1)), (4, .int (nI (k)))]) hx hb dM_add_102 rfl hl (by decide) rfl (fun ls hl => ?_)
      refine lv_iinc (v := nI (k + 1)) (lv' := [(4, .int (nI (k + 1))), (3, .int (db_car3 (db_tri (bt zx k) (bt ox k)) (db_tri (bt oy k) (bt zy k)) (db_rip zx ox oy zy true k))), (6, .int (db_tri (bt oy k) (bt zy k))), (5, .int (db_tri (bt zx k) (bt ox k))), (0, .ref m0), (1, .int (nI (v))), (2, .int (1))]) hx hb dM_add_103 hl (k := 6) rfl (dw_inc (k)) (by decide) rfl (fun ls hl => ?_)
      refine lv_goto (tgt := 13) hx hb dM_add_106 (by decide) ?_
      exact L13_ih (k + 1) (upd (G) (32 * (v) + k) (db_sum3 (db_tri (bt zx k) (bt ox k)) (db_tri (bt oy k) (bt zy k)) (db_rip zx ox oy zy true k))) ls H locs (by omega) (by omega) (db_out_upd _ ho (by omega)) (db_part_s hp9 (db_sum_bit zx ox oy zy true hax (db_ap_swap hay) (by omega))) (lv_sub hl [4, 5, 6, 1, 0] rfl) hG
  exact L13 _ (0) (Fa) ls H locs (Nat.lt_succ_self _) (by omega) (db_out_rfl _ _) (db_part0 _ _ _ _) (lv_sub hl [2, 3, 4, 1, 0] rfl) hG

