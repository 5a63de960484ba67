set_option maxRecDepth 100000 in
set_option maxHeartbeats 4000000 in
theorem rf_rep0 (l : Launch) (dC : Nat → ClassId) (dI : Nat → Nat → Nat) (cI cZ : ClassId) (m0 aMd aO1 aT2 aSh aMk aFa aDe aNe aBy aPi aNw aNs aBf : Nat) (ft vl rs pd rn rr : Int32) (v x y ky : Nat) (Md O1 T2 Fa De : Nat → Int32) (c9 d z o : Int32) (sz : Nat) (hv : v < 24) (em : Md v = nI 0) (hd : db_set De v d) (hf : db_rep Fa v z o) (e1 : O1 v = nI x) (hy9 : y < 24) (e2 : T2 v = nI y) (hky13 : ky ≤ 13) (emy : Md y = nI (db_rk ky)) (ecy : ky = 10 → O1 y = c9) : Met l yM_replacement wsM_replacement { frames := 2, cells := 0, slots := 0, locals := 60 } (va_Pc [.ref m0, .int (nI (v))] (dw_pre (dC, dI) vwCl [(m0, .inr (5, [.int (ft), .int (vl), .ref aMd, .ref aO1, .ref aT2, .int (rs), .ref aSh, .ref aMk, .ref aFa, .ref aDe, .ref aNe, .ref aBy, .ref aPi, .int (pd), .ref aNw, .ref aNs, .ref aBf, .int (rn), .int (rr)])), (aMd, .inl (cI, 24, .inl (Md))), (aO1, .inl (cI, 24, .inl (O1))), (aT2, .inl (cI, 24, .inl (T2))), (aFa, .inl (cI, 768, .inl (Fa))), (aDe, .inl (cZ, 768, .inl (De)))] [(cI, .int), (cZ, .boolean)] sz)) (va_Qi (fun (r : Int32) (u : Unit) => r = db_Bv 0 x ky c9 d z o) (fun u t => dw_post (dC, dI) vwCl [(m0, .inr (5, [.int (ft), .int (vl), .ref aMd, .ref aO1, .ref aT2, .int (rs), .ref aSh, .ref aMk, .ref aFa, .ref aDe, .ref aNe, .ref aBy, .ref aPi, .int (pd), .ref aNw, .ref aNs, .ref aBf, .int (rn), .int (rr)])), (aMd, .inl (cI, 24, .inl (Md))), (aO1, .inl (cI, 24, .inl (O1))), (aT2, .inl (cI, 24, .inl (T2))), (aFa, .inl (cI, 768, .inl (Fa))), (aDe, .inl (cZ, 768, .inl (De)))] [(cI, .int), (cZ, .boolean)] (va_A [(m0, .inr (5, [.int (ft), .int (vl), .ref aMd, .ref aO1, .ref aT2, .int (rs), .ref aSh, .ref aMk, .ref aFa, .ref aDe, .ref aNe, .ref aBy, .ref aPi, .int (pd), .ref aNw, .ref aNs, .ref aBf, .int (rn), .int (rr)])), (aMd, .inl (cI, 24, .inl (Md))), (aO1, .inl (cI, 24, .inl (O1))), (aT2, .inl (cI, 24, .inl (T2))), (aFa, .inl (cI, 768, .inl (Fa))), (aDe, .inl (cZ, 768, .inl (De)))] sz) t) (va_A [(m0, .inr (5, [.int (ft), .int (vl), .ref aMd, .ref aO1, .ref aT2, .int (rs), .ref aSh, .ref aMk, .ref aFa, .ref aDe, .ref aNe, .ref aBy, .ref aPi, .int (pd), .ref aNw, .ref aNs, .ref aBf, .int (rn), .int (rr)])), (aMd, .inl (cI, 24, .inl (Md))), (aO1, .inl (cI, 24, .inl (O1))), (aT2, .inl (cI, 24, .inl (T2))), (aFa, .inl (cI, 768, .inl (Fa))), (aDe, .inl (cZ, 768, .inl (De)))] sz)) 0 0 (va_A [(m0, .inr (5, [.int (ft), .int (vl), .ref aMd, .ref aO1, .ref aT2, .int (rs), .ref aSh, .ref aMk, .ref aFa, .ref aDe, .ref aNe, .ref aBy, .ref aPi, .int (pd), .ref aNw, .ref aNs, .ref aBf, .int (rn), .int (rr)])), (aMd, .inl (cI, 24, .inl (Md))), (aO1, .inl (cI, 24, .inl (O1))), (aT2, .inl (cI, 24, .inl (T2))), (aFa, .inl (cI, 768, .inl (Fa))), (aDe, .inl (cZ, 768, .inl (De)))] sz) := by
  refine Met.ofW (cc := cM_replacement) (maxL := 4) (ret := (some .int)) (by decide) rfl ?_
  intro p e s m args below meth c s₁ B hml hv0
  have hx := B.exec
  have hb := B.bytes
  have hr := B.returns
  have hts := atoms_spec (ws := wsM_replacement) B.pre
  have hown : s.vm.findClass RM = some m.cls := findClass_of_methodNamed B.named
  have hlocks := B.notSynchronized
  obtain ⟨rfl, hsz, hG⟩ := dw_enter hv0
  generalize va_A [(m0, .inr (5, [.int (ft), .int (vl), .ref aMd, .ref aO1, .ref aT2, .int (rs), .ref aSh, .ref aMk, .ref aFa, .ref aDe, .ref aNe, .ref aBy, .ref aPi, .int (pd), .ref aNw, .ref aNs, .ref aBf, .int (rn), .int (rr)])), (aMd, .inl (cI, 24, .inl (Md))), (aO1, .inl (cI, 24, .inl (O1))), (aT2, .inl (cI, 24, .inl (T2))), (aFa, .inl (cI, 768, .inl (Fa))), (aDe, .inl (cZ, 768, .inl (De)))] sz = A at hG ⊢
  have hl := lv_entry ([.ref m0, .int (nI (v))]) (n := 4) (Nat.le_of_ble_eq_true rfl)
  rw [lg_entry_eq]
  generalize (lg_sl ([.ref m0, .int (nI (v))]) ++ List.replicate (4 - (lg_sl ([.ref m0, .int (nI (v))])).length) Slot.unset).toArray = ls at hl ⊢
  have hl : lv_has ls 4 [(0, .ref m0), (1, .int (nI (v)))] := hl
  have hw496 := hts _ (List.mem_cons_of_mem _ tw_496)
  have hw498 := hts _ (List.mem_cons_of_mem _ tw_498)
  have hw497 := hts _ (List.mem_cons_of_mem _ tw_497)
  have hrky := db_rk_le hky13
  refine dw_Q (fun Q hQ => ?_)
  suffices hgo : ∀ (H : Heap) (locs : List Loc), dw_G (dC, dI) vwCl [(cI, .int), (cZ, .boolean)] A s.heap s [(m0, .inr (5, [.int (ft), .int (vl), .ref aMd, .ref aO1, .ref aT2, .int (rs), .ref aSh, .ref aMk, .ref aFa, .ref aDe, .ref aNe, .ref aBy, .ref aPi, .int (pd), .ref aNw, .ref aNs, .ref aBf, .int (rn), .int (rr)])), (aMd, .inl (cI, 24, .inl (Md))), (aO1, .inl (cI, 24, .inl (O1))), (aT2, .inl (cI, 24, .inl (T2))), (aFa, .inl (cI, 768, .inl (Fa))), (aDe, .inl (cZ, 768, .inl (De)))] H locs → W p l e (headSpec wsM_replacement { frames := 2, cells := 0, slots := 0, locals := 60 }).room s m [.ref m0, .int (nI (v))].toArray below meth c H locs 0 0 Q (F0 m 0 ls []) from hgo _ _ hG
  clear hG
  intro H locs hG
  refine lv_aload_n hx hb dM_replacement_0 rfl (lv_at hl 0 rfl) ?_
  refine dw_get hx hb hts inMc hown hG 0 2 rfl rfl (by decide) hw496 rfl rfl dM_replacement_1 ?_
  refine lv_iload_n hx hb dM_replacement_4 rfl (lv_at hl 1 rfl) ?_
  refine dw_ia (x := 0) hx hb hG 1 0 rfl rfl (v) rfl (by omega) (by decide) em dM_replacement_5 ?_
  refine lv_bipush (v := 13) hx hb dM_replacement_6 (by decide) ?_
  refine lv_icmp_ne (tgt := 13) hx hb dM_replacement_8 (by decide) (fun h8 => ?_) (fun h8 => ?_)
  · skip
    replace h8 : ¬ 0 = 13 := fun hq0 => h8 ((nI_eq (a := 0) (b := 13) (by omega) (by omega)).mpr hq0)
    refine lv_aload_n hx hb dM_replacement_13 rfl (lv_at hl 0 rfl) ?_
    refine lv_iload_n hx hb dM_replacement_14 rfl (lv_at hl 1 rfl) ?_
    refine dw_calli (wc := [(m0, .inr (5, [.int (ft), .int (vl), .ref aMd, .ref aO1, .ref aT2, .int (rs), .ref aSh, .ref aMk, .ref aFa, .ref aDe, .ref aNe, .ref aBy, .ref aPi, .int (pd), .ref aNw, .ref aNs, .ref aBf, .int (rn), .int (rr)])), (aFa, .inl (cI, 768, .inl (Fa))), (aDe, .inl (cZ, 768, .inl (De)))]) (wr := [(aMd, .inl (cI, 24, .inl (Md))), (aO1, .inl (cI, 24, .inl (O1))), (aT2, .inl (cI, 24, .inl (T2)))]) hG [0, 4, 5] [1, 2, 3] rfl rfl (by decide) (by decide) (va_runV (As := [.int (nI (v))]) (rest := []) ⟨hx, hb, hml, hown, hts⟩ (rf_isKnown l dC dI cI cZ m0 aMd aO1 aT2 aSh aMk aFa aDe aNe aBy aPi aNw aNs aBf ft vl rs pd rn rr v Fa De d z o H.size hv hd hf) (dc_V 1 hts tw_664 tw_666 tp_M_isKnown tw_7 tw_667 rfl rfl (by decide +kernel) ⟨Nat.le_of_ble_eq_true rfl, Nat.le_of_ble_eq_true rfl⟩) (dw_preV (ci := 5) hG [0, 4, 5] [0, 1] rfl rfl (by decide) rfl rfl (q0 := 0) rfl) rfl rfl hl.1 rfl (lv_room (Nat.le_of_ble_eq_true rfl)) dM_replacement_15 ⟨Nat.le_refl _, Nat.le_refl _⟩) (fun r u H locs hp hG => ?_)
    subst hp
    have hG : dw_G (dC, dI) vwCl [(cI, .int), (cZ, .boolean)] A s.heap s [(aMd, .inl (cI, 24, .inl (Md))), (aO1, .inl (cI, 24, .inl (O1))), (aT2, .inl (cI, 24, .inl (T2))), (m0, .inr (5, [.int (ft), .int (vl), .ref aMd, .ref aO1, .ref aT2, .int (rs), .ref aSh, .ref aMk, .ref aFa, .ref aDe, .ref aNe, .ref aBy, .ref aPi, .int (pd), .ref aNw, .ref aNs, .ref aBf, .int (rn), .int (rr)])), (aFa, .inl (cI, 768, .inl (Fa))), (aDe, .inl (cZ, 768, .inl (De)))] H locs := hG
    rcases Decidable.em (d &&& ((z ||| o) ^^^ (-1)) = 0) with hkn | hkn
    · skip
      refine lv_topi (nm_r (show (if d &&& ((z ||| o) ^^^ (-1)) = 0 then 1 else 0 : Int32) = 1 from (if_pos hkn)) ?_)
      refine lv_if_eq (tgt := 24) hx hb dM_replacement_18 (by decide) (fun h18 => ?_) (fun h18 => ?_)
      · skip
        replace h18 := (nI_eq (a := 1) (b := 0) (by omega) (by omega)).mp h18
        (exfalso; omega)
      replace h18 : ¬ 1 = 0 := fun hq0 => h18 ((nI_eq (a := 1) (b := 0) (by omega) (by omega)).mpr hq0)
      refine lv_bipush (v := -2) hx hb dM_replacement_21 (by decide) ?_
      subst hQ
      exact dw_iret hx hb hr (dw_perm hG [3, 0, 1, 2, 4, 5] (by decide) rfl rfl) (()) rfl (by unfold db_Bv; rw [if_neg (by decide), if_pos hkn]) dM_replacement_23 hlocks
    refine lv_topi (nm_r (show (if d &&& ((z ||| o) ^^^ (-1)) = 0 then 1 else 0 : Int32) = 0 from (if_neg hkn)) ?_)
    refine lv_if_eq (tgt := 24) hx hb dM_replacement_18 (by decide) (fun h18 => ?_) (fun h18 => ?_)
    · skip
      replace h18 := (nI_eq (a := 0) (b := 0) (by omega) (by omega)).mp h18
      refine lv_iconst (v := 0) hx hb dM_replacement_24 (by decide) ?_
      refine lv_istore_n (lv' := [(2, .int (0)), (0, .ref m0), (1, .int (nI (v)))]) hx hb dM_replacement_25 rfl hl (by decide) rfl (fun ls hl => ?_)
      refine lv_aload_n hx hb dM_replacement_26 rfl (lv_at hl 1 rfl) ?_
      refine dw_get hx hb hts inMc hown hG 3 2 rfl rfl (by decide) hw496 rfl rfl dM_replacement_27 ?_
      refine lv_iload_n hx hb dM_replacement_30 rfl (lv_at hl 2 rfl) ?_
      refine dw_ia (x := 0) hx hb hG 0 0 rfl rfl (v) rfl (by omega) (by decide) em dM_replacement_31 ?_
      refine lv_iconst (v := 5) hx hb dM_replacement_32 (by decide) ?_
      refine lv_icmp_gt (tgt := 133) hx hb dM_replacement_33 (by decide) (fun h33 => ?_) (fun h33 => ?_)
      · skip
        replace h33 := (nI_ltI (a := 5) (b := 0) (by omega) (by omega)).mp h33
        (exfalso; omega)
      replace h33 : ¬ 5 < 0 := fun hq0 => h33 ((nI_ltI (a := 5) (b := 0) (by omega) (by omega)).mpr hq0)
      refine lv_aload_n hx hb dM_replacement_36 rfl (lv_at hl 1 rfl) ?_
      refine dw_get hx hb hts inMc hown hG 3 2 rfl rfl (by decide) hw496 rfl rfl dM_replacement_37 ?_
      refine lv_aload_n hx hb dM_replacement_40 rfl (lv_at hl 1 rfl) ?_
      refine dw_get hx hb hts inMc hown hG 3 4 rfl rfl (by decide) hw498 rfl rfl dM_replacement_41 ?_
      refine lv_iload_n hx hb dM_replacement_44 rfl (lv_at hl 2 rfl) ?_
      refine dw_ia (x := nI (y)) hx hb hG 2 0 rfl rfl (v) rfl (by omega) (by decide) e2 dM_replacement_45 ?_
      refine dw_ia (x := nI (db_rk ky)) hx hb hG 0 0 rfl rfl (y) rfl (by omega) (by decide) emy dM_replacement_46 ?_
      refine lv_bipush (v := 13) hx hb dM_replacement_47 (by decide) ?_
      refine lv_icmp_ne (tgt := 133) hx hb dM_replacement_49 (by decide) (fun h49 => ?_) (fun h49 => ?_)
      · skip
        replace h49 : ¬ db_rk ky = 13 := fun hq0 => h49 ((nI_eq (a := db_rk ky) (b := 13) (by omega) (by omega)).mpr hq0)
        refine lv_iload_n hx hb dM_replacement_133 rfl (lv_at hl 0 rfl) ?_
        refine lv_if_ne (tgt := 179) hx hb dM_replacement_134 (by decide) (fun h134 => ?_) (fun h134 => ?_)
        · skip
          replace h134 : ¬ 0 = 0 := fun hq0 => h134 ((nI_eq (a := 0) (b := 0) (by omega) (by omega)).mpr hq0)
          (exfalso; omega)
        replace h134 := (nI_eq (a := 0) (b := 0) (by omega) (by omega)).mp h134
        refine lv_aload_n hx hb dM_replacement_137 rfl (lv_at hl 1 rfl) ?_
        refine dw_get hx hb hts inMc hown hG 3 2 rfl rfl (by decide) hw496 rfl rfl dM_replacement_138 ?_
        refine lv_iload_n hx hb dM_replacement_141 rfl (lv_at hl 2 rfl) ?_
        refine dw_ia (x := 0) hx hb hG 0 0 rfl rfl (v) rfl (by omega) (by decide) em dM_replacement_142 ?_
        refine lv_bipush (v := 9) hx hb dM_replacement_143 (by decide) ?_
        refine lv_icmp_ne (tgt := 158) hx hb dM_replacement_145 (by decide) (fun h145 => ?_) (fun h145 => ?_)
        · skip
          replace h145 : ¬ 0 = 9 := fun hq0 => h145 ((nI_eq (a := 0) (b := 9) (by omega) (by omega)).mpr hq0)
          refine lv_aload_n hx hb dM_replacement_158 rfl (lv_at hl 1 rfl) ?_
          refine dw_get hx hb hts inMc hown hG 3 2 rfl rfl (by decide) hw496 rfl rfl dM_replacement_159 ?_
          refine lv_iload_n hx hb dM_replacement_162 rfl (lv_at hl 2 rfl) ?_
          refine dw_ia (x := 0) hx hb hG 0 0 rfl rfl (v) rfl (by omega) (by decide) em dM_replacement_163 ?_
          refine lv_bipush (v := 10) hx hb dM_replacement_164 (by decide) ?_
          refine lv_icmp_ne (tgt := 183) hx hb dM_replacement_166 (by decide) (fun h166 => ?_) (fun h166 => ?_)
          · skip
            replace h166 : ¬ 0 = 10 := fun hq0 => h166 ((nI_eq (a := 0) (b := 10) (by omega) (by omega)).mpr hq0)
            refine lv_iconst (v := 0) hx hb dM_replacement_183 (by decide) ?_
            refine lv_istore_n (lv' := [(2, .int (0)), (0, .ref m0), (1, .int (nI (v)))]) hx hb dM_replacement_184 rfl hl (by decide) rfl (fun ls hl => ?_)
            refine lv_iload_n hx hb dM_replacement_185 rfl (lv_at hl 0 rfl) ?_
            refine lv_if_eq (tgt := 198) hx hb dM_replacement_186 (by decide) (fun h186 => ?_) (fun h186 => ?_)
            · skip
              replace h186 := (nI_eq (a := 0) (b := 0) (by omega) (by omega)).mp h186
              refine lv_iconst (v := -1) hx hb dM_replacement_198 (by decide) ?_
              subst hQ
              exact dw_iret hx hb hr (dw_perm hG [3, 0, 1, 2, 4, 5] (by decide) rfl rfl) (()) rfl (by unfold db_Bv; rw [if_neg (by decide), if_neg hkn]; exact (if_neg (by show ¬ (decide (ky = 10) && decide (db_upto d &&& c9 = 0)) = true; rw [decide_eq_false (fun q => h49 ((db_rk10 hky13).mpr q)), Bool.false_and]; decide)).symm) dM_replacement_199 hlocks
            replace h186 : ¬ 0 = 0 := fun hq0 => h186 ((nI_eq (a := 0) (b := 0) (by omega) (by omega)).mpr hq0)
            (exfalso; omega)
          replace h166 := (nI_eq (a := 0) (b := 10) (by omega) (by omega)).mp h166
          (exfalso; omega)
        replace h145 := (nI_eq (a := 0) (b := 9) (by omega) (by omega)).mp h145
        (exfalso; omega)
      replace h49 := (nI_eq (a := db_rk ky) (b := 13) (by omega) (by omega)).mp h49
      have hky : ky = 10 := (db_rk10 hky13).mp h49
      refine lv_aload_n hx hb dM_replacement_52 rfl (lv_at hl 1 rfl) ?_
      refine dw_get hx hb hts inMc hown hG 3 3 rfl rfl (by decide) hw497 rfl rfl dM_replacement_53 ?_
      refine lv_aload_n hx hb dM_replacement_56 rfl (lv_at hl 1 rfl) ?_
      refine dw_get hx hb hts inMc hown hG 3 4 rfl rfl (by decide) hw498 rfl rfl dM_replacement_57 ?_
      refine lv_iload_n hx hb dM_replacement_60 rfl (lv_at hl 2 rfl) ?_
      refine dw_ia (x := nI (y)) hx hb hG 2 0 rfl rfl (v) rfl (by omega) (by decide) e2 dM_replacement_61 ?_
      refine dw_ia (x := c9) hx hb hG 1 0 rfl rfl (y) rfl (by omega) (by decide) (ecy hky) dM_replacement_62 ?_
      refine lv_istore_n (lv' := [(3, .int (c9)), (2, .int (0)), (0, .ref m0), (1, .int (nI (v)))]) hx hb dM_replacement_63 rfl hl (by decide) rfl (fun ls hl => ?_)
      refine lv_aload_n hx hb dM_replacement_64 rfl (lv_at hl 2 rfl) ?_
      refine dw_get hx hb hts inMc hown hG 3 2 rfl rfl (by decide) hw496 rfl rfl dM_replacement_65 ?_
      refine lv_iload_n hx hb dM_replacement_68 rfl (lv_at hl 3 rfl) ?_
      refine dw_ia (x := 0) hx hb hG 0 0 rfl rfl (v) rfl (by omega) (by decide) em dM_replacement_69 ?_
      refine lv_iconst (v := 3) hx hb dM_replacement_70 (by decide) ?_
      refine lv_icmp_ne (tgt := 85) hx hb dM_replacement_71 (by decide) (fun h71 => ?_) (fun h71 => ?_)
      · skip
        replace h71 : ¬ 0 = 3 := fun hq0 => h71 ((nI_eq (a := 0) (b := 3) (by omega) (by omega)).mpr hq0)
        refine lv_aload_n hx hb dM_replacement_85 rfl (lv_at hl 2 rfl) ?_
        refine dw_get hx hb hts inMc hown hG 3 2 rfl rfl (by decide) hw496 rfl rfl dM_replacement_86 ?_
        refine lv_iload_n hx hb dM_replacement_89 rfl (lv_at hl 3 rfl) ?_
        refine dw_ia (x := 0) hx hb hG 0 0 rfl rfl (v) rfl (by omega) (by decide) em dM_replacement_90 ?_
        refine lv_iconst (v := 4) hx hb dM_replacement_91 (by decide) ?_
        refine lv_icmp_ne (tgt := 106) hx hb dM_replacement_92 (by decide) (fun h92 => ?_) (fun h92 => ?_)
        · skip
          replace h92 : ¬ 0 = 4 := fun hq0 => h92 ((nI_eq (a := 0) (b := 4) (by omega) (by omega)).mpr hq0)
          refine lv_aload_n hx hb dM_replacement_106 rfl (lv_at hl 2 rfl) ?_
          refine dw_get hx hb hts inMc hown hG 3 2 rfl rfl (by decide) hw496 rfl rfl dM_replacement_107 ?_
          refine lv_iload_n hx hb dM_replacement_110 rfl (lv_at hl 3 rfl) ?_
          refine dw_ia (x := 0) hx hb hG 0 0 rfl rfl (v) rfl (by omega) (by decide) em dM_replacement_111 ?_
          refine lv_iconst (v := 2) hx hb dM_replacement_112 (by decide) ?_
          refine lv_icmp_eq (tgt := 131) hx hb dM_replacement_113 (by decide) (fun h113 => ?_) (fun h113 => ?_)
          · skip
            replace h113 := (nI_eq (a := 0) (b := 2) (by omega) (by omega)).mp h113
            (exfalso; omega)
          replace h113 : ¬ 0 = 2 := fun hq0 => h113 ((nI_eq (a := 0) (b := 2) (by omega) (by omega)).mpr hq0)
          refine lv_aload_n hx hb dM_replacement_116 rfl (lv_at hl 2 rfl) ?_
          refine lv_iload_n hx hb dM_replacement_117 rfl (lv_at hl 3 rfl) ?_
          refine lv_iload_n hx hb dM_replacement_118 rfl (lv_at hl 0 rfl) ?_
          refine lv_iconst (v := 0) hx hb dM_replacement_119 (by decide) ?_
          refine lv_iconst (v := 1) hx hb dM_replacement_120 (by decide) ?_
          refine dw_calli (wc := [(m0, .inr (5, [.int (ft), .int (vl), .ref aMd, .ref aO1, .ref aT2, .int (rs), .ref aSh, .ref aMk, .ref aFa, .ref aDe, .ref aNe, .ref aBy, .ref aPi, .int (pd), .ref aNw, .ref aNs, .ref aBf, .int (rn), .int (rr)])), (aDe, .inl (cZ, 768, .inl (De)))]) (wr := [(aMd, .inl (cI, 24, .inl (Md))), (aO1, .inl (cI, 24, .inl (O1))), (aT2, .inl (cI, 24, .inl (T2))), (aFa, .inl (cI, 768, .inl (Fa)))]) hG [3, 5] [0, 1, 2, 4] rfl rfl (by decide) (by decide) (va_runV (As := [.int (nI (v)), .int (c9), .int (0), .int (1)]) (rest := []) ⟨hx, hb, hml, hown, hts⟩ (rf_areIn01 l dC dI cI cZ m0 aMd aO1 aT2 aSh aMk aFa aDe aNe aBy aPi aNw aNs aBf ft vl rs pd rn rr v De c9 d H.size hv hd) (dc_V 4 hts tw_668 tw_670 tp_M_areIn tw_7 tw_671 rfl rfl (by decide +kernel) ⟨Nat.le_of_ble_eq_true rfl, Nat.le_of_ble_eq_true rfl⟩) (dw_preV (ci := 5) hG [3, 5] [0, 1] rfl rfl (by decide) rfl rfl (q0 := 3) rfl) rfl rfl hl.1 rfl (lv_room (Nat.le_of_ble_eq_true rfl)) dM_replacement_121 ⟨Nat.le_refl _, Nat.le_refl _⟩) (fun r u H locs hp hG => ?_)
          subst hp
          have hG : dw_G (dC, dI) vwCl [(cI, .int), (cZ, .boolean)] A s.heap s [(aMd, .inl (cI, 24, .inl (Md))), (aO1, .inl (cI, 24, .inl (O1))), (aT2, .inl (cI, 24, .inl (T2))), (aFa, .inl (cI, 768, .inl (Fa))), (m0, .inr (5, [.int (ft), .int (vl), .ref aMd, .ref aO1, .ref aT2, .int (rs), .ref aSh, .ref aMk, .ref aFa, .ref aDe, .ref aNe, .ref aBy, .ref aPi, .int (pd), .ref aNw, .ref aNs, .ref aBf, .int (rn), .int (rr)])), (aDe, .inl (cZ, 768, .inl (De)))] H locs := hG
          rcases Decidable.em (db_upto d &&& c9 = 0) with hc | hc
          · skip
            refine lv_topi (nm_r (show (if db_upto d &&& c9 = 0 then 1 else 0 : Int32) = 1 from (if_pos hc)) ?_)
            refine lv_if_eq (tgt := 131) hx hb dM_replacement_124 (by decide) (fun h124 => ?_) (fun h124 => ?_)
            · skip
              replace h124 := (nI_eq (a := 1) (b := 0) (by omega) (by omega)).mp h124
              (exfalso; omega)
            replace h124 : ¬ 1 = 0 := fun hq0 => h124 ((nI_eq (a := 1) (b := 0) (by omega) (by omega)).mpr hq0)
            refine lv_iconst (v := 1) hx hb dM_replacement_127 (by decide) ?_
            refine lv_goto (tgt := 132) hx hb dM_replacement_128 (by decide) ?_
            refine lv_istore_n (lv' := [(2, .int (1)), (3, .int (c9)), (0, .ref m0), (1, .int (nI (v)))]) hx hb dM_replacement_132 rfl hl (by decide) rfl (fun ls hl => ?_)
            refine lv_iload_n hx hb dM_replacement_133 rfl (lv_at hl 0 rfl) ?_
            refine lv_if_ne (tgt := 179) hx hb dM_replacement_134 (by decide) (fun h134 => ?_) (fun h134 => ?_)
            · skip
              replace h134 : ¬ 1 = 0 := fun hq0 => h134 ((nI_eq (a := 1) (b := 0) (by omega) (by omega)).mpr hq0)
              refine lv_iconst (v := 1) hx hb dM_replacement_179 (by decide) ?_
              refine lv_goto (tgt := 184) hx hb dM_replacement_180 (by decide) ?_
              refine lv_istore_n (lv' := [(2, .int (1)), (3, .int (c9)), (0, .ref m0), (1, .int (nI (v)))]) hx hb dM_replacement_184 rfl hl (by decide) rfl (fun ls hl => ?_)
              refine lv_iload_n hx hb dM_replacement_185 rfl (lv_at hl 0 rfl) ?_
              refine lv_if_eq (tgt := 198) hx hb dM_replacement_186 (by decide) (fun h186 => ?_) (fun h186 => ?_)
              · skip
                replace h186 := (nI_eq (a := 1) (b := 0) (by omega) (by omega)).mp h186
                (exfalso; omega)
              replace h186 : ¬ 1 = 0 := fun hq0 => h186 ((nI_eq (a := 1) (b := 0) (by omega) (by omega)).mpr hq0)
              refine lv_aload_n hx hb dM_replacement_189 rfl (lv_at hl 2 rfl) ?_
              refine dw_get hx hb hts inMc hown hG 4 3 rfl rfl (by decide) hw497 rfl rfl dM_replacement_190 ?_
              refine lv_iload_n hx hb dM_replacement_193 rfl (lv_at hl 3 rfl) ?_
              refine dw_ia (x := nI (x)) hx hb hG 1 0 rfl rfl (v) rfl (by omega) (by decide) e1 dM_replacement_194 ?_
              refine lv_goto (tgt := 199) hx hb dM_replacement_195 (by decide) ?_
              subst hQ
              exact dw_iret hx hb hr (dw_perm hG [4, 0, 1, 2, 3, 5] (by decide) rfl rfl) (()) rfl (by unfold db_Bv; rw [if_neg (by decide), if_neg hkn]; exact (if_pos (by show (decide (ky = 10) && decide (db_upto d &&& c9 = 0)) = true; rw [decide_eq_true hky, decide_eq_true hc]; rfl)).symm) dM_replacement_199 hlocks
            replace h134 := (nI_eq (a := 1) (b := 0) (by omega) (by omega)).mp h134
            (exfalso; omega)
          refine lv_topi (nm_r (show (if db_upto d &&& c9 = 0 then 1 else 0 : Int32) = 0 from (if_neg hc)) ?_)
          refine lv_if_eq (tgt := 131) hx hb dM_replacement_124 (by decide) (fun h124 => ?_) (fun h124 => ?_)
          · skip
            replace h124 := (nI_eq (a := 0) (b := 0) (by omega) (by omega)).mp h124
            refine lv_iconst (v := 0) hx hb dM_replacement_131 (by decide) ?_
            refine lv_istore_n (lv' := [(2, .int (0)), (3, .int (c9)), (0, .ref m0), (1, .int (nI (v)))]) hx hb dM_replacement_132 rfl hl (by decide) rfl (fun ls hl => ?_)
            refine lv_iload_n hx hb dM_replacement_133 rfl (lv_at hl 0 rfl) ?_
            refine lv_if_ne (tgt := 179) hx hb dM_replacement_134 (by decide) (fun h134 => ?_) (fun h134 => ?_)
            · skip
              replace h134 : ¬ 0 = 0 := fun hq0 => h134 ((nI_eq (a := 0) (b := 0) (by omega) (by omega)).mpr hq0)
              (exfalso; omega)
            replace h134 := (nI_eq (a := 0) (b := 0) (by omega) (by omega)).mp h134
            refine lv_aload_n hx hb dM_replacement_137 rfl (lv_at hl 2 rfl) ?_
            refine dw_get hx hb hts inMc hown hG 4 2 rfl rfl (by decide) hw496 rfl rfl dM_replacement_138 ?_
            refine lv_iload_n hx hb dM_replacement_141 rfl (lv_at hl 3 rfl) ?_
            refine dw_ia (x := 0) hx hb hG 0 0 rfl rfl (v) rfl (by omega) (by decide) em dM_replacement_142 ?_
            refine lv_bipush (v := 9) hx hb dM_replacement_143 (by decide) ?_
            refine lv_icmp_ne (tgt := 158) hx hb dM_replacement_145 (by decide) (fun h145 => ?_) (fun h145 => ?_)
            · skip
              replace h145 : ¬ 0 = 9 := fun hq0 => h145 ((nI_eq (a := 0) (b := 9) (by omega) (by omega)).mpr hq0)
              refine lv_aload_n hx hb dM_replacement_158 rfl (lv_at hl 2 rfl) ?_
              refine dw_get hx hb hts inMc hown hG 4 2 rfl rfl (by decide) hw496 rfl rfl dM_replacement_159 ?_
              refine lv_iload_n hx hb dM_replacement_162 rfl (lv_at hl 3 rfl) ?_
              refine dw_ia (x := 0) hx hb hG 0 0 rfl rfl (v) rfl (by omega) (by decide) em dM_replacement_163 ?_
              refine lv_bipush (v := 10) hx hb dM_replacement_164 (by decide) ?_
              refine lv_icmp_ne (tgt := 183) hx hb dM_replacement_166 (by decide) (fun h166 => ?_) (fun h166 => ?_)
              · skip
                replace h166 : ¬ 0 = 10 := fun hq0 => h166 ((nI_eq (a := 0) (b := 10) (by omega) (by omega)).mpr hq0)
                refine lv_iconst (v := 0) hx hb dM_replacement_183 (by decide) ?_
                refine lv_istore_n (lv' := [(2, .int (0)), (3, .int (c9)), (0, .ref m0), (1, .int (nI (v)))]) hx hb dM_replacement_184 rfl hl (by decide) rfl (fun ls hl => ?_)
                refine lv_iload_n hx hb dM_replacement_185 rfl (lv_at hl 0 rfl) ?_
                refine lv_if_eq (tgt := 198) hx hb dM_replacement_186 (by decide) (fun h186 => ?_) (fun h186 => ?_)
                · skip
                  replace h186 := (nI_eq (a := 0) (b := 0) (by omega) (by omega)).mp h186
                  refine lv_iconst (v := -1) hx hb dM_replacement_198 (by decide) ?_
                  subst hQ
                  exact dw_iret hx hb hr (dw_perm hG [4, 0, 1, 2, 3, 5] (by decide) rfl rfl) (()) rfl (by unfold db_Bv; rw [if_neg (by decide), if_neg hkn]; exact (if_neg (by show ¬ (decide (ky = 10) && decide (db_upto d &&& c9 = 0)) = true; rw [decide_eq_false hc, Bool.and_false]; decide)).symm) dM_replacement_199 hlocks
                replace h186 : ¬ 0 = 0 := fun hq0 => h186 ((nI_eq (a := 0) (b := 0) (by omega) (by omega)).mpr hq0)
                (exfalso; omega)
              replace h166 := (nI_eq (a := 0) (b := 10) (by omega) (by omega)).mp h166
              (exfalso; omega)
            replace h145 := (nI_eq (a := 0) (b := 9) (by omega) (by omega)).mp h145
            (exfalso; omega)
          replace h124 : ¬ 0 = 0 := fun hq0 => h124 ((nI_eq (a := 0) (b := 0) (by omega) (by omega)).mpr hq0)
          (exfalso; omega)
        replace h92 := (nI_eq (a := 0) (b := 4) (by omega) (by omega)).mp h92
        (exfalso; omega)
      replace h71 := (nI_eq (a := 0) (b := 3) (by omega) (by omega)).mp h71
      (exfalso; omega)
    replace h18 : ¬ 0 = 0 := fun hq0 => h18 ((nI_eq (a := 0) (b := 0) (by omega) (by omega)).mpr hq0)
    (exfalso; omega)
  replace h8 := (nI_eq (a := 0) (b := 13) (by omega) (by omega)).mp h8
  (exfalso; omega)

set_option maxRecDepth 100000 in
set_option maxHeartbeats 4000000 in
theorem rf_rep1 (l : Launch) (dC : Nat → ClassId) (dI : Nat → Nat → Nat) (cI cZ : ClassId) (m0 aMd aO1 aT2 aSh aMk aFa aDe aNe aBy aPi aNw aNs aBf : Nat) (ft vl rs pd rn rr : Int32) (v x y ky : Nat) (Md O1 T2 Fa De : Nat → Int32) (c9 d z o : Int32) (sz : Nat) (hv : v < 24) (em : Md v = nI 1) (hd : db_set De v d) (hf : db_rep Fa v z o) (e1 : O1 v = nI x) (hy9 : y < 24) (e2 : T2 v = nI y) (hky13 : ky ≤ 13) (emy : Md y = nI (db_rk ky)) (ecy : ky = 10 → O1 y = c9) : Met l yM_replacement wsM_replacement { frames := 2, cells := 0, slots := 0, locals := 60 } (va_Pc [.ref m0, .int (nI (v))] (dw_pre (dC, dI) vwCl [(m0, .inr (5, [.int (ft), .int (vl), .ref aMd, .ref aO1, .ref aT2, .int (rs), .ref aSh, .ref aMk, .ref aFa, .ref aDe, .ref aNe, .ref aBy, .ref aPi, .int (pd), .ref aNw, .ref aNs, .ref aBf, .int (rn), .int (rr)])), (aMd, .inl (cI, 24, .inl (Md))), (aO1, .inl (cI, 24, .inl (O1))), (aT2, .inl (cI, 24, .inl (T2))), (aFa, .inl (cI, 768, .inl (Fa))), (aDe, .inl (cZ, 768, .inl (De)))] [(cI, .int), (cZ, .boolean)] sz)) (va_Qi (fun (r : Int32) (u : Unit) => r = db_Bv 1 x ky c9 d z o) (fun u t => dw_post (dC, dI) vwCl [(m0, .inr (5, [.int (ft), .int (vl), .ref aMd, .ref aO1, .ref aT2, .int (rs), .ref aSh, .ref aMk, .ref aFa, .ref aDe, .ref aNe, .ref aBy, .ref aPi, .int (pd), .ref aNw, .ref aNs, .ref aBf, .int (rn), .int (rr)])), (aMd, .inl (cI, 24, .inl (Md))), (aO1, .inl (cI, 24, .inl (O1))), (aT2, .inl (cI, 24, .inl (T2))), (aFa, .inl (cI, 768, .inl (Fa))), (aDe, .inl (cZ, 768, .inl (De)))] [(cI, .int), (cZ, .boolean)] (va_A [(m0, .inr (5, [.int (ft), .int (vl), .ref aMd, .ref aO1, .ref aT2, .int (rs), .ref aSh, .ref aMk, .ref aFa, .ref aDe, .ref aNe, .ref aBy, .ref aPi, .int (pd), .ref aNw, .ref aNs, .ref aBf, .int (rn), .int (rr)])), (aMd, .inl (cI, 24, .inl (Md))), (aO1, .inl (cI, 24, .inl (O1))), (aT2, .inl (cI, 24, .inl (T2))), (aFa, .inl (cI, 768, .inl (Fa))), (aDe, .inl (cZ, 768, .inl (De)))] sz) t) (va_A [(m0, .inr (5, [.int (ft), .int (vl), .ref aMd, .ref aO1, .ref aT2, .int (rs), .ref aSh, .ref aMk, .ref aFa, .ref aDe, .ref aNe, .ref aBy, .ref aPi, .int (pd), .ref aNw, .ref aNs, .ref aBf, .int (rn), .int (rr)])), (aMd, .inl (cI, 24, .inl (Md))), (aO1, .inl (cI, 24, .inl (O1))), (aT2, .inl (cI, 24, .inl (T2))), (aFa, .inl (cI, 768, .inl (Fa))), (aDe, .inl (cZ, 768, .inl (De)))] sz)) 0 0 (va_A [(m0, .inr (5, [.int (ft), .int (vl), .ref aMd, .ref aO1, .ref aT2, .int (rs), .ref aSh, .ref aMk, .ref aFa, .ref aDe, .ref aNe, .ref aBy, .ref aPi, .int (pd), .ref aNw, .ref aNs, .ref aBf, .int (rn), .int (rr)])), (aMd, .inl (cI, 24, .inl (Md))), (aO1, .inl (cI, 24, .inl (O1))), (aT2, .inl (cI, 24, .inl (T2))), (aFa, .inl (cI, 768, .inl (Fa))), (aDe, .inl (cZ, 768, .inl (De)))] sz) := by
  refine Met.ofW (cc := cM_replacement) (maxL := 4) (ret := (some .int)) (by decide) rfl ?_
  intro p e s m args below meth c s₁ B hml hv0
  have hx := B.exec
  have hb := B.bytes
  have hr := B.returns
  have hts := atoms_spec (ws := wsM_replacement) B.pre
  have hown : s.vm.findClass RM = some m.cls := findClass_of_methodNamed B.named
  have hlocks := B.notSynchronized
  obtain ⟨rfl, hsz, hG⟩ := dw_enter hv0
  generalize va_A [(m0, .inr (5, [.int (ft), .int (vl), .ref aMd, .ref aO1, .ref aT2, .int (rs), .ref aSh, .ref aMk, .ref aFa, .ref aDe, .ref aNe, .ref aBy, .ref aPi, .int (pd), .ref aNw, .ref aNs, .ref aBf, .int (rn), .int (rr)])), (aMd, .inl (cI, 24, .inl (Md))), (aO1, .inl (cI, 24, .inl (O1))), (aT2, .inl (cI, 24, .inl (T2))), (aFa, .inl (cI, 768, .inl (Fa))), (aDe, .inl (cZ, 768, .inl (De)))] sz = A at hG ⊢
  have hl := lv_entry ([.ref m0, .int (nI (v))]) (n := 4) (Nat.le_of_ble_eq_true rfl)
  rw [lg_entry_eq]
  generalize (lg_sl ([.ref m0, .int (nI (v))]) ++ List.replicate (4 - (lg_sl ([.ref m0, .int (nI (v))])).length) Slot.unset).toArray = ls at hl ⊢
  have hl : lv_has ls 4 [(0, .ref m0), (1, .int (nI (v)))] := hl
  have hw496 := hts _ (List.mem_cons_of_mem _ tw_496)
  have hw498 := hts _ (List.mem_cons_of_mem _ tw_498)
  have hw497 := hts _ (List.mem_cons_of_mem _ tw_497)
  have hrky := db_rk_le hky13
  refine dw_Q (fun Q hQ => ?_)
  suffices hgo : ∀ (H : Heap) (locs : List Loc), dw_G (dC, dI) vwCl [(cI, .int), (cZ, .boolean)] A s.heap s [(m0, .inr (5, [.int (ft), .int (vl), .ref aMd, .ref aO1, .ref aT2, .int (rs), .ref aSh, .ref aMk, .ref aFa, .ref aDe, .ref aNe, .ref aBy, .ref aPi, .int (pd), .ref aNw, .ref aNs, .ref aBf, .int (rn), .int (rr)])), (aMd, .inl (cI, 24, .inl (Md))), (aO1, .inl (cI, 24, .inl (O1))), (aT2, .inl (cI, 24, .inl (T2))), (aFa, .inl (cI, 768, .inl (Fa))), (aDe, .inl (cZ, 768, .inl (De)))] H locs → W p l e (headSpec wsM_replacement { frames := 2, cells := 0, slots := 0, locals := 60 }).room s m [.ref m0, .int (nI (v))].toArray below meth c H locs 0 0 Q (F0 m 0 ls []) from hgo _ _ hG
  clear hG
  intro H locs hG
  refine lv_aload_n hx hb dM_replacement_0 rfl (lv_at hl 0 rfl) ?_
  refine dw_get hx hb hts inMc hown hG 0 2 rfl rfl (by decide) hw496 rfl rfl dM_replacement_1 ?_
  refine lv_iload_n hx hb dM_replacement_4 rfl (lv_at hl 1 rfl) ?_
  refine dw_ia (x := 1) hx hb hG 1 0 rfl rfl (v) rfl (by omega) (by decide) em dM_replacement_5 ?_
  refine lv_bipush (v := 13) hx hb dM_replacement_6 (by decide) ?_
  refine lv_icmp_ne (tgt := 13) hx hb dM_replacement_8 (by decide) (fun h8 => ?_) (fun h8 => ?_)
  · skip
    replace h8 : ¬ 1 = 13 := fun hq0 => h8 ((nI_eq (a := 1) (b := 13) (by omega) (by omega)).mpr hq0)
    refine lv_aload_n hx hb dM_replacement_13 rfl (lv_at hl 0 rfl) ?_
    refine lv_iload_n hx hb dM_replacement_14 rfl (lv_at hl 1 rfl) ?_
    refine dw_calli (wc := [(m0, .inr (5, [.int (ft), .int (vl), .ref aMd, .ref aO1, .ref aT2, .int (rs), .ref aSh, .ref aMk, .ref aFa, .ref aDe, .ref aNe, .ref aBy, .ref aPi, .int (pd), .ref aNw, .ref aNs, .ref aBf, .int (rn), .int (rr)])), (aFa, .inl (cI, 768, .inl (Fa))), (aDe, .inl (cZ, 768, .inl (De)))]) (wr := [(aMd, .inl (cI, 24, .inl (Md))), (aO1, .inl (cI, 24, .inl (O1))), (aT2, .inl (cI, 24, .inl (T2)))]) hG [0, 4, 5] [1, 2, 3] rfl rfl (by decide) (by decide) (va_runV (As := [.int (nI (v))]) (rest := []) ⟨hx, hb, hml, hown, hts⟩ (rf_isKnown l dC dI cI cZ m0 aMd aO1 aT2 aSh aMk aFa aDe aNe aBy aPi aNw aNs aBf ft vl rs pd rn rr v Fa De d z o H.size hv hd hf) (dc_V 1 hts tw_664 tw_666 tp_M_isKnown tw_7 tw_667 rfl rfl (by decide +kernel) ⟨Nat.le_of_ble_eq_true rfl, Nat.le_of_ble_eq_true rfl⟩) (dw_preV (ci := 5) hG [0, 4, 5] [0, 1] rfl rfl (by decide) rfl rfl (q0 := 0) rfl) rfl rfl hl.1 rfl (lv_room (Nat.le_of_ble_eq_true rfl)) dM_replacement_15 ⟨Nat.le_refl _, Nat.le_refl _⟩) (fun r u H locs hp hG => ?_)
    subst hp
    have hG : dw_G (dC, dI) vwCl [(cI, .int), (cZ, .boolean)] A s.heap s [(aMd, .inl (cI, 24, .inl (Md))), (aO1, .inl (cI, 24, .inl (O1))), (aT2, .inl (cI, 24, .inl (T2))), (m0, .inr (5, [.int (ft), .int (vl), .ref aMd, .ref aO1, .ref aT2, .int (rs), .ref aSh, .ref aMk, .ref aFa, .ref aDe, .ref aNe, .ref aBy, .ref aPi, .int (pd), .ref aNw, .ref aNs, .ref aBf, .int (rn), .int (rr)])), (aFa, .inl (cI, 768, .inl (Fa))), (aDe, .inl (cZ, 768, .inl (De)))] H locs := hG
    rcases Decidable.em (d &&& ((z ||| o) ^^^ (-1)) = 0) with hkn | hkn
    · skip
      refine lv_topi (nm_r (show (if d &&& ((z ||| o) ^^^ (-1)) = 0 then 1 else 0 : Int32) = 1 from (if_pos hkn)) ?_)
      refine lv_if_eq (tgt := 24) hx hb dM_replacement_18 (by decide) (fun h18 => ?_) (fun h18 => ?_)
      · skip
        replace h18 := (nI_eq (a := 1) (b := 0) (by omega) (by omega)).mp h18
        (exfalso; omega)
      replace h18 : ¬ 1 = 0 := fun hq0 => h18 ((nI_eq (a := 1) (b := 0) (by omega) (by omega)).mpr hq0)
      refine lv_bipush (v := -2) hx hb dM_replacement_21 (by decide) ?_
      subst hQ
      exact dw_iret hx hb hr (dw_perm hG [3, 0, 1, 2, 4, 5] (by decide) rfl rfl) (()) rfl (by unfold db_Bv; rw [if_neg (by decide), if_pos hkn]) dM_replacement_23 hlocks
    refine lv_topi (nm_r (show (if d &&& ((z ||| o) ^^^ (-1)) = 0 then 1 else 0 : Int32) = 0 from (if_neg hkn)) ?_)
    refine lv_if_eq (tgt := 24) hx hb dM_replacement_18 (by decide) (fun h18 => ?_) (fun h18 => ?_)
    · skip
      replace h18 := (nI_eq (a := 0) (b := 0) (by omega) (by omega)).mp h18
      refine lv_iconst (v := 0) hx hb dM_replacement_24 (by decide) ?_
      refine lv_istore_n (lv' := [(2, .int (0)), (0, .ref m0), (1, .int (nI (v)))]) hx hb dM_replacement_25 rfl hl (by decide) rfl (fun ls hl => ?_)
      refine lv_aload_n hx hb dM_replacement_26 rfl (lv_at hl 1 rfl) ?_
      refine dw_get hx hb hts inMc hown hG 3 2 rfl rfl (by decide) hw496 rfl rfl dM_replacement_27 ?_
      refine lv_iload_n hx hb dM_replacement_30 rfl (lv_at hl 2 rfl) ?_
      refine dw_ia (x := 1) hx hb hG 0 0 rfl rfl (v) rfl (by omega) (by decide) em dM_replacement_31 ?_
      refine lv_iconst (v := 5) hx hb dM_replacement_32 (by decide) ?_
      refine lv_icmp_gt (tgt := 133) hx hb dM_replacement_33 (by decide) (fun h33 => ?_) (fun h33 => ?_)
      · skip
        replace h33 := (nI_ltI (a := 5) (b := 1) (by omega) (by omega)).mp h33
        (exfalso; omega)
      replace h33 : ¬ 5 < 1 := fun hq0 => h33 ((nI_ltI (a := 5) (b := 1) (by omega) (by omega)).mpr hq0)
      refine lv_aload_n hx hb dM_replacement_36 rfl (lv_at hl 1 rfl) ?_
      refine dw_get hx hb hts inMc hown hG 3 2 rfl rfl (by decide) hw496 rfl rfl dM_replacement_37 ?_
      refine lv_aload_n hx hb dM_replacement_40 rfl (lv_at hl 1 rfl) ?_
      refine dw_get hx hb hts inMc hown hG 3 4 rfl rfl (by decide) hw498 rfl rfl dM_replacement_41 ?_
      refine lv_iload_n hx hb dM_replacement_44 rfl (lv_at hl 2 rfl) ?_
      refine dw_ia (x := nI (y)) hx hb hG 2 0 rfl rfl (v) rfl (by omega) (by decide) e2 dM_replacement_45 ?_
      refine dw_ia (x := nI (db_rk ky)) hx hb hG 0 0 rfl rfl (y) rfl (by omega) (by decide) emy dM_replacement_46 ?_
      refine lv_bipush (v := 13) hx hb dM_replacement_47 (by decide) ?_
      refine lv_icmp_ne (tgt := 133) hx hb dM_replacement_49 (by decide) (fun h49 => ?_) (fun h49 => ?_)
      · skip
        replace h49 : ¬ db_rk ky = 13 := fun hq0 => h49 ((nI_eq (a := db_rk ky) (b := 13) (by omega) (by omega)).mpr hq0)
        refine lv_iload_n hx hb dM_replacement_133 rfl (lv_at hl 0 rfl) ?_
        refine lv_if_ne (tgt := 179) hx hb dM_replacement_134 (by decide) (fun h134 => ?_) (fun h134 => ?_)
        · skip
          replace h134 : ¬ 0 = 0 := fun hq0 => h134 ((nI_eq (a := 0) (b := 0) (by omega) (by omega)).mpr hq0)
          (exfalso; omega)
        replace h134 := (nI_eq (a := 0) (b := 0) (by omega) (by omega)).mp h134
        refine lv_aload_n hx hb dM_replacement_137 rfl (lv_at hl 1 rfl) ?_
        refine dw_get hx hb hts inMc hown hG 3 2 rfl rfl (by decide) hw496 rfl rfl dM_replacement_138 ?_
        refine lv_iload_n hx hb dM_replacement_141 rfl (lv_at hl 2 rfl) ?_
        refine dw_ia (x := 1) hx hb hG 0 0 rfl rfl (v) rfl (by omega) (by decide) em dM_replacement_142 ?_
        refine lv_bipush (v := 9) hx hb dM_replacement_143 (by decide) ?_
        refine lv_icmp_ne (tgt := 158) hx hb dM_replacement_145 (by decide) (fun h145 => ?_) (fun h145 => ?_)
        · skip
          replace h145 : ¬ 1 = 9 := fun hq0 => h145 ((nI_eq (a := 1) (b := 9) (by omega) (by omega)).mpr hq0)
          refine lv_aload_n hx hb dM_replacement_158 rfl (lv_at hl 1 rfl) ?_
          refine dw_get hx hb hts inMc hown hG 3 2 rfl rfl (by decide) hw496 rfl rfl dM_replacement_159 ?_
          refine lv_iload_n hx hb dM_replacement_162 rfl (lv_at hl 2 rfl) ?_
          refine dw_ia (x := 1) hx hb hG 0 0 rfl rfl (v) rfl (by omega) (by decide) em dM_replacement_163 ?_
          refine lv_bipush (v := 10) hx hb dM_replacement_164 (by decide) ?_
          refine lv_icmp_ne (tgt := 183) hx hb dM_replacement_166 (by decide) (fun h166 => ?_) (fun h166 => ?_)
          · skip
            replace h166 : ¬ 1 = 10 := fun hq0 => h166 ((nI_eq (a := 1) (b := 10) (by omega) (by omega)).mpr hq0)
            refine lv_iconst (v := 0) hx hb dM_replacement_183 (by decide) ?_
            refine lv_istore_n (lv' := [(2, .int (0)), (0, .ref m0), (1, .int (nI (v)))]) hx hb dM_replacement_184 rfl hl (by decide) rfl (fun ls hl => ?_)
            refine lv_iload_n hx hb dM_replacement_185 rfl (lv_at hl 0 rfl) ?_
            refine lv_if_eq (tgt := 198) hx hb dM_replacement_186 (by decide) (fun h186 => ?_) (fun h186 => ?_)
            · skip
              replace h186 := (nI_eq (a := 0) (b := 0) (by omega) (by omega)).mp h186
              refine lv_iconst (v := -1) hx hb dM_replacement_198 (by decide) ?_
              subst hQ
              exact dw_iret hx hb hr (dw_perm hG [3, 0, 1, 2, 4, 5] (by decide) rfl rfl) (()) rfl (by unfold db_Bv; rw [if_neg (by decide), if_neg hkn]; exact (if_neg (by show ¬ (decide (ky = 10) && decide (db_upto d &&& c9 = 0)) = true; rw [decide_eq_false (fun q => h49 ((db_rk10 hky13).mpr q)), Bool.false_and]; decide)).symm) dM_replacement_199 hlocks
            replace h186 : ¬ 0 = 0 := fun hq0 => h186 ((nI_eq (a := 0) (b := 0) (by omega) (by omega)).mpr hq0)
            (exfalso; omega)
          replace h166 := (nI_eq (a := 1) (b := 10) (by omega) (by omega)).mp h166
          (exfalso; omega)
        replace h145 := (nI_eq (a := 1) (b := 9) (by omega) (by omega)).mp h145
        (exfalso; omega)
      replace h49 := (nI_eq (a := db_rk ky) (b := 13) (by omega) (by omega)).mp h49
      have hky : ky = 10 := (db_rk10 hky13).mp h49
      refine lv_aload_n hx hb dM_replacement_52 rfl (lv_at hl 1 rfl) ?_
      refine dw_get hx hb hts inMc hown hG 3 3 rfl rfl (by decide) hw497 rfl rfl dM_replacement_53 ?_
      refine lv_aload_n hx hb dM_replacement_56 rfl (lv_at hl 1 rfl) ?_
      refine dw_get hx hb hts inMc hown hG 3 4 rfl rfl (by decide) hw498 rfl rfl dM_replacement_57 ?_
      refine lv_iload_n hx hb dM_replacement_60 rfl (lv_at hl 2 rfl) ?_
      refine dw_ia (x := nI (y)) hx hb hG 2 0 rfl rfl (v) rfl (by omega) (by decide) e2 dM_replacement_61 ?_
      refine dw_ia (x := c9) hx hb hG 1 0 rfl rfl (y) rfl (by omega) (by decide) (ecy hky) dM_replacement_62 ?_
      refine lv_istore_n (lv' := [(3, .int (c9)), (2, .int (0)), (0, .ref m0), (1, .int (nI (v)))]) hx hb dM_replacement_63 rfl hl (by decide) rfl (fun ls hl => ?_)
      refine lv_aload_n hx hb dM_replacement_64 rfl (lv_at hl 2 rfl) ?_
      refine dw_get hx hb hts inMc hown hG 3 2 rfl rfl (by decide) hw496 rfl rfl dM_replacement_65 ?_
      refine lv_iload_n hx hb dM_replacement_68 rfl (lv_at hl 3 rfl) ?_
      refine dw_ia (x := 1) hx hb hG 0 0 rfl rfl (v) rfl (by omega) (by decide) em dM_replacement_69 ?_
      refine lv_iconst (v := 3) hx hb dM_replacement_70 (by decide) ?_
      refine lv_icmp_ne (tgt := 85) hx hb dM_replacement_71 (by decide) (fun h71 => ?_) (fun h71 => ?_)
      · skip
        replace h71 : ¬ 1 = 3 := fun hq0 => h71 ((nI_eq (a := 1) (b := 3) (by omega) (by omega)).mpr hq0)
        refine lv_aload_n hx hb dM_replacement_85 rfl (lv_at hl 2 rfl) ?_
        refine dw_get hx hb hts inMc hown hG 3 2 rfl rfl (by decide) hw496 rfl rfl dM_replacement_86 ?_
        refine lv_iload_n hx hb dM_replacement_89 rfl (lv_at hl 3 rfl) ?_
        refine dw_ia (x := 1) hx hb hG 0 0 rfl rfl (v) rfl (by omega) (by decide) em dM_replacement_90 ?_
        refine lv_iconst (v := 4) hx hb dM_replacement_91 (by decide) ?_
        refine lv_icmp_ne (tgt := 106) hx hb dM_replacement_92 (by decide) (fun h92 => ?_) (fun h92 => ?_)
        · skip
          replace h92 : ¬ 1 = 4 := fun hq0 => h92 ((nI_eq (a := 1) (b := 4) (by omega) (by omega)).mpr hq0)
          refine lv_aload_n hx hb dM_replacement_106 rfl (lv_at hl 2 rfl) ?_
          refine dw_get hx hb hts inMc hown hG 3 2 rfl rfl (by decide) hw496 rfl rfl dM_replacement_107 ?_
          refine lv_iload_n hx hb dM_replacement_110 rfl (lv_at hl 3 rfl) ?_
          refine dw_ia (x := 1) hx hb hG 0 0 rfl rfl (v) rfl (by omega) (by decide) em dM_replacement_111 ?_
          refine lv_iconst (v := 2) hx hb dM_replacement_112 (by decide) ?_
          refine lv_icmp_eq (tgt := 131) hx hb dM_replacement_113 (by decide) (fun h113 => ?_) (fun h113 => ?_)
          · skip
            replace h113 := (nI_eq (a := 1) (b := 2) (by omega) (by omega)).mp h113
            (exfalso; omega)
          replace h113 : ¬ 1 = 2 := fun hq0 => h113 ((nI_eq (a := 1) (b := 2) (by omega) (by omega)).mpr hq0)
          refine lv_aload_n hx hb dM_replacement_116 rfl (lv_at hl 2 rfl) ?_
          refine lv_iload_n hx hb dM_replacement_117 rfl (lv_at hl 3 rfl) ?_
          refine lv_iload_n hx hb dM_replacement_118 rfl (lv_at hl 0 rfl) ?_
          refine lv_iconst (v := 0) hx hb dM_replacement_119 (by decide) ?_
          refine lv_iconst (v := 1) hx hb dM_replacement_120 (by decide) ?_
          refine dw_calli (wc := [(m0, .inr (5, [.int (ft), .int (vl), .ref aMd, .ref aO1, .ref aT2, .int (rs), .ref aSh, .ref aMk, .ref aFa, .ref aDe, .ref aNe, .ref aBy, .ref aPi, .int (pd), .ref aNw, .ref aNs, .ref aBf, .int (rn), .int (rr)])), (aDe, .inl (cZ, 768, .inl (De)))]) (wr := [(aMd, .inl (cI, 24, .inl (Md))), (aO1, .inl (cI, 24, .inl (O1))), (aT2, .inl (cI, 24, .inl (T2))), (aFa, .inl (cI, 768, .inl (Fa)))]) hG [3, 5] [0, 1, 2, 4] rfl rfl (by decide) (by decide) (va_runV (As := [.int (nI (v)), .int (c9), .int (0), .int (1)]) (rest := []) ⟨hx, hb, hml, hown, hts⟩ (rf_areIn01 l dC dI cI cZ m0 aMd aO1 aT2 aSh aMk aFa aDe aNe aBy aPi aNw aNs aBf ft vl rs pd rn rr v De c9 d H.size hv hd) (dc_V 4 hts tw_668 tw_670 tp_M_areIn tw_7 tw_671 rfl rfl (by decide +kernel) ⟨Nat.le_of_ble_eq_true rfl, Nat.le_of_ble_eq_true rfl⟩) (dw_preV (ci := 5) hG [3, 5] [0, 1] rfl rfl (by decide) rfl rfl (q0 := 3) rfl) rfl rfl hl.1 rfl (lv_room (Nat.le_of_ble_eq_true rfl)) dM_replacement_121 ⟨Nat.le_refl _, Nat.le_refl _⟩) (fun r u H locs hp hG => ?_)
          subst hp
          have hG : dw_G (dC, dI) vwCl [(cI, .int), (cZ, .boolean)] A s.heap s [(aMd, .inl (cI, 24, .inl (Md))), (aO1, .inl (cI, 24, .inl (O1))), (aT2, .inl (cI, 24, .inl (T2))), (aFa, .inl (cI, 768, .inl (Fa))), (m0, .inr (5, [.int (ft), .int (vl), .ref aMd, .ref aO1, .ref aT2, .int (rs), .ref aSh, .ref aMk, .ref aFa, .ref aDe, .ref aNe, .ref aBy, .ref aPi, .int (pd), .ref aNw, .ref aNs, .ref aBf, .int (rn), .int (rr)])), (aDe, .inl (cZ, 768, .inl (De)))] H locs := hG
          rcases Decidable.em (db_upto d &&& c9 = 0) with hc | hc
          · skip
            refine lv_topi (nm_r (show (if db_upto d &&& c9 = 0 then 1 else 0 : Int32) = 1 from (if_pos hc)) ?_)
            refine lv_if_eq (tgt := 131) hx hb dM_replacement_124 (by decide) (fun h124 => ?_) (fun h124 => ?_)
            · skip
              replace h124 := (nI_eq (a := 1) (b := 0) (by omega) (by omega)).mp h124
              (exfalso; omega)
            replace h124 : ¬ 1 = 0 := fun hq0 => h124 ((nI_eq (a := 1) (b := 0) (by omega) (by omega)).mpr hq0)
            refine lv_iconst (v := 1) hx hb dM_replacement_127 (by decide) ?_
            refine lv_goto (tgt := 132) hx hb dM_replacement_128 (by decide) ?_
            refine lv_istore_n (lv' := [(2, .int (1)), (3, .int (c9)), (0, .ref m0), (1, .int (nI (v)))]) hx hb dM_replacement_132 rfl hl (by decide) rfl (fun ls hl => ?_)
            refine lv_iload_n hx hb dM_replacement_133 rfl (lv_at hl 0 rfl) ?_
            refine lv_if_ne (tgt := 179) hx hb dM_replacement_134 (by decide) (fun h134 => ?_) (fun h134 => ?_)
            · skip
              replace h134 : ¬ 1 = 0 := fun hq0 => h134 ((nI_eq (a := 1) (b := 0) (by omega) (by omega)).mpr hq0)
              refine lv_iconst (v := 1) hx hb dM_replacement_179 (by decide) ?_
              refine lv_goto (tgt := 184) hx hb dM_replacement_180 (by decide) ?_
              refine lv_istore_n (lv' := [(2, .int (1)), (3, .int (c9)), (0, .ref m0), (1, .int (nI (v)))]) hx hb dM_replacement_184 rfl hl (by decide) rfl (fun ls hl => ?_)
              refine lv_iload_n hx hb dM_replacement_185 rfl (lv_at hl 0 rfl) ?_
              refine lv_if_eq (tgt := 198) hx hb dM_replacement_186 (by decide) (fun h186 => ?_) (fun h186 => ?_)
              · skip
                replace h186 := (nI_eq (a := 1) (b := 0) (by omega) (by omega)).mp h186
                (exfalso; omega)
              replace h186 : ¬ 1 = 0 := fun hq0 => h186 ((nI_eq (a := 1) (b := 0) (by omega) (by omega)).mpr hq0)
              refine lv_aload_n hx hb dM_replacement_189 rfl (lv_at hl 2 rfl) ?_
              refine dw_get hx hb hts inMc hown hG 4 3 rfl rfl (by decide) hw497 rfl rfl dM_replacement_190 ?_
              refine lv_iload_n hx hb dM_replacement_193 rfl (lv_at hl 3 rfl) ?_
              refine dw_ia (x := nI (x)) hx hb hG 1 0 rfl rfl (v) rfl (by omega) (by decide) e1 dM_replacement_194 ?_
              refine lv_goto (tgt := 199) hx hb dM_replacement_195 (by decide) ?_
              subst hQ
              exact dw_iret hx hb hr (dw_perm hG [4, 0, 1, 2, 3, 5] (by decide) rfl rfl) (()) rfl (by unfold db_Bv; rw [if_neg (by decide), if_neg hkn]; exact (if_pos (by show (decide (ky = 10) && decide (db_upto d &&& c9 = 0)) = true; rw [decide_eq_true hky, decide_eq_true hc]; rfl)).symm) dM_replacement_199 hlocks
            replace h134 := (nI_eq (a := 1) (b := 0) (by omega) (by omega)).mp h134
            (exfalso; omega)
          refine lv_topi (nm_r (show (if db_upto d &&& c9 = 0 then 1 else 0 : Int32) = 0 from (if_neg hc)) ?_)
          refine lv_if_eq (tgt := 131) hx hb dM_replacement_124 (by decide) (fun h124 => ?_) (fun h124 => ?_)
          · skip
            replace h124 := (nI_eq (a := 0) (b := 0) (by omega) (by omega)).mp h124
            refine lv_iconst (v := 0) hx hb dM_replacement_131 (by decide) ?_
            refine lv_istore_n (lv' := [(2, .int (0)), (3, .int (c9)), (0, .ref m0), (1, .int (nI (v)))]) hx hb dM_replacement_132 rfl hl (by decide) rfl (fun ls hl => ?_)
            refine lv_iload_n hx hb dM_replacement_133 rfl (lv_at hl 0 rfl) ?_
            refine lv_if_ne (tgt := 179) hx hb dM_replacement_134 (by decide) (fun h134 => ?_) (fun h134 => ?_)
            · skip
              replace h134 : ¬ 0 = 0 := fun hq0 => h134 ((nI_eq (a := 0) (b := 0) (by omega) (by omega)).mpr hq0)
              (exfalso; omega)
            replace h134 := (nI_eq (a := 0) (b := 0) (by omega) (by omega)).mp h134
            refine lv_aload_n hx hb dM_replacement_137 rfl (lv_at hl 2 rfl) ?_
            refine dw_get hx hb hts inMc hown hG 4 2 rfl rfl (by decide) hw496 rfl rfl dM_replacement_138 ?_
            refine lv_iload_n hx hb dM_replacement_141 rfl (lv_at hl 3 rfl) ?_
            refine dw_ia (x := 1) hx hb hG 0 0 rfl rfl (v) rfl (by omega) (by decide) em dM_replacement_142 ?_
            refine lv_bipush (v := 9) hx hb dM_replacement_143 (by decide) ?_
            refine lv_icmp_ne (tgt := 158) hx hb dM_replacement_145 (by decide) (fun h145 => ?_) (fun h145 => ?_)
            · skip
              replace h145 : ¬ 1 = 9 := fun hq0 => h145 ((nI_eq (a := 1) (b := 9) (by omega) (by omega)).mpr hq0)
              refine lv_aload_n hx hb dM_replacement_158 rfl (lv_at hl 2 rfl) ?_
              refine dw_get hx hb hts inMc hown hG 4 2 rfl rfl (by decide) hw496 rfl rfl dM_replacement_159 ?_
              refine lv_iload_n hx hb dM_replacement_162 rfl (lv_at hl 3 rfl) ?_
              refine dw_ia (x := 1) hx hb hG 0 0 rfl rfl (v) rfl (by omega) (by decide) em dM_replacement_163 ?_
              refine lv_bipush (v := 10) hx hb dM_replacement_164 (by decide) ?_
              refine lv_icmp_ne (tgt := 183) hx hb dM_replacement_166 (by decide) (fun h166 => ?_) (fun h166 => ?_)
              · skip
                replace h166 : ¬ 1 = 10 := fun hq0 => h166 ((nI_eq (a := 1) (b := 10) (by omega) (by omega)).mpr hq0)
                refine lv_iconst (v := 0) hx hb dM_replacement_183 (by decide) ?_
                refine lv_istore_n (lv' := [(2, .int (0)), (3, .int (c9)), (0, .ref m0), (1, .int (nI (v)))]) hx hb dM_replacement_184 rfl hl (by decide) rfl (fun ls hl => ?_)
                refine lv_iload_n hx hb dM_replacement_185 rfl (lv_at hl 0 rfl) ?_
                refine lv_if_eq (tgt := 198) hx hb dM_replacement_186 (by decide) (fun h186 => ?_) (fun h186 => ?_)
                · skip
                  replace h186 := (nI_eq (a := 0) (b := 0) (by omega) (by omega)).mp h186
                  refine lv_iconst (v := -1) hx hb dM_replacement_198 (by decide) ?_
                  subst hQ
                  exact dw_iret hx hb hr (dw_perm hG [4, 0, 1, 2, 3, 5] (by decide) rfl rfl) (()) rfl (by unfold db_Bv; rw [if_neg (by decide), if_neg hkn]; exact (if_neg (by show ¬ (decide (ky = 10) && decide (db_upto d &&& c9 = 0)) = true; rw [decide_eq_false hc, Bool.and_false]; decide)).symm) dM_replacement_199 hlocks
                replace h186 : ¬ 0 = 0 := fun hq0 => h186 ((nI_eq (a := 0) (b := 0) (by omega) (by omega)).mpr hq0)
                (exfalso; omega)
              replace h166 := (nI_eq (a := 1) (b := 10) (by omega) (by omega)).mp h166
              (exfalso; omega)
            replace h145 := (nI_eq (a := 1) (b := 9) (by omega) (by omega)).mp h145
            (exfalso; omega)
          replace h124 : ¬ 0 = 0 := fun hq0 => h124 ((nI_eq (a := 0) (b := 0) (by omega) (by omega)).mpr hq0)
          (exfalso; omega)
        replace h92 := (nI_eq (a := 1) (b := 4) (by omega) (by omega)).mp h92
        (exfalso; omega)
      replace h71 := (nI_eq (a := 1) (b := 3) (by omega) (by omega)).mp h71
      (exfalso; omega)
    replace h18 : ¬ 0 = 0 := fun hq0 => h18 ((nI_eq (a := 0) (b := 0) (by omega) (by omega)).mpr hq0)
    (exfalso; omega)
  replace h8 := (nI_eq (a := 1) (b := 13) (by omega) (by omega)).mp h8
  (exfalso; omega)

set_option maxRecDepth 100000 in
set_option maxHeartbeats 4000000 in
theorem rf_rep2 (l : Launch) (dC : Nat → ClassId) (dI : Nat → Nat → Nat) (cI cZ : ClassId) (m0 aMd aO1 aT2 aSh aMk aFa aDe aNe aBy aPi aNw aNs aBf : Nat) (ft vl rs pd rn rr : Int32) (v x y ky : Nat) (Md O1 T2 Fa De : Nat → Int32) (c9 d z o : Int32) (sz : Nat) (hv : v < 24) (em : Md v = nI 2) (hd : db_set De v d) (hf : db_rep Fa v z o) (e1 : O1 v = nI x) (hy9 : y < 24) (e2 : T2 v = nI y) (hky13 : ky ≤ 13) (emy : Md y = nI (db_rk ky)) (ecy : ky = 10 → O1 y = c9) : Met l yM_replacement wsM_replacement { frames := 2, cells := 0, slots := 0, locals := 60 } (va_Pc [.ref m0, .int (nI (v))] (dw_pre (dC, dI) vwCl [(m0, .inr (5, [.int (ft), .int (vl), .ref aMd, .ref aO1, .ref aT2, .int (rs), .ref aSh, .ref aMk, .ref aFa, .ref aDe, .ref aNe, .ref aBy, .ref aPi, .int (pd), .ref aNw, .ref aNs, .ref aBf, .int (rn), .int (rr)])), (aMd, .inl (cI, 24, .inl (Md))), (aO1, .inl (cI, 24, .inl (O1))), (aT2, .inl (cI, 24, .inl (T2))), (aFa, .inl (cI, 768, .inl (Fa))), (aDe, .inl (cZ, 768, .inl (De)))] [(cI, .int), (cZ, .boolean)] sz)) (va_Qi (fun (r : Int32) (u : Unit) => r = db_Bv 2 x ky c9 d z o) (fun u t => dw_post (dC, dI) vwCl [(m0, .inr (5, [.int (ft), .int (vl), .ref aMd, .ref aO1, .ref aT2, .int (rs), .ref aSh, .ref aMk, .ref aFa, .ref aDe, .ref aNe, .ref aBy, .ref aPi, .int (pd), .ref aNw, .ref aNs, .ref aBf, .int (rn), .int (rr)])), (aMd, .inl (cI, 24, .inl (Md))), (aO1, .inl (cI, 24, .inl (O1))), (aT2, .inl (cI, 24, .inl (T2))), (aFa, .inl (cI, 768, .inl (Fa))), (aDe, .inl (cZ, 768, .inl (De)))] [(cI, .int), (cZ, .boolean)] (va_A [(m0, .inr (5, [.int (ft), .int (vl), .ref aMd, .ref aO1, .ref aT2, .int (rs), .ref aSh, .ref aMk, .ref aFa, .ref aDe, .ref aNe, .ref aBy, .ref aPi, .int (pd), .ref aNw, .ref aNs, .ref aBf, .int (rn), .int (rr)])), (aMd, .inl (cI, 24, .inl (Md))), (aO1, .inl (cI, 24, .inl (O1))), (aT2, .inl (cI, 24, .inl (T2))), (aFa, .inl (cI, 768, .inl (Fa))), (aDe, .inl (cZ, 768, .inl (De)))] sz) t) (va_A [(m0, .inr (5, [.int (ft), .int (vl), .ref aMd, .ref aO1, .ref aT2, .int (rs), .ref aSh, .ref aMk, .ref aFa, .ref aDe, .ref aNe, .ref aBy, .ref aPi, .int (pd), .ref aNw, .ref aNs, .ref aBf, .int (rn), .int (rr)])), (aMd, .inl (cI, 24, .inl (Md))), (aO1, .inl (cI, 24, .inl (O1))), (aT2, .inl (cI, 24, .inl (T2))), (aFa, .inl (cI, 768, .inl (Fa))), (aDe, .inl (cZ, 768, .inl (De)))] sz)) 0 0 (va_A [(m0, .inr (5, [.int (ft), .int (vl), .ref aMd, .ref aO1, .ref aT2, .int (rs), .ref aSh, .ref aMk, .ref aFa, .ref aDe, .ref aNe, .ref aBy, .ref aPi, .int (pd), .ref aNw, .ref aNs, .ref aBf, .int (rn), .int (rr)])), (aMd, .inl (cI, 24, .inl (Md))), (aO1, .inl (cI, 24, .inl (O1))), (aT2, .inl (cI, 24, .inl (T2))), (aFa, .inl (cI, 768, .inl (Fa))), (aDe, .inl (cZ, 768, .inl (De)))] sz) := by
  refine Met.ofW (cc := cM_replacement) (maxL := 4) (ret := (some .int)) (by decide) rfl ?_
  intro p e s m args below meth c s₁ B hml hv0
  have hx := B.exec
  have hb := B.bytes
  have hr := B.returns
  have hts := atoms_spec (ws := wsM_replacement) B.pre
  have hown : s.vm.findClass RM = some m.cls := findClass_of_methodNamed B.named
  have hlocks := B.notSynchronized
  obtain ⟨rfl, hsz, hG⟩ := dw_enter hv0
  generalize va_A [(m0, .inr (5, [.int (ft), .int (vl), .ref aMd, .ref aO1, .ref aT2, .int (rs), .ref aSh, .ref aMk, .ref aFa, .ref aDe, .ref aNe, .ref aBy, .ref aPi, .int (pd), .ref aNw, .ref aNs, .ref aBf, .int (rn), .int (rr)])), (aMd, .inl (cI, 24, .inl (Md))), (aO1, .inl (cI, 24, .inl (O1))), (aT2, .inl (cI, 24, .inl (T2))), (aFa, .inl (cI, 768, .inl (Fa))), (aDe, .inl (cZ, 768, .inl (De)))] sz = A at hG ⊢
  have hl := lv_entry ([.ref m0, .int (nI (v))]) (n := 4) (Nat.le_of_ble_eq_true rfl)
  rw [lg_entry_eq]
  generalize (lg_sl ([.ref m0, .int (nI (v))]) ++ List.replicate (4 - (lg_sl ([.ref m0, .int (nI (v))])).length) Slot.unset).toArray = ls at hl ⊢
  have hl : lv_has ls 4 [(0, .ref m0), (1, .int (nI (v)))] := hl
  have hw496 := hts _ (List.mem_cons_of_mem _ tw_496)
  have hw498 := hts _ (List.mem_cons_of_mem _ tw_498)
  have hw497 := hts _ (List.mem_cons_of_mem _ tw_497)
  have hrky := db_rk_le hky13
  refine dw_Q (fun Q hQ => ?_)
  suffices hgo : ∀ (H : Heap) (locs : List Loc), dw_G (dC, dI) vwCl [(cI, .int), (cZ, .boolean)] A s.heap s [(m0, .inr (5, [.int (ft), .int (vl), .ref aMd, .ref aO1, .ref aT2, .int (rs), .ref aSh, .ref aMk, .ref aFa, .ref aDe, .ref aNe, .ref aBy, .ref aPi, .int (pd), .ref aNw, .ref aNs, .ref aBf, .int (rn), .int (rr)])), (aMd, .inl (cI, 24, .inl (Md))), (aO1, .inl (cI, 24, .inl (O1))), (aT2, .inl (cI, 24, .inl (T2))), (aFa, .inl (cI, 768, .inl (Fa))), (aDe, .inl (cZ, 768, .inl (De)))] H locs → W p l e (headSpec wsM_replacement { frames := 2, cells := 0, slots := 0, locals := 60 }).room s m [.ref m0, .int (nI (v))].toArray below meth c H locs 0 0 Q (F0 m 0 ls []) from hgo _ _ hG
  clear hG
  intro H locs hG
  refine lv_aload_n hx hb dM_replacement_0 rfl (lv_at hl 0 rfl) ?_
  refine dw_get hx hb hts inMc hown hG 0 2 rfl rfl (by decide) hw496 rfl rfl dM_replacement_1 ?_
  refine lv_iload_n hx hb dM_replacement_4 rfl (lv_at hl 1 rfl) ?_
  refine dw_ia (x := 2) hx hb hG 1 0 rfl rfl (v) rfl (by omega) (by decide) em dM_replacement_5 ?_
  refine lv_bipush (v := 13) hx hb dM_replacement_6 (by decide) ?_
  refine lv_icmp_ne (tgt := 13) hx hb dM_replacement_8 (by decide) (fun h8 => ?_) (fun h8 => ?_)
  · skip
    replace h8 : ¬ 2 = 13 := fun hq0 => h8 ((nI_eq (a := 2) (b := 13) (by omega) (by omega)).mpr hq0)
    refine lv_aload_n hx hb dM_replacement_13 rfl (lv_at hl 0 rfl) ?_
    refine lv_iload_n hx hb dM_replacement_14 rfl (lv_at hl 1 rfl) ?_
    refine dw_calli (wc := [(m0, .inr (5, [.int (ft), .int (vl), .ref aMd, .ref aO1, .ref aT2, .int (rs), .ref aSh, .ref aMk, .ref aFa, .ref aDe, .ref aNe, .ref aBy, .ref aPi, .int (pd), .ref aNw, .ref aNs, .ref aBf, .int (rn), .int (rr)])), (aFa, .inl (cI, 768, .inl (Fa))), (aDe, .inl (cZ, 768, .inl (De)))]) (wr := [(aMd, .inl (cI, 24, .inl (Md))), (aO1, .inl (cI, 24, .inl (O1))), (aT2, .inl (cI, 24, .inl (T2)))]) hG [0, 4, 5] [1, 2, 3] rfl rfl (by decide) (by decide) (va_runV (As := [.int (nI (v))]) (rest := []) ⟨hx, hb, hml, hown, hts⟩ (rf_isKnown l dC dI cI cZ m0 aMd aO1 aT2 aSh aMk aFa aDe aNe aBy aPi aNw aNs aBf ft vl rs pd rn rr v Fa De d z o H.size hv hd hf) (dc_V 1 hts tw_664 tw_666 tp_M_isKnown tw_7 tw_667 rfl rfl (by decide +kernel) ⟨Nat.le_of_ble_eq_true rfl, Nat.le_of_ble_eq_true rfl⟩) (dw_preV (ci := 5) hG [0, 4, 5] [0, 1] rfl rfl (by decide) rfl rfl (q0 := 0) rfl) rfl rfl hl.1 rfl (lv_room (Nat.le_of_ble_eq_true rfl)) dM_replacement_15 ⟨Nat.le_refl _, Nat.le_refl _⟩) (fun r u H locs hp hG => ?_)
    subst hp
    have hG : dw_G (dC, dI) vwCl [(cI, .int), (cZ, .boolean)] A s.heap s [(aMd, .inl (cI, 24, .inl (Md))), (aO1, .inl (cI, 24, .inl (O1))), (aT2, .inl (cI, 24, .inl (T2))), (m0, .inr (5, [.int (ft), .int (vl), .ref aMd, .ref aO1, .ref aT2, .int (rs), .ref aSh, .ref aMk, .ref aFa, .ref aDe, .ref aNe, .ref aBy, .ref aPi, .int (pd), .ref aNw, .ref aNs, .ref aBf, .int (rn), .int (rr)])), (aFa, .inl (cI, 768, .inl (Fa))), (aDe, .inl (cZ, 768, .inl (De)))] H locs := hG
    rcases Decidable.em (d &&& ((z ||| o) ^^^ (-1)) = 0) with hkn | hkn
    · skip
      refine lv_topi (nm_r (show (if d &&& ((z ||| o) ^^^ (-1)) = 0 then 1 else 0 : Int32) = 1 from (if_pos hkn)) ?_)
      refine lv_if_eq (tgt := 24) hx hb dM_replacement_18 (by decide) (fun h18 => ?_) (fun h18 => ?_)
      · skip
        replace h18 := (nI_eq (a := 1) (b := 0) (by omega) (by omega)).mp h18
        (exfalso; omega)
      replace h18 : ¬ 1 = 0 := fun hq0 => h18 ((nI_eq (a := 1) (b := 0) (by omega) (by omega)).mpr hq0)
      refine lv_bipush (v := -2) hx hb dM_replacement_21 (by decide) ?_
      subst hQ
      exact dw_iret hx hb hr (dw_perm hG [3, 0, 1, 2, 4, 5] (by decide) rfl rfl) (()) rfl (by unfold db_Bv; rw [if_neg (by decide), if_pos hkn]) dM_replacement_23 hlocks
    refine lv_topi (nm_r (show (if d &&& ((z ||| o) ^^^ (-1)) = 0 then 1 else 0 : Int32) = 0 from (if_neg hkn)) ?_)
    refine lv_if_eq (tgt := 24) hx hb dM_replacement_18 (by decide) (fun h18 => ?_) (fun h18 => ?_)
    · skip
      replace h18 := (nI_eq (a := 0) (b := 0) (by omega) (by omega)).mp h18
      refine lv_iconst (v := 0) hx hb dM_replacement_24 (by decide) ?_
      refine lv_istore_n (lv' := [(2, .int (0)), (0, .ref m0), (1, .int (nI (v)))]) hx hb dM_replacement_25 rfl hl (by decide) rfl (fun ls hl => ?_)
      refine lv_aload_n hx hb dM_replacement_26 rfl (lv_at hl 1 rfl) ?_
      refine dw_get hx hb hts inMc hown hG 3 2 rfl rfl (by decide) hw496 rfl rfl dM_replacement_27 ?_
      refine lv_iload_n hx hb dM_replacement_30 rfl (lv_at hl 2 rfl) ?_
      refine dw_ia (x := 2) hx hb hG 0 0 rfl rfl (v) rfl (by omega) (by decide) em dM_replacement_31 ?_
      refine lv_iconst (v := 5) hx hb dM_replacement_32 (by decide) ?_
      refine lv_icmp_gt (tgt := 133) hx hb dM_replacement_33 (by decide) (fun h33 => ?_) (fun h33 => ?_)
      · skip
        replace h33 := (nI_ltI (a := 5) (b := 2) (by omega) (by omega)).mp h33
        (exfalso; omega)
      replace h33 : ¬ 5 < 2 := fun hq0 => h33 ((nI_ltI (a := 5) (b := 2) (by omega) (by omega)).mpr hq0)
      refine lv_aload_n hx hb dM_replacement_36 rfl (lv_at hl 1 rfl) ?_
      refine dw_get hx hb hts inMc hown hG 3 2 rfl rfl (by decide) hw496 rfl rfl dM_replacement_37 ?_
      refine lv_aload_n hx hb dM_replacement_40 rfl (lv_at hl 1 rfl) ?_
      refine dw_get hx hb hts inMc hown hG 3 4 rfl rfl (by decide) hw498 rfl rfl dM_replacement_41 ?_
      refine lv_iload_n hx hb dM_replacement_44 rfl (lv_at hl 2 rfl) ?_
      refine dw_ia (x := nI (y)) hx hb hG 2 0 rfl rfl (v) rfl (by omega) (by decide) e2 dM_replacement_45 ?_
      refine dw_ia (x := nI (db_rk ky)) hx hb hG 0 0 rfl rfl (y) rfl (by omega) (by decide) emy dM_replacement_46 ?_
      refine lv_bipush (v := 13) hx hb dM_replacement_47 (by decide) ?_
      refine lv_icmp_ne (tgt := 133) hx hb dM_replacement_49 (by decide) (fun h49 => ?_) (fun h49 => ?_)
      · skip
        replace h49 : ¬ db_rk ky = 13 := fun hq0 => h49 ((nI_eq (a := db_rk ky) (b := 13) (by omega) (by omega)).mpr hq0)
        refine lv_iload_n hx hb dM_replacement_133 rfl (lv_at hl 0 rfl) ?_
        refine lv_if_ne (tgt := 179) hx hb dM_replacement_134 (by decide) (fun h134 => ?_) (fun h134 => ?_)
        · skip
          replace h134 : ¬ 0 = 0 := fun hq0 => h134 ((nI_eq (a := 0) (b := 0) (by omega) (by omega)).mpr hq0)
          (exfalso; omega)
        replace h134 := (nI_eq (a := 0) (b := 0) (by omega) (by omega)).mp h134
        refine lv_aload_n hx hb dM_replacement_137 rfl (lv_at hl 1 rfl) ?_
        refine dw_get hx hb hts inMc hown hG 3 2 rfl rfl (by decide) hw496 rfl rfl dM_replacement_138 ?_
        refine lv_iload_n hx hb dM_replacement_141 rfl (lv_at hl 2 rfl) ?_
        refine dw_ia (x := 2) hx hb hG 0 0 rfl rfl (v) rfl (by omega) (by decide) em dM_replacement_142 ?_
        refine lv_bipush (v := 9) hx hb dM_replacement_143 (by decide) ?_
        refine lv_icmp_ne (tgt := 158) hx hb dM_replacement_145 (by decide) (fun h145 => ?_) (fun h145 => ?_)
        · skip
          replace h145 : ¬ 2 = 9 := fun hq0 => h145 ((nI_eq (a := 2) (b := 9) (by omega) (by omega)).mpr hq0)
          refine lv_aload_n hx hb dM_replacement_158 rfl (lv_at hl 1 rfl) ?_
          refine dw_get hx hb hts inMc hown hG 3 2 rfl rfl (by decide) hw496 rfl rfl dM_replacement_159 ?_
          refine lv_iload_n hx hb dM_replacement_162 rfl (lv_at hl 2 rfl) ?_
          refine dw_ia (x := 2) hx hb hG 0 0 rfl rfl (v) rfl (by omega) (by decide) em dM_replacement_163 ?_
          refine lv_bipush (v := 10) hx hb dM_replacement_164 (by decide) ?_
          refine lv_icmp_ne (tgt := 183) hx hb dM_replacement_166 (by decide) (fun h166 => ?_) (fun h166 => ?_)
          · skip
            replace h166 : ¬ 2 = 10 := fun hq0 => h166 ((nI_eq (a := 2) (b := 10) (by omega) (by omega)).mpr hq0)
            refine lv_iconst (v := 0) hx hb dM_replacement_183 (by decide) ?_
            refine lv_istore_n (lv' := [(2, .int (0)), (0, .ref m0), (1, .int (nI (v)))]) hx hb dM_replacement_184 rfl hl (by decide) rfl (fun ls hl => ?_)
            refine lv_iload_n hx hb dM_replacement_185 rfl (lv_at hl 0 rfl) ?_
            refine lv_if_eq (tgt := 198) hx hb dM_replacement_186 (by decide) (fun h186 => ?_) (fun h186 => ?_)
            · skip
              replace h186 := (nI_eq (a := 0) (b := 0) (by omega) (by omega)).mp h186
              refine lv_iconst (v := -1) hx hb dM_replacement_198 (by decide) ?_
              subst hQ
              exact dw_iret hx hb hr (dw_perm hG [3, 0, 1, 2, 4, 5] (by decide) rfl rfl) (()) rfl (by unfold db_Bv; rw [if_neg (by decide), if_neg hkn]; exact (if_neg (by show ¬ false = true; decide)).symm) dM_replacement_199 hlocks
            replace h186 : ¬ 0 = 0 := fun hq0 => h186 ((nI_eq (a := 0) (b := 0) (by omega) (by omega)).mpr hq0)
            (exfalso; omega)
          replace h166 := (nI_eq (a := 2) (b := 10) (by omega) (by omega)).mp h166
          (exfalso; omega)
        replace h145 := (nI_eq (a := 2) (b := 9) (by omega) (by omega)).mp h145
        (exfalso; omega)
      replace h49 := (nI_eq (a := db_rk ky) (b := 13) (by omega) (by omega)).mp h49
      have hky : ky = 10 := (db_rk10 hky13).mp h49
      refine lv_aload_n hx hb dM_replacement_52 rfl (lv_at hl 1 rfl) ?_
      refine dw_get hx hb hts inMc hown hG 3 3 rfl rfl (by decide) hw497 rfl rfl dM_replacement_53 ?_
      refine lv_aload_n hx hb dM_replacement_56 rfl (lv_at hl 1 rfl) ?_
      refine dw_get hx hb hts inMc hown hG 3 4 rfl rfl (by decide) hw498 rfl rfl dM_replacement_57 ?_
      refine lv_iload_n hx hb dM_replacement_60 rfl (lv_at hl 2 rfl) ?_
      refine dw_ia (x := nI (y)) hx hb hG 2 0 rfl rfl (v) rfl (by omega) (by decide) e2 dM_replacement_61 ?_
      refine dw_ia (x := c9) hx hb hG 1 0 rfl rfl (y) rfl (by omega) (by decide) (ecy hky) dM_replacement_62 ?_
      refine lv_istore_n (lv' := [(3, .int (c9)), (2, .int (0)), (0, .ref m0), (1, .int (nI (v)))]) hx hb dM_replacement_63 rfl hl (by decide) rfl (fun ls hl => ?_)
      refine lv_aload_n hx hb dM_replacement_64 rfl (lv_at hl 2 rfl) ?_
      refine dw_get hx hb hts inMc hown hG 3 2 rfl rfl (by decide) hw496 rfl rfl dM_replacement_65 ?_
      refine lv_iload_n hx hb dM_replacement_68 rfl (lv_at hl 3 rfl) ?_
      refine dw_ia (x := 2) hx hb hG 0 0 rfl rfl (v) rfl (by omega) (by decide) em dM_replacement_69 ?_
      refine lv_iconst (v := 3) hx hb dM_replacement_70 (by decide) ?_
      refine lv_icmp_ne (tgt := 85) hx hb dM_replacement_71 (by decide) (fun h71 => ?_) (fun h71 => ?_)
      · skip
        replace h71 : ¬ 2 = 3 := fun hq0 => h71 ((nI_eq (a := 2) (b := 3) (by omega) (by omega)).mpr hq0)
        refine lv_aload_n hx hb dM_replacement_85 rfl (lv_at hl 2 rfl) ?_
        refine dw_get hx hb hts inMc hown hG 3 2 rfl rfl (by decide) hw496 rfl rfl dM_replacement_86 ?_
        refine lv_iload_n hx hb dM_replacement_89 rfl (lv_at hl 3 rfl) ?_
        refine dw_ia (x := 2) hx hb hG 0 0 rfl rfl (v) rfl (by omega) (by decide) em dM_replacement_90 ?_
        refine lv_iconst (v := 4) hx hb dM_replacement_91 (by decide) ?_
        refine lv_icmp_ne (tgt := 106) hx hb dM_replacement_92 (by decide) (fun h92 => ?_) (fun h92 => ?_)
        · skip
          replace h92 : ¬ 2 = 4 := fun hq0 => h92 ((nI_eq (a := 2) (b := 4) (by omega) (by omega)).mpr hq0)
          refine lv_aload_n hx hb dM_replacement_106 rfl (lv_at hl 2 rfl) ?_
          refine dw_get hx hb hts inMc hown hG 3 2 rfl rfl (by decide) hw496 rfl rfl dM_replacement_107 ?_
          refine lv_iload_n hx hb dM_replacement_110 rfl (lv_at hl 3 rfl) ?_
          refine dw_ia (x := 2) hx hb hG 0 0 rfl rfl (v) rfl (by omega) (by decide) em dM_replacement_111 ?_
          refine lv_iconst (v := 2) hx hb dM_replacement_112 (by decide) ?_
          refine lv_icmp_eq (tgt := 131) hx hb dM_replacement_113 (by decide) (fun h113 => ?_) (fun h113 => ?_)
          · skip
            replace h113 := (nI_eq (a := 2) (b := 2) (by omega) (by omega)).mp h113
            refine lv_iconst (v := 0) hx hb dM_replacement_131 (by decide) ?_
            refine lv_istore_n (lv' := [(2, .int (0)), (3, .int (c9)), (0, .ref m0), (1, .int (nI (v)))]) hx hb dM_replacement_132 rfl hl (by decide) rfl (fun ls hl => ?_)
            refine lv_iload_n hx hb dM_replacement_133 rfl (lv_at hl 0 rfl) ?_
            refine lv_if_ne (tgt := 179) hx hb dM_replacement_134 (by decide) (fun h134 => ?_) (fun h134 => ?_)
            · skip
              replace h134 : ¬ 0 = 0 := fun hq0 => h134 ((nI_eq (a := 0) (b := 0) (by omega) (by omega)).mpr hq0)
              (exfalso; omega)
            replace h134 := (nI_eq (a := 0) (b := 0) (by omega) (by omega)).mp h134
            refine lv_aload_n hx hb dM_replacement_137 rfl (lv_at hl 2 rfl) ?_
            refine dw_get hx hb hts inMc hown hG 3 2 rfl rfl (by decide) hw496 rfl rfl dM_replacement_138 ?_
            refine lv_iload_n hx hb dM_replacement_141 rfl (lv_at hl 3 rfl) ?_
            refine dw_ia (x := 2) hx hb hG 0 0 rfl rfl (v) rfl (by omega) (by decide) em dM_replacement_142 ?_
            refine lv_bipush (v := 9) hx hb dM_replacement_143 (by decide) ?_
            refine lv_icmp_ne (tgt := 158) hx hb dM_replacement_145 (by decide) (fun h145 => ?_) (fun h145 => ?_)
            · skip
              replace h145 : ¬ 2 = 9 := fun hq0 => h145 ((nI_eq (a := 2) (b := 9) (by omega) (by omega)).mpr hq0)
              refine lv_aload_n hx hb dM_replacement_158 rfl (lv_at hl 2 rfl) ?_
              refine dw_get hx hb hts inMc hown hG 3 2 rfl rfl (by decide) hw496 rfl rfl dM_replacement_159 ?_
              refine lv_iload_n hx hb dM_replacement_162 rfl (lv_at hl 3 rfl) ?_
              refine dw_ia (x := 2) hx hb hG 0 0 rfl rfl (v) rfl (by omega) (by decide) em dM_replacement_163 ?_
              refine lv_bipush (v := 10) hx hb dM_replacement_164 (by decide) ?_
              refine lv_icmp_ne (tgt := 183) hx hb dM_replacement_166 (by decide) (fun h166 => ?_) (fun h166 => ?_)
              · skip
                replace h166 : ¬ 2 = 10 := fun hq0 => h166 ((nI_eq (a := 2) (b := 10) (by omega) (by omega)).mpr hq0)
                refine lv_iconst (v := 0) hx hb dM_replacement_183 (by decide) ?_
                refine lv_istore_n (lv' := [(2, .int (0)), (3, .int (c9)), (0, .ref m0), (1, .int (nI (v)))]) hx hb dM_replacement_184 rfl hl (by decide) rfl (fun ls hl => ?_)
                refine lv_iload_n hx hb dM_replacement_185 rfl (lv_at hl 0 rfl) ?_
                refine lv_if_eq (tgt := 198) hx hb dM_replacement_186 (by decide) (fun h186 => ?_) (fun h186 => ?_)
                · skip
                  replace h186 := (nI_eq (a := 0) (b := 0) (by omega) (by omega)).mp h186
                  refine lv_iconst (v := -1) hx hb dM_replacement_198 (by decide) ?_
                  subst hQ
                  exact dw_iret hx hb hr (dw_perm hG [3, 0, 1, 2, 4, 5] (by decide) rfl rfl) (()) rfl (by unfold db_Bv; rw [if_neg (by decide), if_neg hkn]; exact (if_neg (by show ¬ false = true; decide)).symm) dM_replacement_199 hlocks
                replace h186 : ¬ 0 = 0 := fun hq0 => h186 ((nI_eq (a := 0) (b := 0) (by omega) (by omega)).mpr hq0)
                (exfalso; omega)
              replace h166 := (nI_eq (a := 2) (b := 10) (by omega) (by omega)).mp h166
              (exfalso; omega)
            replace h145 := (nI_eq (a := 2) (b := 9) (by omega) (by omega)).mp h145
            (exfalso; omega)
          replace h113 : ¬ 2 = 2 := fun hq0 => h113 ((nI_eq (a := 2) (b := 2) (by omega) (by omega)).mpr hq0)
          (exfalso; omega)
        replace h92 := (nI_eq (a := 2) (b := 4) (by omega) (by omega)).mp h92
        (exfalso; omega)
      replace h71 := (nI_eq (a := 2) (b := 3) (by omega) (by omega)).mp h71
      (exfalso; omega)
    replace h18 : ¬ 0 = 0 := fun hq0 => h18 ((nI_eq (a := 0) (b := 0) (by omega) (by omega)).mpr hq0)
    (exfalso; omega)
  replace h8 := (nI_eq (a := 2) (b := 13) (by omega) (by omega)).mp h8
  (exfalso; omega)

set_option maxRecDepth 100000 in
set_option maxHeartbeats 4000000 in
theorem rf_rep3 (l : Launch) (dC : Nat → ClassId) (dI : Nat → Nat → Nat) (cI cZ : ClassId) (m0 aMd aO1 aT2 aSh aMk aFa aDe aNe aBy aPi aNw aNs aBf : Nat) (ft vl rs pd rn rr : Int32) (v x y ky : Nat) (Md O1 T2 Fa De : Nat → Int32) (c9 d z o : Int32) (sz : Nat) (hv : v < 24) (em : Md v = nI 3) (hd : db_set De v d) (hf : db_rep Fa v z o) (e1 : O1 v = nI x) (hy9 : y < 24) (e2 : T2 v = nI y) (hky13 : ky ≤ 13) (emy : Md y = nI (db_rk ky)) (ecy : ky = 10 → O1 y = c9) : Met l yM_replacement wsM_replacement { frames := 2, cells := 0, slots := 0, locals := 60 } (va_Pc [.ref m0, .int (nI (v))] (dw_pre (dC, dI) vwCl [(m0, .inr (5, [.int (ft), .int (vl), .ref aMd, .ref aO1, .ref aT2, .int (rs), .ref aSh, .ref aMk, .ref aFa, .ref aDe, .ref aNe, .ref aBy, .ref aPi, .int (pd), .ref aNw, .ref aNs, .ref aBf, .int (rn), .int (rr)])), (aMd, .inl (cI, 24, .inl (Md))), (aO1, .inl (cI, 24, .inl (O1))), (aT2, .inl (cI, 24, .inl (T2))), (aFa, .inl (cI, 768, .inl (Fa))), (aDe, .inl (cZ, 768, .inl (De)))] [(cI, .int), (cZ, .boolean)] sz)) (va_Qi (fun (r : Int32) (u : Unit) => r = db_Bv 3 x ky c9 d z o) (fun u t => dw_post (dC, dI) vwCl [(m0, .inr (5, [.int (ft), .int (vl), .ref aMd, .ref aO1, .ref aT2, .int (rs), .ref aSh, .ref aMk, .ref aFa, .ref aDe, .ref aNe, .ref aBy, .ref aPi, .int (pd), .ref aNw, .ref aNs, .ref aBf, .int (rn), .int (rr)])), (aMd, .inl (cI, 24, .inl (Md))), (aO1, .inl (cI, 24, .inl (O1))), (aT2, .inl (cI, 24, .inl (T2))), (aFa, .inl (cI, 768, .inl (Fa))), (aDe, .inl (cZ, 768, .inl (De)))] [(cI, .int), (cZ, .boolean)] (va_A [(m0, .inr (5, [.int (ft), .int (vl), .ref aMd, .ref aO1, .ref aT2, .int (rs), .ref aSh, .ref aMk, .ref aFa, .ref aDe, .ref aNe, .ref aBy, .ref aPi, .int (pd), .ref aNw, .ref aNs, .ref aBf, .int (rn), .int (rr)])), (aMd, .inl (cI, 24, .inl (Md))), (aO1, .inl (cI, 24, .inl (O1))), (aT2, .inl (cI, 24, .inl (T2))), (aFa, .inl (cI, 768, .inl (Fa))), (aDe, .inl (cZ, 768, .inl (De)))] sz) t) (va_A [(m0, .inr (5, [.int (ft), .int (vl), .ref aMd, .ref aO1, .ref aT2, .int (rs), .ref aSh, .ref aMk, .ref aFa, .ref aDe, .ref aNe, .ref aBy, .ref aPi, .int (pd), .ref aNw, .ref aNs, .ref aBf, .int (rn), .int (rr)])), (aMd, .inl (cI, 24, .inl (Md))), (aO1, .inl (cI, 24, .inl (O1))), (aT2, .inl (cI, 24, .inl (T2))), (aFa, .inl (cI, 768, .inl (Fa))), (aDe, .inl (cZ, 768, .inl (De)))] sz)) 0 0 (va_A [(m0, .inr (5, [.int (ft), .int (vl), .ref aMd, .ref aO1, .ref aT2, .int (rs), .ref aSh, .ref aMk, .ref aFa, .ref aDe, .ref aNe, .ref aBy, .ref aPi, .int (pd), .ref aNw, .ref aNs, .ref aBf, .int (rn), .int (rr)])), (aMd, .inl (cI, 24, .inl (Md))), (aO1, .inl (cI, 24, .inl (O1))), (aT2, .inl (cI, 24, .inl (T2))), (aFa, .inl (cI, 768, .inl (Fa))), (aDe, .inl (cZ, 768, .inl (De)))] sz) := by
  refine Met.ofW (cc := cM_replacement) (maxL := 4) (ret := (some .int)) (by decide) rfl ?_
  intro p e s m args below meth c s₁ B hml hv0
  have hx := B.exec
  have hb := B.bytes
  have hr := B.returns
  have hts := atoms_spec (ws := wsM_replacement) B.pre
  have hown : s.vm.findClass RM = some m.cls := findClass_of_methodNamed B.named
  have hlocks := B.notSynchronized
  obtain ⟨rfl, hsz, hG⟩ := dw_enter hv0
  generalize va_A [(m0, .inr (5, [.int (ft), .int (vl), .ref aMd, .ref aO1, .ref aT2, .int (rs), .ref aSh, .ref aMk, .ref aFa, .ref aDe, .ref aNe, .ref aBy, .ref aPi, .int (pd), .ref aNw, .ref aNs, .ref aBf, .int (rn), .int (rr)])), (aMd, .inl (cI, 24, .inl (Md))), (aO1, .inl (cI, 24, .inl (O1))), (aT2, .inl (cI, 24, .inl (T2))), (aFa, .inl (cI, 768, .inl (Fa))), (aDe, .inl (cZ, 768, .inl (De)))] sz = A at hG ⊢
  have hl := lv_entry ([.ref m0, .int (nI (v))]) (n := 4) (Nat.le_of_ble_eq_true rfl)
  rw [lg_entry_eq]
  generalize (lg_sl ([.ref m0, .int (nI (v))]) ++ List.replicate (4 - (lg_sl ([.ref m0, .int (nI (v))])).length) Slot.unset).toArray = ls at hl ⊢
  have hl : lv_has ls 4 [(0, .ref m0), (1, .int (nI (v)))] := hl
  have hw496 := hts _ (List.mem_cons_of_mem _ tw_496)
  have hw498 := hts _ (List.mem_cons_of_mem _ tw_498)
  have hw497 := hts _ (List.mem_cons_of_mem _ tw_497)
  have hrky := db_rk_le hky13
  refine dw_Q (fun Q hQ => ?_)
  suffices hgo : ∀ (H : Heap) (locs : List Loc), dw_G (dC, dI) vwCl [(cI, .int), (cZ, .boolean)] A s.heap s [(m0, .inr (5, [.int (ft), .int (vl), .ref aMd, .ref aO1, .ref aT2, .int (rs), .ref aSh, .ref aMk, .ref aFa, .ref aDe, .ref aNe, .ref aBy, .ref aPi, .int (pd), .ref aNw, .ref aNs, .ref aBf, .int (rn), .int (rr)])), (aMd, .inl (cI, 24, .inl (Md))), (aO1, .inl (cI, 24, .inl (O1))), (aT2, .inl (cI, 24, .inl (T2))), (aFa, .inl (cI, 768, .inl (Fa))), (aDe, .inl (cZ, 768, .inl (De)))] H locs → W p l e (headSpec wsM_replacement { frames := 2, cells := 0, slots := 0, locals := 60 }).room s m [.ref m0, .int (nI (v))].toArray below meth c H locs 0 0 Q (F0 m 0 ls []) from hgo _ _ hG
  clear hG
  intro H locs hG
  refine lv_aload_n hx hb dM_replacement_0 rfl (lv_at hl 0 rfl) ?_
  refine dw_get hx hb hts inMc hown hG 0 2 rfl rfl (by decide) hw496 rfl rfl dM_replacement_1 ?_
  refine lv_iload_n hx hb dM_replacement_4 rfl (lv_at hl 1 rfl) ?_
  refine dw_ia (x := 3) hx hb hG 1 0 rfl rfl (v) rfl (by omega) (by decide) em dM_replacement_5 ?_
  refine lv_bipush (v := 13) hx hb dM_replacement_6 (by decide) ?_
  refine lv_icmp_ne (tgt := 13) hx hb dM_replacement_8 (by decide) (fun h8 => ?_) (fun h8 => ?_)
  · skip
    replace h8 : ¬ 3 = 13 := fun hq0 => h8 ((nI_eq (a := 3) (b := 13) (by omega) (by omega)).mpr hq0)
    refine lv_aload_n hx hb dM_replacement_13 rfl (lv_at hl 0 rfl) ?_
    refine lv_iload_n hx hb dM_replacement_14 rfl (lv_at hl 1 rfl) ?_
    refine dw_calli (wc := [(m0, .inr (5, [.int (ft), .int (vl), .ref aMd, .ref aO1, .ref aT2, .int (rs), .ref aSh, .ref aMk, .ref aFa, .ref aDe, .ref aNe, .ref aBy, .ref aPi, .int (pd), .ref aNw, .ref aNs, .ref aBf, .int (rn), .int (rr)])), (aFa, .inl (cI, 768, .inl (Fa))), (aDe, .inl (cZ, 768, .inl (De)))]) (wr := [(aMd, .inl (cI, 24, .inl (Md))), (aO1, .inl (cI, 24, .inl (O1))), (aT2, .inl (cI, 24, .inl (T2)))]) hG [0, 4, 5] [1, 2, 3] rfl rfl (by decide) (by decide) (va_runV (As := [.int (nI (v))]) (rest := []) ⟨hx, hb, hml, hown, hts⟩ (rf_isKnown l dC dI cI cZ m0 aMd aO1 aT2 aSh aMk aFa aDe aNe aBy aPi aNw aNs aBf ft vl rs pd rn rr v Fa De d z o H.size hv hd hf) (dc_V 1 hts tw_664 tw_666 tp_M_isKnown tw_7 tw_667 rfl rfl (by decide +kernel) ⟨Nat.le_of_ble_eq_true rfl, Nat.le_of_ble_eq_true rfl⟩) (dw_preV (ci := 5) hG [0, 4, 5] [0, 1] rfl rfl (by decide) rfl rfl (q0 := 0) rfl) rfl rfl hl.1 rfl (lv_room (Nat.le_of_ble_eq_true rfl)) dM_replacement_15 ⟨Nat.le_refl _, Nat.le_refl _⟩) (fun r u H locs hp hG => ?_)
    subst hp
    have hG : dw_G (dC, dI) vwCl [(cI, .int), (cZ, .boolean)] A s.heap s [(aMd, .inl (cI, 24, .inl (Md))), (aO1, .inl (cI, 24, .inl (O1))), (aT2, .inl (cI, 24, .inl (T2))), (m0, .inr (5, [.int (ft), .int (vl), .ref aMd, .ref aO1, .ref aT2, .int (rs), .ref aSh, .ref aMk, .ref aFa, .ref aDe, .ref aNe, .ref aBy, .ref aPi, .int (pd), .ref aNw, .ref aNs, .ref aBf, .int (rn), .int (rr)])), (aFa, .inl (cI, 768, .inl (Fa))), (aDe, .inl (cZ, 768, .inl (De)))] H locs := hG
    rcases Decidable.em (d &&& ((z ||| o) ^^^ (-1)) = 0) with hkn | hkn
    · skip
      refine lv_topi (nm_r (show (if d &&& ((z ||| o) ^^^ (-1)) = 0 then 1 else 0 : Int32) = 1 from (if_pos hkn)) ?_)
      refine lv_if_eq (tgt := 24) hx hb dM_replacement_18 (by decide) (fun h18 => ?_) (fun h18 => ?_)
      · skip
        replace h18 := (nI_eq (a := 1) (b := 0) (by omega) (by omega)).mp h18
        (exfalso; omega)
      replace h18 : ¬ 1 = 0 := fun hq0 => h18 ((nI_eq (a := 1) (b := 0) (by omega) (by omega)).mpr hq0)
      refine lv_bipush (v := -2) hx hb dM_replacement_21 (by decide) ?_
      subst hQ
      exact dw_iret hx hb hr (dw_perm hG [3, 0, 1, 2, 4, 5] (by decide) rfl rfl) (()) rfl (by unfold db_Bv; rw [if_neg (by decide), if_pos hkn]) dM_replacement_23 hlocks
    refine lv_topi (nm_r (show (if d &&& ((z ||| o) ^^^ (-1)) = 0 then 1 else 0 : Int32) = 0 from (if_neg hkn)) ?_)
    refine lv_if_eq (tgt := 24) hx hb dM_replacement_18 (by decide) (fun h18 => ?_) (fun h18 => ?_)
    · skip
      replace h18 := (nI_eq (a := 0) (b := 0) (by omega) (by omega)).mp h18
      refine lv_iconst (v := 0) hx hb dM_replacement_24 (by decide) ?_
      refine lv_istore_n (lv' := [(2, .int (0)), (0, .ref m0), (1, .int (nI (v)))]) hx hb dM_replacement_25 rfl hl (by decide) rfl (fun ls hl => ?_)
      refine lv_aload_n hx hb dM_replacement_26 rfl (lv_at hl 1 rfl) ?_
      refine dw_get hx hb hts inMc hown hG 3 2 rfl rfl (by decide) hw496 rfl rfl dM_replacement_27 ?_
      refine lv_iload_n hx hb dM_replacement_30 rfl (lv_at hl 2 rfl) ?_
      refine dw_ia (x := 3) hx hb hG 0 0 rfl rfl (v) rfl (by omega) (by decide) em dM_replacement_31 ?_
      refine lv_iconst (v := 5) hx hb dM_replacement_32 (by decide) ?_
      refine lv_icmp_gt (tgt := 133) hx hb dM_replacement_33 (by decide) (fun h33 => ?_) (fun h33 => ?_)
      · skip
        replace h33 := (nI_ltI (a := 5) (b := 3) (by omega) (by omega)).mp h33
        (exfalso; omega)
      replace h33 : ¬ 5 < 3 := fun hq0 => h33 ((nI_ltI (a := 5) (b := 3) (by omega) (by omega)).mpr hq0)
      refine lv_aload_n hx hb dM_replacement_36 rfl (lv_at hl 1 rfl) ?_
      refine dw_get hx hb hts inMc hown hG 3 2 rfl rfl (by decide) hw496 rfl rfl dM_replacement_37 ?_
      refine lv_aload_n hx hb dM_replacement_40 rfl (lv_at hl 1 rfl) ?_
      refine dw_get hx hb hts inMc hown hG 3 4 rfl rfl (by decide) hw498 rfl rfl dM_replacement_41 ?_
      refine lv_iload_n hx hb dM_replacement_44 rfl (lv_at hl 2 rfl) ?_
      refine dw_ia (x := nI (y)) hx hb hG 2 0 rfl rfl (v) rfl (by omega) (by decide) e2 dM_replacement_45 ?_
      refine dw_ia (x := nI (db_rk ky)) hx hb hG 0 0 rfl rfl (y) rfl (by omega) (by decide) emy dM_replacement_46 ?_
      refine lv_bipush (v := 13) hx hb dM_replacement_47 (by decide) ?_
      refine lv_icmp_ne (tgt := 133) hx hb dM_replacement_49 (by decide) (fun h49 => ?_) (fun h49 => ?_)
      · skip
        replace h49 : ¬ db_rk ky = 13 := fun hq0 => h49 ((nI_eq (a := db_rk ky) (b := 13) (by omega) (by omega)).mpr hq0)
        refine lv_iload_n hx hb dM_replacement_133 rfl (lv_at hl 0 rfl) ?_
        refine lv_if_ne (tgt := 179) hx hb dM_replacement_134 (by decide) (fun h134 => ?_) (fun h134 => ?_)
        · skip
          replace h134 : ¬ 0 = 0 := fun hq0 => h134 ((nI_eq (a := 0) (b := 0) (by omega) (by omega)).mpr hq0)
          (exfalso; omega)
        replace h134 := (nI_eq (a := 0) (b := 0) (by omega) (by omega)).mp h134
        refine lv_aload_n hx hb dM_replacement_137 rfl (lv_at hl 1 rfl) ?_
        refine dw_get hx hb hts inMc hown hG 3 2 rfl rfl (by decide) hw496 rfl rfl dM_replacement_138 ?_
        refine lv_iload_n hx hb dM_replacement_141 rfl (lv_at hl 2 rfl) ?_
        refine dw_ia (x := 3) hx hb hG 0 0 rfl rfl (v) rfl (by omega) (by decide) em dM_replacement_142 ?_
        refine lv_bipush (v := 9) hx hb dM_replacement_143 (by decide) ?_
        refine lv_icmp_ne (tgt := 158) hx hb dM_replacement_145 (by decide) (fun h145 => ?_) (fun h145 => ?_)
        · skip
          replace h145 : ¬ 3 = 9 := fun hq0 => h145 ((nI_eq (a := 3) (b := 9) (by omega) (by omega)).mpr hq0)
          refine lv_aload_n hx hb dM_replacement_158 rfl (lv_at hl 1 rfl) ?_
          refine dw_get hx hb hts inMc hown hG 3 2 rfl rfl (by decide) hw496 rfl rfl dM_replacement_159 ?_
          refine lv_iload_n hx hb dM_replacement_162 rfl (lv_at hl 2 rfl) ?_
          refine dw_ia (x := 3) hx hb hG 0 0 rfl rfl (v) rfl (by omega) (by decide) em dM_replacement_163 ?_
          refine lv_bipush (v := 10) hx hb dM_replacement_164 (by decide) ?_
          refine lv_icmp_ne (tgt := 183) hx hb dM_replacement_166 (by decide) (fun h166 => ?_) (fun h166 => ?_)
          · skip
            replace h166 : ¬ 3 = 10 := fun hq0 => h166 ((nI_eq (a := 3) (b := 10) (by omega) (by omega)).mpr hq0)
            refine lv_iconst (v := 0) hx hb dM_replacement_183 (by decide) ?_
            refine lv_istore_n (lv' := [(2, .int (0)), (0, .ref m0), (1, .int (nI (v)))]) hx hb dM_replacement_184 rfl hl (by decide) rfl (fun ls hl => ?_)
            refine lv_iload_n hx hb dM_replacement_185 rfl (lv_at hl 0 rfl) ?_
            refine lv_if_eq (tgt := 198) hx hb dM_replacement_186 (by decide) (fun h186 => ?_) (fun h186 => ?_)
            · skip
              replace h186 := (nI_eq (a := 0) (b := 0) (by omega) (by omega)).mp h186
              refine lv_iconst (v := -1) hx hb dM_replacement_198 (by decide) ?_
              subst hQ
              exact dw_iret hx hb hr (dw_perm hG [3, 0, 1, 2, 4, 5] (by decide) rfl rfl) (()) rfl (by unfold db_Bv; rw [if_neg (by decide), if_neg hkn]; exact (if_neg (by show ¬ (decide (ky = 10) && decide (d &&& (c9 ^^^ (-1)) = 0)) = true; rw [decide_eq_false (fun q => h49 ((db_rk10 hky13).mpr q)), Bool.false_and]; decide)).symm) dM_replacement_199 hlocks
            replace h186 : ¬ 0 = 0 := fun hq0 => h186 ((nI_eq (a := 0) (b := 0) (by omega) (by omega)).mpr hq0)
            (exfalso; omega)
          replace h166 := (nI_eq (a := 3) (b := 10) (by omega) (by omega)).mp h166
          (exfalso; omega)
        replace h145 := (nI_eq (a := 3) (b := 9) (by omega) (by omega)).mp h145
        (exfalso; omega)
      replace h49 := (nI_eq (a := db_rk ky) (b := 13) (by omega) (by omega)).mp h49
      have hky : ky = 10 := (db_rk10 hky13).mp h49
      refine lv_aload_n hx hb dM_replacement_52 rfl (lv_at hl 1 rfl) ?_
      refine dw_get hx hb hts inMc hown hG 3 3 rfl rfl (by decide) hw497 rfl rfl dM_replacement_53 ?_
      refine lv_aload_n hx hb dM_replacement_56 rfl (lv_at hl 1 rfl) ?_
      refine dw_get hx hb hts inMc hown hG 3 4 rfl rfl (by decide) hw498 rfl rfl dM_replacement_57 ?_
      refine lv_iload_n hx hb dM_replacement_60 rfl (lv_at hl 2 rfl) ?_
      refine dw_ia (x := nI (y)) hx hb hG 2 0 rfl rfl (v) rfl (by omega) (by decide) e2 dM_replacement_61 ?_
      refine dw_ia (x := c9) hx hb hG 1 0 rfl rfl (y) rfl (by omega) (by decide) (ecy hky) dM_replacement_62 ?_
      refine lv_istore_n (lv' := [(3, .int (c9)), (2, .int (0)), (0, .ref m0), (1, .int (nI (v)))]) hx hb dM_replacement_63 rfl hl (by decide) rfl (fun ls hl => ?_)
      refine lv_aload_n hx hb dM_replacement_64 rfl (lv_at hl 2 rfl) ?_
      refine dw_get hx hb hts inMc hown hG 3 2 rfl rfl (by decide) hw496 rfl rfl dM_replacement_65 ?_
      refine lv_iload_n hx hb dM_replacement_68 rfl (lv_at hl 3 rfl) ?_
      refine dw_ia (x := 3) hx hb hG 0 0 rfl rfl (v) rfl (by omega) (by decide) em dM_replacement_69 ?_
      refine lv_iconst (v := 3) hx hb dM_replacement_70 (by decide) ?_
      refine lv_icmp_ne (tgt := 85) hx hb dM_replacement_71 (by decide) (fun h71 => ?_) (fun h71 => ?_)
      · skip
        replace h71 : ¬ 3 = 3 := fun hq0 => h71 ((nI_eq (a := 3) (b := 3) (by omega) (by omega)).mpr hq0)
        (exfalso; omega)
      replace h71 := (nI_eq (a := 3) (b := 3) (by omega) (by omega)).mp h71
      refine lv_aload_n hx hb dM_replacement_74 rfl (lv_at hl 2 rfl) ?_
      refine lv_iload_n hx hb dM_replacement_75 rfl (lv_at hl 3 rfl) ?_
      refine lv_iload_n hx hb dM_replacement_76 rfl (lv_at hl 0 rfl) ?_
      refine lv_iconst (v := 1) hx hb dM_replacement_77 (by decide) ?_
      refine lv_iconst (v := 0) hx hb dM_replacement_78 (by decide) ?_
      refine dw_calli (wc := [(m0, .inr (5, [.int (ft), .int (vl), .ref aMd, .ref aO1, .ref aT2, .int (rs), .ref aSh, .ref aMk, .ref aFa, .ref aDe, .ref aNe, .ref aBy, .ref aPi, .int (pd), .ref aNw, .ref aNs, .ref aBf, .int (rn), .int (rr)])), (aDe, .inl (cZ, 768, .inl (De)))]) (wr := [(aMd, .inl (cI, 24, .inl (Md))), (aO1, .inl (cI, 24, .inl (O1))), (aT2, .inl (cI, 24, .inl (T2))), (aFa, .inl (cI, 768, .inl (Fa)))]) hG [3, 5] [0, 1, 2, 4] rfl rfl (by decide) (by decide) (va_runV (As := [.int (nI (v)), .int (c9), .int (1), .int (0)]) (rest := []) ⟨hx, hb, hml, hown, hts⟩ (rf_areIn10 l dC dI cI cZ m0 aMd aO1 aT2 aSh aMk aFa aDe aNe aBy aPi aNw aNs aBf ft vl rs pd rn rr v De c9 d H.size hv hd) (dc_V 4 hts tw_668 tw_670 tp_M_areIn tw_7 tw_671 rfl rfl (by decide +kernel) ⟨Nat.le_of_ble_eq_true rfl, Nat.le_of_ble_eq_true rfl⟩) (dw_preV (ci := 5) hG [3, 5] [0, 1] rfl rfl (by decide) rfl rfl (q0 := 3) rfl) rfl rfl hl.1 rfl (lv_room (Nat.le_of_ble_eq_true rfl)) dM_replacement_79 ⟨Nat.le_refl _, Nat.le_refl _⟩) (fun r u H locs hp hG => ?_)
      subst hp
      have hG : dw_G (dC, dI) vwCl [(cI, .int), (cZ, .boolean)] A s.heap s [(aMd, .inl (cI, 24, .inl (Md))), (aO1, .inl (cI, 24, .inl (O1))), (aT2, .inl (cI, 24, .inl (T2))), (aFa, .inl (cI, 768, .inl (Fa))), (m0, .inr (5, [.int (ft), .int (vl), .ref aMd, .ref aO1, .ref aT2, .int (rs), .ref aSh, .ref aMk, .ref aFa, .ref aDe, .ref aNe, .ref aBy, .ref aPi, .int (pd), .ref aNw, .ref aNs, .ref aBf, .int (rn), .int (rr)])), (aDe, .inl (cZ, 768, .inl (De)))] H locs := hG
      rcases Decidable.em (d &&& (c9 ^^^ (-1)) = 0) with hc | hc
      · skip
        refine lv_topi (nm_r (show (if d &&& (c9 ^^^ (-1)) = 0 then 1 else 0 : Int32) = 1 from (if_pos hc)) ?_)
        refine lv_goto (tgt := 132) hx hb dM_replacement_82 (by decide) ?_
        refine lv_istore_n (lv' := [(2, .int (1)), (3, .int (c9)), (0, .ref m0), (1, .int (nI (v)))]) hx hb dM_replacement_132 rfl hl (by decide) rfl (fun ls hl => ?_)
        refine lv_iload_n hx hb dM_replacement_133 rfl (lv_at hl 0 rfl) ?_
        refine lv_if_ne (tgt := 179) hx hb dM_replacement_134 (by decide) (fun h134 => ?_) (fun h134 => ?_)
        · skip
          replace h134 : ¬ 1 = 0 := fun hq0 => h134 ((nI_eq (a := 1) (b := 0) (by omega) (by omega)).mpr hq0)
          refine lv_iconst (v := 1) hx hb dM_replacement_179 (by decide) ?_
          refine lv_goto (tgt := 184) hx hb dM_replacement_180 (by decide) ?_
          refine lv_istore_n (lv' := [(2, .int (1)), (3, .int (c9)), (0, .ref m0), (1, .int (nI (v)))]) hx hb dM_replacement_184 rfl hl (by decide) rfl (fun ls hl => ?_)
          refine lv_iload_n hx hb dM_replacement_185 rfl (lv_at hl 0 rfl) ?_
          refine lv_if_eq (tgt := 198) hx hb dM_replacement_186 (by decide) (fun h186 => ?_) (fun h186 => ?_)
          · skip
            replace h186 := (nI_eq (a := 1) (b := 0) (by omega) (by omega)).mp h186
            (exfalso; omega)
          replace h186 : ¬ 1 = 0 := fun hq0 => h186 ((nI_eq (a := 1) (b := 0) (by omega) (by omega)).mpr hq0)
          refine lv_aload_n hx hb dM_replacement_189 rfl (lv_at hl 2 rfl) ?_
          refine dw_get hx hb hts inMc hown hG 4 3 rfl rfl (by decide) hw497 rfl rfl dM_replacement_190 ?_
          refine lv_iload_n hx hb dM_replacement_193 rfl (lv_at hl 3 rfl) ?_
          refine dw_ia (x := nI (x)) hx hb hG 1 0 rfl rfl (v) rfl (by omega) (by decide) e1 dM_replacement_194 ?_
          refine lv_goto (tgt := 199) hx hb dM_replacement_195 (by decide) ?_
          subst hQ
          exact dw_iret hx hb hr (dw_perm hG [4, 0, 1, 2, 3, 5] (by decide) rfl rfl) (()) rfl (by unfold db_Bv; rw [if_neg (by decide), if_neg hkn]; exact (if_pos (by show (decide (ky = 10) && decide (d &&& (c9 ^^^ (-1)) = 0)) = true; rw [decide_eq_true hky, decide_eq_true hc]; rfl)).symm) dM_replacement_199 hlocks
        replace h134 := (nI_eq (a := 1) (b := 0) (by omega) (by omega)).mp h134
        (exfalso; omega)
      refine lv_topi (nm_r (show (if d &&& (c9 ^^^ (-1)) = 0 then 1 else 0 : Int32) = 0 from (if_neg hc)) ?_)
      refine lv_goto (tgt := 132) hx hb dM_replacement_82 (by decide) ?_
      refine lv_istore_n (lv' := [(2, .int (0)), (3, .int (c9)), (0, .ref m0), (1, .int (nI (v)))]) hx hb dM_replacement_132 rfl hl (by decide) rfl (fun ls hl => ?_)
      refine lv_iload_n hx hb dM_replacement_133 rfl (lv_at hl 0 rfl) ?_
      refine lv_if_ne (tgt := 179) hx hb dM_replacement_134 (by decide) (fun h134 => ?_) (fun h134 => ?_)
      · skip
        replace h134 : ¬ 0 = 0 := fun hq0 => h134 ((nI_eq (a := 0) (b := 0) (by omega) (by omega)).mpr hq0)
        (exfalso; omega)
      replace h134 := (nI_eq (a := 0) (b := 0) (by omega) (by omega)).mp h134
      refine lv_aload_n hx hb dM_replacement_137 rfl (lv_at hl 2 rfl) ?_
      refine dw_get hx hb hts inMc hown hG 4 2 rfl rfl (by decide) hw496 rfl rfl dM_replacement_138 ?_
      refine lv_iload_n hx hb dM_replacement_141 rfl (lv_at hl 3 rfl) ?_
      refine dw_ia (x := 3) hx hb hG 0 0 rfl rfl (v) rfl (by omega) (by decide) em dM_replacement_142 ?_
      refine lv_bipush (v := 9) hx hb dM_replacement_143 (by decide) ?_
      refine lv_icmp_ne (tgt := 158) hx hb dM_replacement_145 (by decide) (fun h145 => ?_) (fun h145 => ?_)
      · skip
        replace h145 : ¬ 3 = 9 := fun hq0 => h145 ((nI_eq (a := 3) (b := 9) (by omega) (by omega)).mpr hq0)
        refine lv_aload_n hx hb dM_replacement_158 rfl (lv_at hl 2 rfl) ?_
        refine dw_get hx hb hts inMc hown hG 4 2 rfl rfl (by decide) hw496 rfl rfl dM_replacement_159 ?_
        refine lv_iload_n hx hb dM_replacement_162 rfl (lv_at hl 3 rfl) ?_
        refine dw_ia (x := 3) hx hb hG 0 0 rfl rfl (v) rfl (by omega) (by decide) em dM_replacement_163 ?_
        refine lv_bipush (v := 10) hx hb dM_replacement_164 (by decide) ?_
        refine lv_icmp_ne (tgt := 183) hx hb dM_replacement_166 (by decide) (fun h166 => ?_) (fun h166 => ?_)
        · skip
          replace h166 : ¬ 3 = 10 := fun hq0 => h166 ((nI_eq (a := 3) (b := 10) (by omega) (by omega)).mpr hq0)
          refine lv_iconst (v := 0) hx hb dM_replacement_183 (by decide) ?_
          refine lv_istore_n (lv' := [(2, .int (0)), (3, .int (c9)), (0, .ref m0), (1, .int (nI (v)))]) hx hb dM_replacement_184 rfl hl (by decide) rfl (fun ls hl => ?_)
          refine lv_iload_n hx hb dM_replacement_185 rfl (lv_at hl 0 rfl) ?_
          refine lv_if_eq (tgt := 198) hx hb dM_replacement_186 (by decide) (fun h186 => ?_) (fun h186 => ?_)
          · skip
            replace h186 := (nI_eq (a := 0) (b := 0) (by omega) (by omega)).mp h186
            refine lv_iconst (v := -1) hx hb dM_replacement_198 (by decide) ?_
            subst hQ
            exact dw_iret hx hb hr (dw_perm hG [4, 0, 1, 2, 3, 5] (by decide) rfl rfl) (()) rfl (by unfold db_Bv; rw [if_neg (by decide), if_neg hkn]; exact (if_neg (by show ¬ (decide (ky = 10) && decide (d &&& (c9 ^^^ (-1)) = 0)) = true; rw [decide_eq_false hc, Bool.and_false]; decide)).symm) dM_replacement_199 hlocks
          replace h186 : ¬ 0 = 0 := fun hq0 => h186 ((nI_eq (a := 0) (b := 0) (by omega) (by omega)).mpr hq0)
          (exfalso; omega)
        replace h166 := (nI_eq (a := 3) (b := 10) (by omega) (by omega)).mp h166
        (exfalso; omega)
      replace h145 := (nI_eq (a := 3) (b := 9) (by omega) (by omega)).mp h145
      (exfalso; omega)
    replace h18 : ¬ 0 = 0 := fun hq0 => h18 ((nI_eq (a := 0) (b := 0) (by omega) (by omega)).mpr hq0)
    (exfalso; omega)
  replace h8 := (nI_eq (a := 3) (b := 13) (by omega) (by omega)).mp h8
  (exfalso; omega)

set_option maxRecDepth 100000 in
set_option maxHeartbeats 4000000 in
theorem rf_rep4 (l : Launch) (dC : Nat → ClassId) (dI : Nat → Nat → Nat) (cI cZ : ClassId) (m0 aMd aO1 aT2 aSh aMk aFa aDe aNe aBy aPi aNw aNs aBf : Nat) (ft vl rs pd rn rr : Int32) (v x y ky : Nat) (Md O1 T2 Fa De : Nat → Int32) (c9 d z o : Int32) (sz : Nat) (hv : v < 24) (em : Md v = nI 4) (hd : db_set De v d) (hf : db_rep Fa v z o) (e1 : O1 v = nI x) (hy9 : y < 24) (e2 : T2 v = nI y) (hky13 : ky ≤ 13) (emy : Md y = nI (db_rk ky)) (ecy : ky = 10 → O1 y = c9) : Met l yM_replacement wsM_replacement { frames := 2, cells := 0, slots := 0, locals := 60 } (va_Pc [.ref m0, .int (nI (v))] (dw_pre (dC, dI) vwCl [(m0, .inr (5, [.int (ft), .int (vl), .ref aMd, .ref aO1, .ref aT2, .int (rs), .ref aSh, .ref aMk, .ref aFa, .ref aDe, .ref aNe, .ref aBy, .ref aPi, .int (pd), .ref aNw, .ref aNs, .ref aBf, .int (rn), .int (rr)])), (aMd, .inl (cI, 24, .inl (Md))), (aO1, .inl (cI, 24, .inl (O1))), (aT2, .inl (cI, 24, .inl (T2))), (aFa, .inl (cI, 768, .inl (Fa))), (aDe, .inl (cZ, 768, .inl (De)))] [(cI, .int), (cZ, .boolean)] sz)) (va_Qi (fun (r : Int32) (u : Unit) => r = db_Bv 4 x ky c9 d z o) (fun u t => dw_post (dC, dI) vwCl [(m0, .inr (5, [.int (ft), .int (vl), .ref aMd, .ref aO1, .ref aT2, .int (rs), .ref aSh, .ref aMk, .ref aFa, .ref aDe, .ref aNe, .ref aBy, .ref aPi, .int (pd), .ref aNw, .ref aNs, .ref aBf, .int (rn), .int (rr)])), (aMd, .inl (cI, 24, .inl (Md))), (aO1, .inl (cI, 24, .inl (O1))), (aT2, .inl (cI, 24, .inl (T2))), (aFa, .inl (cI, 768, .inl (Fa))), (aDe, .inl (cZ, 768, .inl (De)))] [(cI, .int), (cZ, .boolean)] (va_A [(m0, .inr (5, [.int (ft), .int (vl), .ref aMd, .ref aO1, .ref aT2, .int (rs), .ref aSh, .ref aMk, .ref aFa, .ref aDe, .ref aNe, .ref aBy, .ref aPi, .int (pd), .ref aNw, .ref aNs, .ref aBf, .int (rn), .int (rr)])), (aMd, .inl (cI, 24, .inl (Md))), (aO1, .inl (cI, 24, .inl (O1))), (aT2, .inl (cI, 24, .inl (T2))), (aFa, .inl (cI, 768, .inl (Fa))), (aDe, .inl (cZ, 768, .inl (De)))] sz) t) (va_A [(m0, .inr (5, [.int (ft), .int (vl), .ref aMd, .ref aO1, .ref aT2, .int (rs), .ref aSh, .ref aMk, .ref aFa, .ref aDe, .ref aNe, .ref aBy, .ref aPi, .int (pd), .ref aNw, .ref aNs, .ref aBf, .int (rn), .int (rr)])), (aMd, .inl (cI, 24, .inl (Md))), (aO1, .inl (cI, 24, .inl (O1))), (aT2, .inl (cI, 24, .inl (T2))), (aFa, .inl (cI, 768, .inl (Fa))), (aDe, .inl (cZ, 768, .inl (De)))] sz)) 0 0 (va_A [(m0, .inr (5, [.int (ft), .int (vl), .ref aMd, .ref aO1, .ref aT2, .int (rs), .ref aSh, .ref aMk, .ref aFa, .ref aDe, .ref aNe, .ref aBy, .ref aPi, .int (pd), .ref aNw, .ref aNs, .ref aBf, .int (rn), .int (rr)])), (aMd, .inl (cI, 24, .inl (Md))), (aO1, .inl (cI, 24, .inl (O1))), (aT2, .inl (cI, 24, .inl (T2))), (aFa, .inl (cI, 768, .inl (Fa))), (aDe, .inl (cZ, 768, .inl (De)))] sz) := by
  refine Met.ofW (cc := cM_replacement) (maxL := 4) (ret := (some .int)) (by decide) rfl ?_
  intro p e s m args below meth c s₁ B hml hv0
  have hx := B.exec
  have hb := B.bytes
  have hr := B.returns
  have hts := atoms_spec (ws := wsM_replacement) B.pre
  have hown : s.vm.findClass RM = some m.cls := findClass_of_methodNamed B.named
  have hlocks := B.notSynchronized
  obtain ⟨rfl, hsz, hG⟩ := dw_enter hv0
  generalize va_A [(m0, .inr (5, [.int (ft), .int (vl), .ref aMd, .ref aO1, .ref aT2, .int (rs), .ref aSh, .ref aMk, .ref aFa, .ref aDe, .ref aNe, .ref aBy, .ref aPi, .int (pd), .ref aNw, .ref aNs, .ref aBf, .int (rn), .int (rr)])), (aMd, .inl (cI, 24, .inl (Md))), (aO1, .inl (cI, 24, .inl (O1))), (aT2, .inl (cI, 24, .inl (T2))), (aFa, .inl (cI, 768, .inl (Fa))), (aDe, .inl (cZ, 768, .inl (De)))] sz = A at hG ⊢
  have hl := lv_entry ([.ref m0, .int (nI (v))]) (n := 4) (Nat.le_of_ble_eq_true rfl)
  rw [lg_entry_eq]
  generalize (lg_sl ([.ref m0, .int (nI (v))]) ++ List.replicate (4 - (lg_sl ([.ref m0, .int (nI (v))])).length) Slot.unset).toArray = ls at hl ⊢
  have hl : lv_has ls 4 [(0, .ref m0), (1, .int (nI (v)))] := hl
  have hw496 := hts _ (List.mem_cons_of_mem _ tw_496)
  have hw498 := hts _ (List.mem_cons_of_mem _ tw_498)
  have hw497 := hts _ (List.mem_cons_of_mem _ tw_497)
  have hrky := db_rk_le hky13
  refine dw_Q (fun Q hQ => ?_)
  suffices hgo : ∀ (H : Heap) (locs : List Loc), dw_G (dC, dI) vwCl [(cI, .int), (cZ, .boolean)] A s.heap s [(m0, .inr (5, [.int (ft), .int (vl), .ref aMd, .ref aO1, .ref aT2, .int (rs), .ref aSh, .ref aMk, .ref aFa, .ref aDe, .ref aNe, .ref aBy, .ref aPi, .int (pd), .ref aNw, .ref aNs, .ref aBf, .int (rn), .int (rr)])), (aMd, .inl (cI, 24, .inl (Md))), (aO1, .inl (cI, 24, .inl (O1))), (aT2, .inl (cI, 24, .inl (T2))), (aFa, .inl (cI, 768, .inl (Fa))), (aDe, .inl (cZ, 768, .inl (De)))] H locs → W p l e (headSpec wsM_replacement { frames := 2, cells := 0, slots := 0, locals := 60 }).room s m [.ref m0, .int (nI (v))].toArray below meth c H locs 0 0 Q (F0 m 0 ls []) from hgo _ _ hG
  clear hG
  intro H locs hG
  refine lv_aload_n hx hb dM_replacement_0 rfl (lv_at hl 0 rfl) ?_
  refine dw_get hx hb hts inMc hown hG 0 2 rfl rfl (by decide) hw496 rfl rfl dM_replacement_1 ?_
  refine lv_iload_n hx hb dM_replacement_4 rfl (lv_at hl 1 rfl) ?_
  refine dw_ia (x := 4) hx hb hG 1 0 rfl rfl (v) rfl (by omega) (by decide) em dM_replacement_5 ?_
  refine lv_bipush (v := 13) hx hb dM_replacement_6 (by decide) ?_
  refine lv_icmp_ne (tgt := 13) hx hb dM_replacement_8 (by decide) (fun h8 => ?_) (fun h8 => ?_)
  · skip
    replace h8 : ¬ 4 = 13 := fun hq0 => h8 ((nI_eq (a := 4) (b := 13) (by omega) (by omega)).mpr hq0)
    refine lv_aload_n hx hb dM_replacement_13 rfl (lv_at hl 0 rfl) ?_
    refine lv_iload_n hx hb dM_replacement_14 rfl (lv_at hl 1 rfl) ?_
    refine dw_calli (wc := [(m0, .inr (5, [.int (ft), .int (vl), .ref aMd, .ref aO1, .ref aT2, .int (rs), .ref aSh, .ref aMk, .ref aFa, .ref aDe, .ref aNe, .ref aBy, .ref aPi, .int (pd), .ref aNw, .ref aNs, .ref aBf, .int (rn), .int (rr)])), (aFa, .inl (cI, 768, .inl (Fa))), (aDe, .inl (cZ, 768, .inl (De)))]) (wr := [(aMd, .inl (cI, 24, .inl (Md))), (aO1, .inl (cI, 24, .inl (O1))), (aT2, .inl (cI, 24, .inl (T2)))]) hG [0, 4, 5] [1, 2, 3] rfl rfl (by decide) (by decide) (va_runV (As := [.int (nI (v))]) (rest := []) ⟨hx, hb, hml, hown, hts⟩ (rf_isKnown l dC dI cI cZ m0 aMd aO1 aT2 aSh aMk aFa aDe aNe aBy aPi aNw aNs aBf ft vl rs pd rn rr v Fa De d z o H.size hv hd hf) (dc_V 1 hts tw_664 tw_666 tp_M_isKnown tw_7 tw_667 rfl rfl (by decide +kernel) ⟨Nat.le_of_ble_eq_true rfl, Nat.le_of_ble_eq_true rfl⟩) (dw_preV (ci := 5) hG [0, 4, 5] [0, 1] rfl rfl (by decide) rfl rfl (q0 := 0) rfl) rfl rfl hl.1 rfl (lv_room (Nat.le_of_ble_eq_true rfl)) dM_replacement_15 ⟨Nat.le_refl _, Nat.le_refl _⟩) (fun r u H locs hp hG => ?_)
    subst hp
    have hG : dw_G (dC, dI) vwCl [(cI, .int), (cZ, .boolean)] A s.heap s [(aMd, .inl (cI, 24, .inl (Md))), (aO1, .inl (cI, 24, .inl (O1))), (aT2, .inl (cI, 24, .inl (T2))), (m0, .inr (5, [.int (ft), .int (vl), .ref aMd, .ref aO1, .ref aT2, .int (rs), .ref aSh, .ref aMk, .ref aFa, .ref aDe, .ref aNe, .ref aBy, .ref aPi, .int (pd), .ref aNw, .ref aNs, .ref aBf, .int (rn), .int (rr)])), (aFa, .inl (cI, 768, .inl (Fa))), (aDe, .inl (cZ, 768, .inl (De)))] H locs := hG
    rcases Decidable.em (d &&& ((z ||| o) ^^^ (-1)) = 0) with hkn | hkn
    · skip
      refine lv_topi (nm_r (show (if d &&& ((z ||| o) ^^^ (-1)) = 0 then 1 else 0 : Int32) = 1 from (if_pos hkn)) ?_)
      refine lv_if_eq (tgt := 24) hx hb dM_replacement_18 (by decide) (fun h18 => ?_) (fun h18 => ?_)
      · skip
        replace h18 := (nI_eq (a := 1) (b := 0) (by omega) (by omega)).mp h18
        (exfalso; omega)
      replace h18 : ¬ 1 = 0 := fun hq0 => h18 ((nI_eq (a := 1) (b := 0) (by omega) (by omega)).mpr hq0)
      refine lv_bipush (v := -2) hx hb dM_replacement_21 (by decide) ?_
      subst hQ
      exact dw_iret hx hb hr (dw_perm hG [3, 0, 1, 2, 4, 5] (by decide) rfl rfl) (()) rfl (by unfold db_Bv; rw [if_neg (by decide), if_pos hkn]) dM_replacement_23 hlocks
    refine lv_topi (nm_r (show (if d &&& ((z ||| o) ^^^ (-1)) = 0 then 1 else 0 : Int32) = 0 from (if_neg hkn)) ?_)
    refine lv_if_eq (tgt := 24) hx hb dM_replacement_18 (by decide) (fun h18 => ?_) (fun h18 => ?_)
    · skip
      replace h18 := (nI_eq (a := 0) (b := 0) (by omega) (by omega)).mp h18
      refine lv_iconst (v := 0) hx hb dM_replacement_24 (by decide) ?_
      refine lv_istore_n (lv' := [(2, .int (0)), (0, .ref m0), (1, .int (nI (v)))]) hx hb dM_replacement_25 rfl hl (by decide) rfl (fun ls hl => ?_)
      refine lv_aload_n hx hb dM_replacement_26 rfl (lv_at hl 1 rfl) ?_
      refine dw_get hx hb hts inMc hown hG 3 2 rfl rfl (by decide) hw496 rfl rfl dM_replacement_27 ?_
      refine lv_iload_n hx hb dM_replacement_30 rfl (lv_at hl 2 rfl) ?_
      refine dw_ia (x := 4) hx hb hG 0 0 rfl rfl (v) rfl (by omega) (by decide) em dM_replacement_31 ?_
      refine lv_iconst (v := 5) hx hb dM_replacement_32 (by decide) ?_
      refine lv_icmp_gt (tgt := 133) hx hb dM_replacement_33 (by decide) (fun h33 => ?_) (fun h33 => ?_)
      · skip
        replace h33 := (nI_ltI (a := 5) (b := 4) (by omega) (by omega)).mp h33
        (exfalso; omega)
      replace h33 : ¬ 5 < 4 := fun hq0 => h33 ((nI_ltI (a := 5) (b := 4) (by omega) (by omega)).mpr hq0)
      refine lv_aload_n hx hb dM_replacement_36 rfl (lv_at hl 1 rfl) ?_
      refine dw_get hx hb hts inMc hown hG 3 2 rfl rfl (by decide) hw496 rfl rfl dM_replacement_37 ?_
      refine lv_aload_n hx hb dM_replacement_40 rfl (lv_at hl 1 rfl) ?_
      refine dw_get hx hb hts inMc hown hG 3 4 rfl rfl (by decide) hw498 rfl rfl dM_replacement_41 ?_
      refine lv_iload_n hx hb dM_replacement_44 rfl (lv_at hl 2 rfl) ?_
      refine dw_ia (x := nI (y)) hx hb hG 2 0 rfl rfl (v) rfl (by omega) (by decide) e2 dM_replacement_45 ?_
      refine dw_ia (x := nI (db_rk ky)) hx hb hG 0 0 rfl rfl (y) rfl (by omega) (by decide) emy dM_replacement_46 ?_
      refine lv_bipush (v := 13) hx hb dM_replacement_47 (by decide) ?_
      refine lv_icmp_ne (tgt := 133) hx hb dM_replacement_49 (by decide) (fun h49 => ?_) (fun h49 => ?_)
      · skip
        replace h49 : ¬ db_rk ky = 13 := fun hq0 => h49 ((nI_eq (a := db_rk ky) (b := 13) (by omega) (by omega)).mpr hq0)
        refine lv_iload_n hx hb dM_replacement_133 rfl (lv_at hl 0 rfl) ?_
        refine lv_if_ne (tgt := 179) hx hb dM_replacement_134 (by decide) (fun h134 => ?_) (fun h134 => ?_)
        · skip
          replace h134 : ¬ 0 = 0 := fun hq0 => h134 ((nI_eq (a := 0) (b := 0) (by omega) (by omega)).mpr hq0)
          (exfalso; omega)
        replace h134 := (nI_eq (a := 0) (b := 0) (by omega) (by omega)).mp h134
        refine lv_aload_n hx hb dM_replacement_137 rfl (lv_at hl 1 rfl) ?_
        refine dw_get hx hb hts inMc hown hG 3 2 rfl rfl (by decide) hw496 rfl rfl dM_replacement_138 ?_
        refine lv_iload_n hx hb dM_replacement_141 rfl (lv_at hl 2 rfl) ?_
        refine dw_ia (x := 4) hx hb hG 0 0 rfl rfl (v) rfl (by omega) (by decide) em dM_replacement_142 ?_
        refine lv_bipush (v := 9) hx hb dM_replacement_143 (by decide) ?_
        refine lv_icmp_ne (tgt := 158) hx hb dM_replacement_145 (by decide) (fun h145 => ?_) (fun h145 => ?_)
        · skip
          replace h145 : ¬ 4 = 9 := fun hq0 => h145 ((nI_eq (a := 4) (b := 9) (by omega) (by omega)).mpr hq0)
          refine lv_aload_n hx hb dM_replacement_158 rfl (lv_at hl 1 rfl) ?_
          refine dw_get hx hb hts inMc hown hG 3 2 rfl rfl (by decide) hw496 rfl rfl dM_replacement_159 ?_
          refine lv_iload_n hx hb dM_replacement_162 rfl (lv_at hl 2 rfl) ?_
          refine dw_ia (x := 4) hx hb hG 0 0 rfl rfl (v) rfl (by omega) (by decide) em dM_replacement_163 ?_
          refine lv_bipush (v := 10) hx hb dM_replacement_164 (by decide) ?_
          refine lv_icmp_ne (tgt := 183) hx hb dM_replacement_166 (by decide) (fun h166 => ?_) (fun h166 => ?_)
          · skip
            replace h166 : ¬ 4 = 10 := fun hq0 => h166 ((nI_eq (a := 4) (b := 10) (by omega) (by omega)).mpr hq0)
            refine lv_iconst (v := 0) hx hb dM_replacement_183 (by decide) ?_
            refine lv_istore_n (lv' := [(2, .int (0)), (0, .ref m0), (1, .int (nI (v)))]) hx hb dM_replacement_184 rfl hl (by decide) rfl (fun ls hl => ?_)
            refine lv_iload_n hx hb dM_replacement_185 rfl (lv_at hl 0 rfl) ?_
            refine lv_if_eq (tgt := 198) hx hb dM_replacement_186 (by decide) (fun h186 => ?_) (fun h186 => ?_)
            · skip
              replace h186 := (nI_eq (a := 0) (b := 0) (by omega) (by omega)).mp h186
              refine lv_iconst (v := -1) hx hb dM_replacement_198 (by decide) ?_
              subst hQ
              exact dw_iret hx hb hr (dw_perm hG [3, 0, 1, 2, 4, 5] (by decide) rfl rfl) (()) rfl (by unfold db_Bv; rw [if_neg (by decide), if_neg hkn]; exact (if_neg (by show ¬ (decide (ky = 10) && decide (d &&& c9 = 0)) = true; rw [decide_eq_false (fun q => h49 ((db_rk10 hky13).mpr q)), Bool.false_and]; decide)).symm) dM_replacement_199 hlocks
            replace h186 : ¬ 0 = 0 := fun hq0 => h186 ((nI_eq (a := 0) (b := 0) (by omega) (by omega)).mpr hq0)
            (exfalso; omega)
          replace h166 := (nI_eq (a := 4) (b := 10) (by omega) (by omega)).mp h166
          (exfalso; omega)
        replace h145 := (nI_eq (a := 4) (b := 9) (by omega) (by omega)).mp h145
        (exfalso; omega)
      replace h49 := (nI_eq (a := db_rk ky) (b := 13) (by omega) (by omega)).mp h49
      have hky : ky = 10 := (db_rk10 hky13).mp h49
      refine lv_aload_n hx hb dM_replacement_52 rfl (lv_at hl 1 rfl) ?_
      refine dw_get hx hb hts inMc hown hG 3 3 rfl rfl (by decide) hw497 rfl rfl dM_replacement_53 ?_
      refine lv_aload_n hx hb dM_replacement_56 rfl (lv_at hl 1 rfl) ?_
      refine dw_get hx hb hts inMc hown hG 3 4 rfl rfl (by decide) hw498 rfl rfl dM_replacement_57 ?_
      refine lv_iload_n hx hb dM_replacement_60 rfl (lv_at hl 2 rfl) ?_
      refine dw_ia (x := nI (y)) hx hb hG 2 0 rfl rfl (v) rfl (by omega) (by decide) e2 dM_replacement_61 ?_
      refine dw_ia (x := c9) hx hb hG 1 0 rfl rfl (y) rfl (by omega) (by decide) (ecy hky) dM_replacement_62 ?_
      refine lv_istore_n (lv' := [(3, .int (c9)), (2, .int (0)), (0, .ref m0), (1, .int (nI (v)))]) hx hb dM_replacement_63 rfl hl (by decide) rfl (fun ls hl => ?_)
      refine lv_aload_n hx hb dM_replacement_64 rfl (lv_at hl 2 rfl) ?_
      refine dw_get hx hb hts inMc hown hG 3 2 rfl rfl (by decide) hw496 rfl rfl dM_replacement_65 ?_
      refine lv_iload_n hx hb dM_replacement_68 rfl (lv_at hl 3 rfl) ?_
      refine dw_ia (x := 4) hx hb hG 0 0 rfl rfl (v) rfl (by omega) (by decide) em dM_replacement_69 ?_
      refine lv_iconst (v := 3) hx hb dM_replacement_70 (by decide) ?_
      refine lv_icmp_ne (tgt := 85) hx hb dM_replacement_71 (by decide) (fun h71 => ?_) (fun h71 => ?_)
      · skip
        replace h71 : ¬ 4 = 3 := fun hq0 => h71 ((nI_eq (a := 4) (b := 3) (by omega) (by omega)).mpr hq0)
        refine lv_aload_n hx hb dM_replacement_85 rfl (lv_at hl 2 rfl) ?_
        refine dw_get hx hb hts inMc hown hG 3 2 rfl rfl (by decide) hw496 rfl rfl dM_replacement_86 ?_
        refine lv_iload_n hx hb dM_replacement_89 rfl (lv_at hl 3 rfl) ?_
        refine dw_ia (x := 4) hx hb hG 0 0 rfl rfl (v) rfl (by omega) (by decide) em dM_replacement_90 ?_
        refine lv_iconst (v := 4) hx hb dM_replacement_91 (by decide) ?_
        refine lv_icmp_ne (tgt := 106) hx hb dM_replacement_92 (by decide) (fun h92 => ?_) (fun h92 => ?_)
        · skip
          replace h92 : ¬ 4 = 4 := fun hq0 => h92 ((nI_eq (a := 4) (b := 4) (by omega) (by omega)).mpr hq0)
          (exfalso; omega)
        replace h92 := (nI_eq (a := 4) (b := 4) (by omega) (by omega)).mp h92
        refine lv_aload_n hx hb dM_replacement_95 rfl (lv_at hl 2 rfl) ?_
        refine lv_iload_n hx hb dM_replacement_96 rfl (lv_at hl 3 rfl) ?_
        refine lv_iload_n hx hb dM_replacement_97 rfl (lv_at hl 0 rfl) ?_
        refine lv_iconst (v := 0) hx hb dM_replacement_98 (by decide) ?_
        refine lv_iconst (v := 0) hx hb dM_replacement_99 (by decide) ?_
        refine dw_calli (wc := [(m0, .inr (5, [.int (ft), .int (vl), .ref aMd, .ref aO1, .ref aT2, .int (rs), .ref aSh, .ref aMk, .ref aFa, .ref aDe, .ref aNe, .ref aBy, .ref aPi, .int (pd), .ref aNw, .ref aNs, .ref aBf, .int (rn), .int (rr)])), (aDe, .inl (cZ, 768, .inl (De)))]) (wr := [(aMd, .inl (cI, 24, .inl (Md))), (aO1, .inl (cI, 24, .inl (O1))), (aT2, .inl (cI, 24, .inl (T2))), (aFa, .inl (cI, 768, .inl (Fa)))]) hG [3, 5] [0, 1, 2, 4] rfl rfl (by decide) (by decide) (va_runV (As := [.int (nI (v)), .int (c9), .int (0), .int (0)]) (rest := []) ⟨hx, hb, hml, hown, hts⟩ (rf_areIn00 l dC dI cI cZ m0 aMd aO1 aT2 aSh aMk aFa aDe aNe aBy aPi aNw aNs aBf ft vl rs pd rn rr v De c9 d H.size hv hd) (dc_V 4 hts tw_668 tw_670 tp_M_areIn tw_7 tw_671 rfl rfl (by decide +kernel) ⟨Nat.le_of_ble_eq_true rfl, Nat.le_of_ble_eq_true rfl⟩) (dw_preV (ci := 5) hG [3, 5] [0, 1] rfl rfl (by decide) rfl rfl (q0 := 3) rfl) rfl rfl hl.1 rfl (lv_room (Nat.le_of_ble_eq_true rfl)) dM_replacement_100 ⟨Nat.le_refl _, Nat.le_refl _⟩) (fun r u H locs hp hG => ?_)
        subst hp
        have hG : dw_G (dC, dI) vwCl [(cI, .int), (cZ, .boolean)] A s.heap s [(aMd, .inl (cI, 24, .inl (Md))), (aO1, .inl (cI, 24, .inl (O1))), (aT2, .inl (cI, 24, .inl (T2))), (aFa, .inl (cI, 768, .inl (Fa))), (m0, .inr (5, [.int (ft), .int (vl), .ref aMd, .ref aO1, .ref aT2, .int (rs), .ref aSh, .ref aMk, .ref aFa, .ref aDe, .ref aNe, .ref aBy, .ref aPi, .int (pd), .ref aNw, .ref aNs, .ref aBf, .int (rn), .int (rr)])), (aDe, .inl (cZ, 768, .inl (De)))] H locs := hG
        rcases Decidable.em (d &&& c9 = 0) with hc | hc
        · skip
          refine lv_topi (nm_r (show (if d &&& c9 = 0 then 1 else 0 : Int32) = 1 from (if_pos hc)) ?_)
          refine lv_goto (tgt := 132) hx hb dM_replacement_103 (by decide) ?_
          refine lv_istore_n (lv' := [(2, .int (1)), (3, .int (c9)), (0, .ref m0), (1, .int (nI (v)))]) hx hb dM_replacement_132 rfl hl (by decide) rfl (fun ls hl => ?_)
          refine lv_iload_n hx hb dM_replacement_133 rfl (lv_at hl 0 rfl) ?_
          refine lv_if_ne (tgt := 179) hx hb dM_replacement_134 (by decide) (fun h134 => ?_) (fun h134 => ?_)
          · skip
            replace h134 : ¬ 1 = 0 := fun hq0 => h134 ((nI_eq (a := 1) (b := 0) (by omega) (by omega)).mpr hq0)
            refine lv_iconst (v := 1) hx hb dM_replacement_179 (by decide) ?_
            refine lv_goto (tgt := 184) hx hb dM_replacement_180 (by decide) ?_
            refine lv_istore_n (lv' := [(2, .int (1)), (3, .int (c9)), (0, .ref m0), (1, .int (nI (v)))]) hx hb dM_replacement_184 rfl hl (by decide) rfl (fun ls hl => ?_)
            refine lv_iload_n hx hb dM_replacement_185 rfl (lv_at hl 0 rfl) ?_
            refine lv_if_eq (tgt := 198) hx hb dM_replacement_186 (by decide) (fun h186 => ?_) (fun h186 => ?_)
            · skip
              replace h186 := (nI_eq (a := 1) (b := 0) (by omega) (by omega)).mp h186
              (exfalso; omega)
            replace h186 : ¬ 1 = 0 := fun hq0 => h186 ((nI_eq (a := 1) (b := 0) (by omega) (by omega)).mpr hq0)
            refine lv_aload_n hx hb dM_replacement_189 rfl (lv_at hl 2 rfl) ?_
            refine dw_get hx hb hts inMc hown hG 4 3 rfl rfl (by decide) hw497 rfl rfl dM_replacement_190 ?_
            refine lv_iload_n hx hb dM_replacement_193 rfl (lv_at hl 3 rfl) ?_
            refine dw_ia (x := nI (x)) hx hb hG 1 0 rfl rfl (v) rfl (by omega) (by decide) e1 dM_replacement_194 ?_
            refine lv_goto (tgt := 199) hx hb dM_replacement_195 (by decide) ?_
            subst hQ
            exact dw_iret hx hb hr (dw_perm hG [4, 0, 1, 2, 3, 5] (by decide) rfl rfl) (()) rfl (by unfold db_Bv; rw [if_neg (by decide), if_neg hkn]; exact (if_pos (by show (decide (ky = 10) && decide (d &&& c9 = 0)) = true; rw [decide_eq_true hky, decide_eq_true hc]; rfl)).symm) dM_replacement_199 hlocks
          replace h134 := (nI_eq (a := 1) (b := 0) (by omega) (by omega)).mp h134
          (exfalso; omega)
        refine lv_topi (nm_r (show (if d &&& c9 = 0 then 1 else 0 : Int32) = 0 from (if_neg hc)) ?_)
        refine lv_goto (tgt := 132) hx hb dM_replacement_103 (by decide) ?_
        refine lv_istore_n (lv' := [(2, .int (0)), (3, .int (c9)), (0, .ref m0), (1, .int (nI (v)))]) hx hb dM_replacement_132 rfl hl (by decide) rfl (fun ls hl => ?_)
        refine lv_iload_n hx hb dM_replacement_133 rfl (lv_at hl 0 rfl) ?_
        refine lv_if_ne (tgt := 179) hx hb dM_replacement_134 (by decide) (fun h134 => ?_) (fun h134 => ?_)
        · skip
          replace h134 : ¬ 0 = 0 := fun hq0 => h134 ((nI_eq (a := 0) (b := 0) (by omega) (by omega)).mpr hq0)
          (exfalso; omega)
        replace h134 := (nI_eq (a := 0) (b := 0) (by omega) (by omega)).mp h134
        refine lv_aload_n hx hb dM_replacement_137 rfl (lv_at hl 2 rfl) ?_
        refine dw_get hx hb hts inMc hown hG 4 2 rfl rfl (by decide) hw496 rfl rfl dM_replacement_138 ?_
        refine lv_iload_n hx hb dM_replacement_141 rfl (lv_at hl 3 rfl) ?_
        refine dw_ia (x := 4) hx hb hG 0 0 rfl rfl (v) rfl (by omega) (by decide) em dM_replacement_142 ?_
        refine lv_bipush (v := 9) hx hb dM_replacement_143 (by decide) ?_
        refine lv_icmp_ne (tgt := 158) hx hb dM_replacement_145 (by decide) (fun h145 => ?_) (fun h145 => ?_)
        · skip
          replace h145 : ¬ 4 = 9 := fun hq0 => h145 ((nI_eq (a := 4) (b := 9) (by omega) (by omega)).mpr hq0)
          refine lv_aload_n hx hb dM_replacement_158 rfl (lv_at hl 2 rfl) ?_
          refine dw_get hx hb hts inMc hown hG 4 2 rfl rfl (by decide) hw496 rfl rfl dM_replacement_159 ?_
          refine lv_iload_n hx hb dM_replacement_162 rfl (lv_at hl 3 rfl) ?_
          refine dw_ia (x := 4) hx hb hG 0 0 rfl rfl (v) rfl (by omega) (by decide) em dM_replacement_163 ?_
          refine lv_bipush (v := 10) hx hb dM_replacement_164 (by decide) ?_
          refine lv_icmp_ne (tgt := 183) hx hb dM_replacement_166 (by decide) (fun h166 => ?_) (fun h166 => ?_)
          · skip
            replace h166 : ¬ 4 = 10 := fun hq0 => h166 ((nI_eq (a := 4) (b := 10) (by omega) (by omega)).mpr hq0)
            refine lv_iconst (v := 0) hx hb dM_replacement_183 (by decide) ?_
            refine lv_istore_n (lv' := [(2, .int (0)), (3, .int (c9)), (0, .ref m0), (1, .int (nI (v)))]) hx hb dM_replacement_184 rfl hl (by decide) rfl (fun ls hl => ?_)
            refine lv_iload_n hx hb dM_replacement_185 rfl (lv_at hl 0 rfl) ?_
            refine lv_if_eq (tgt := 198) hx hb dM_replacement_186 (by decide) (fun h186 => ?_) (fun h186 => ?_)
            · skip
              replace h186 := (nI_eq (a := 0) (b := 0) (by omega) (by omega)).mp h186
              refine lv_iconst (v := -1) hx hb dM_replacement_198 (by decide) ?_
              subst hQ
              exact dw_iret hx hb hr (dw_perm hG [4, 0, 1, 2, 3, 5] (by decide) rfl rfl) (()) rfl (by unfold db_Bv; rw [if_neg (by decide), if_neg hkn]; exact (if_neg (by show ¬ (decide (ky = 10) && decide (d &&& c9 = 0)) = true; rw [decide_eq_false hc, Bool.and_false]; decide)).symm) dM_replacement_199 hlocks
            replace h186 : ¬ 0 = 0 := fun hq0 => h186 ((nI_eq (a := 0) (b := 0) (by omega) (by omega)).mpr hq0)
            (exfalso; omega)
          replace h166 := (nI_eq (a := 4) (b := 10) (by omega) (by omega)).mp h166
          (exfalso; omega)
        replace h145 := (nI_eq (a := 4) (b := 9) (by omega) (by omega)).mp h145
        (exfalso; omega)
      replace h71 := (nI_eq (a := 4) (b := 3) (by omega) (by omega)).mp h71
      (exfalso; omega)
    replace h18 : ¬ 0 = 0 := fun hq0 => h18 ((nI_eq (a := 0) (b := 0) (by omega) (by omega)).mpr hq0)
    (exfalso; omega)
  replace h8 := (nI_eq (a := 4) (b := 13) (by omega) (by omega)).mp h8
  (exfalso; omega)

set_option maxRecDepth 100000 in
set_option maxHeartbeats 4000000 in
theorem rf_rep5 (l : Launch) (dC : Nat → ClassId) (dI : Nat → Nat → Nat) (cI cZ : ClassId) (m0 aMd aO1 aT2 aSh aMk aFa aDe aNe aBy aPi aNw aNs aBf : Nat) (ft vl rs pd rn rr : Int32) (v x y ky : Nat) (Md O1 T2 Fa De : Nat → Int32) (c9 d z o : Int32) (sz : Nat) (hv : v < 24) (em : Md v = nI 5) (hd : db_set De v d) (hf : db_rep Fa v z o) (e1 : O1 v = nI x) (hy9 : y < 24) (e2 : T2 v = nI y) (hky13 : ky ≤ 13) (emy : Md y = nI (db_rk ky)) (ecy : ky = 10 → O1 y = c9) : Met l yM_replacement wsM_replacement { frames := 2, cells := 0, slots := 0, locals := 60 } (va_Pc [.ref m0, .int (nI (v))] (dw_pre (dC, dI) vwCl [(m0, .inr (5, [.int (ft), .int (vl), .ref aMd, .ref aO1, .ref aT2, .int (rs), .ref aSh, .ref aMk, .ref aFa, .ref aDe, .ref aNe, .ref aBy, .ref aPi, .int (pd), .ref aNw, .ref aNs, .ref aBf, .int (rn), .int (rr)])), (aMd, .inl (cI, 24, .inl (Md))), (aO1, .inl (cI, 24, .inl (O1))), (aT2, .inl (cI, 24, .inl (T2))), (aFa, .inl (cI, 768, .inl (Fa))), (aDe, .inl (cZ, 768, .inl (De)))] [(cI, .int), (cZ, .boolean)] sz)) (va_Qi (fun (r : Int32) (u : Unit) => r = db_Bv 5 x ky c9 d z o) (fun u t => dw_post (dC, dI) vwCl [(m0, .inr (5, [.int (ft), .int (vl), .ref aMd, .ref aO1, .ref aT2, .int (rs), .ref aSh, .ref aMk, .ref aFa, .ref aDe, .ref aNe, .ref aBy, .ref aPi, .int (pd), .ref aNw, .ref aNs, .ref aBf, .int (rn), .int (rr)])), (aMd, .inl (cI, 24, .inl (Md))), (aO1, .inl (cI, 24, .inl (O1))), (aT2, .inl (cI, 24, .inl (T2))), (aFa, .inl (cI, 768, .inl (Fa))), (aDe, .inl (cZ, 768, .inl (De)))] [(cI, .int), (cZ, .boolean)] (va_A [(m0, .inr (5, [.int (ft), .int (vl), .ref aMd, .ref aO1, .ref aT2, .int (rs), .ref aSh, .ref aMk, .ref aFa, .ref aDe, .ref aNe, .ref aBy, .ref aPi, .int (pd), .ref aNw, .ref aNs, .ref aBf, .int (rn), .int (rr)])), (aMd, .inl (cI, 24, .inl (Md))), (aO1, .inl (cI, 24, .inl (O1))), (aT2, .inl (cI, 24, .inl (T2))), (aFa, .inl (cI, 768, .inl (Fa))), (aDe, .inl (cZ, 768, .inl (De)))] sz) t) (va_A [(m0, .inr (5, [.int (ft), .int (vl), .ref aMd, .ref aO1, .ref aT2, .int (rs), .ref aSh, .ref aMk, .ref aFa, .ref aDe, .ref aNe, .ref aBy, .ref aPi, .int (pd), .ref aNw, .ref aNs, .ref aBf, .int (rn), .int (rr)])), (aMd, .inl (cI, 24, .inl (Md))), (aO1, .inl (cI, 24, .inl (O1))), (aT2, .inl (cI, 24, .inl (T2))), (aFa, .inl (cI, 768, .inl (Fa))), (aDe, .inl (cZ, 768, .inl (De)))] sz)) 0 0 (va_A [(m0, .inr (5, [.int (ft), .int (vl), .ref aMd, .ref aO1, .ref aT2, .int (rs), .ref aSh, .ref aMk, .ref aFa, .ref aDe, .ref aNe, .ref aBy, .ref aPi, .int (pd), .ref aNw, .ref aNs, .ref aBf, .int (rn), .int (rr)])), (aMd, .inl (cI, 24, .inl (Md))), (aO1, .inl (cI, 24, .inl (O1))), (aT2, .inl (cI, 24, .inl (T2))), (aFa, .inl (cI, 768, .inl (Fa))), (aDe, .inl (cZ, 768, .inl (De)))] sz) := by
  refine Met.ofW (cc := cM_replacement) (maxL := 4) (ret := (some .int)) (by decide) rfl ?_
  intro p e s m args below meth c s₁ B hml hv0
  have hx := B.exec
  have hb := B.bytes
  have hr := B.returns
  have hts := atoms_spec (ws := wsM_replacement) B.pre
  have hown : s.vm.findClass RM = some m.cls := findClass_of_methodNamed B.named
  have hlocks := B.notSynchronized
  obtain ⟨rfl, hsz, hG⟩ := dw_enter hv0
  generalize va_A [(m0, .inr (5, [.int (ft), .int (vl), .ref aMd, .ref aO1, .ref aT2, .int (rs), .ref aSh, .ref aMk, .ref aFa, .ref aDe, .ref aNe, .ref aBy, .ref aPi, .int (pd), .ref aNw, .ref aNs, .ref aBf, .int (rn), .int (rr)])), (aMd, .inl (cI, 24, .inl (Md))), (aO1, .inl (cI, 24, .inl (O1))), (aT2, .inl (cI, 24, .inl (T2))), (aFa, .inl (cI, 768, .inl (Fa))), (aDe, .inl (cZ, 768, .inl (De)))] sz = A at hG ⊢
  have hl := lv_entry ([.ref m0, .int (nI (v))]) (n := 4) (Nat.le_of_ble_eq_true rfl)
  rw [lg_entry_eq]
  generalize (lg_sl ([.ref m0, .int (nI (v))]) ++ List.replicate (4 - (lg_sl ([.ref m0, .int (nI (v))])).length) Slot.unset).toArray = ls at hl ⊢
  have hl : lv_has ls 4 [(0, .ref m0), (1, .int (nI (v)))] := hl
  have hw496 := hts _ (List.mem_cons_of_mem _ tw_496)
  have hw498 := hts _ (List.mem_cons_of_mem _ tw_498)
  have hw497 := hts _ (List.mem_cons_of_mem _ tw_497)
  have hrky := db_rk_le hky13
  refine dw_Q (fun Q hQ => ?_)
  suffices hgo : ∀ (H : Heap) (locs : List Loc), dw_G (dC, dI) vwCl [(cI, .int), (cZ, .boolean)] A s.heap s [(m0, .inr (5, [.int (ft), .int (vl), .ref aMd, .ref aO1, .ref aT2, .int (rs), .ref aSh, .ref aMk, .ref aFa, .ref aDe, .ref aNe, .ref aBy, .ref aPi, .int (pd), .ref aNw, .ref aNs, .ref aBf, .int (rn), .int (rr)])), (aMd, .inl (cI, 24, .inl (Md))), (aO1, .inl (cI, 24, .inl (O1))), (aT2, .inl (cI, 24, .inl (T2))), (aFa, .inl (cI, 768, .inl (Fa))), (aDe, .inl (cZ, 768, .inl (De)))] H locs → W p l e (headSpec wsM_replacement { frames := 2, cells := 0, slots := 0, locals := 60 }).room s m [.ref m0, .int (nI (v))].toArray below meth c H locs 0 0 Q (F0 m 0 ls []) from hgo _ _ hG
  clear hG
  intro H locs hG
  refine lv_aload_n hx hb dM_replacement_0 rfl (lv_at hl 0 rfl) ?_
  refine dw_get hx hb hts inMc hown hG 0 2 rfl rfl (by decide) hw496 rfl rfl dM_replacement_1 ?_
  refine lv_iload_n hx hb dM_replacement_4 rfl (lv_at hl 1 rfl) ?_
  refine dw_ia (x := 5) hx hb hG 1 0 rfl rfl (v) rfl (by omega) (by decide) em dM_replacement_5 ?_
  refine lv_bipush (v := 13) hx hb dM_replacement_6 (by decide) ?_
  refine lv_icmp_ne (tgt := 13) hx hb dM_replacement_8 (by decide) (fun h8 => ?_) (fun h8 => ?_)
  · skip
    replace h8 : ¬ 5 = 13 := fun hq0 => h8 ((nI_eq (a := 5) (b := 13) (by omega) (by omega)).mpr hq0)
    refine lv_aload_n hx hb dM_replacement_13 rfl (lv_at hl 0 rfl) ?_
    refine lv_iload_n hx hb dM_replacement_14 rfl (lv_at hl 1 rfl) ?_
    refine dw_calli (wc := [(m0, .inr (5, [.int (ft), .int (vl), .ref aMd, .ref aO1, .ref aT2, .int (rs), .ref aSh, .ref aMk, .ref aFa, .ref aDe, .ref aNe, .ref aBy, .ref aPi, .int (pd), .ref aNw, .ref aNs, .ref aBf, .int (rn), .int (rr)])), (aFa, .inl (cI, 768, .inl (Fa))), (aDe, .inl (cZ, 768, .inl (De)))]) (wr := [(aMd, .inl (cI, 24, .inl (Md))), (aO1, .inl (cI, 24, .inl (O1))), (aT2, .inl (cI, 24, .inl (T2)))]) hG [0, 4, 5] [1, 2, 3] rfl rfl (by decide) (by decide) (va_runV (As := [.int (nI (v))]) (rest := []) ⟨hx, hb, hml, hown, hts⟩ (rf_isKnown l dC dI cI cZ m0 aMd aO1 aT2 aSh aMk aFa aDe aNe aBy aPi aNw aNs aBf ft vl rs pd rn rr v Fa De d z o H.size hv hd hf) (dc_V 1 hts tw_664 tw_666 tp_M_isKnown tw_7 tw_667 rfl rfl (by decide +kernel) ⟨Nat.le_of_ble_eq_true rfl, Nat.le_of_ble_eq_true rfl⟩) (dw_preV (ci := 5) hG [0, 4, 5] [0, 1] rfl rfl (by decide) rfl rfl (q0 := 0) rfl) rfl rfl hl.1 rfl (lv_room (Nat.le_of_ble_eq_true rfl)) dM_replacement_15 ⟨Nat.le_refl _, Nat.le_refl _⟩) (fun r u H locs hp hG => ?_)
    subst hp
    have hG : dw_G (dC, dI) vwCl [(cI, .int), (cZ, .boolean)] A s.heap s [(aMd, .inl (cI, 24, .inl (Md))), (aO1, .inl (cI, 24, .inl (O1))), (aT2, .inl (cI, 24, .inl (T2))), (m0, .inr (5, [.int (ft), .int (vl), .ref aMd, .ref aO1, .ref aT2, .int (rs), .ref aSh, .ref aMk, .ref aFa, .ref aDe, .ref aNe, .ref aBy, .ref aPi, .int (pd), .ref aNw, .ref aNs, .ref aBf, .int (rn), .int (rr)])), (aFa, .inl (cI, 768, .inl (Fa))), (aDe, .inl (cZ, 768, .inl (De)))] H locs := hG
    rcases Decidable.em (d &&& ((z ||| o) ^^^ (-1)) = 0) with hkn | hkn
    · skip
      refine lv_topi (nm_r (show (if d &&& ((z ||| o) ^^^ (-1)) = 0 then 1 else 0 : Int32) = 1 from (if_pos hkn)) ?_)
      refine lv_if_eq (tgt := 24) hx hb dM_replacement_18 (by decide) (fun h18 => ?_) (fun h18 => ?_)
      · skip
        replace h18 := (nI_eq (a := 1) (b := 0) (by omega) (by omega)).mp h18
        (exfalso; omega)
      replace h18 : ¬ 1 = 0 := fun hq0 => h18 ((nI_eq (a := 1) (b := 0) (by omega) (by omega)).mpr hq0)
      refine lv_bipush (v := -2) hx hb dM_replacement_21 (by decide) ?_
      subst hQ
      exact dw_iret hx hb hr (dw_perm hG [3, 0, 1, 2, 4, 5] (by decide) rfl rfl) (()) rfl (by unfold db_Bv; rw [if_neg (by decide), if_pos hkn]) dM_replacement_23 hlocks
    refine lv_topi (nm_r (show (if d &&& ((z ||| o) ^^^ (-1)) = 0 then 1 else 0 : Int32) = 0 from (if_neg hkn)) ?_)
    refine lv_if_eq (tgt := 24) hx hb dM_replacement_18 (by decide) (fun h18 => ?_) (fun h18 => ?_)
    · skip
      replace h18 := (nI_eq (a := 0) (b := 0) (by omega) (by omega)).mp h18
      refine lv_iconst (v := 0) hx hb dM_replacement_24 (by decide) ?_
      refine lv_istore_n (lv' := [(2, .int (0)), (0, .ref m0), (1, .int (nI (v)))]) hx hb dM_replacement_25 rfl hl (by decide) rfl (fun ls hl => ?_)
      refine lv_aload_n hx hb dM_replacement_26 rfl (lv_at hl 1 rfl) ?_
      refine dw_get hx hb hts inMc hown hG 3 2 rfl rfl (by decide) hw496 rfl rfl dM_replacement_27 ?_
      refine lv_iload_n hx hb dM_replacement_30 rfl (lv_at hl 2 rfl) ?_
      refine dw_ia (x := 5) hx hb hG 0 0 rfl rfl (v) rfl (by omega) (by decide) em dM_replacement_31 ?_
      refine lv_iconst (v := 5) hx hb dM_replacement_32 (by decide) ?_
      refine lv_icmp_gt (tgt := 133) hx hb dM_replacement_33 (by decide) (fun h33 => ?_) (fun h33 => ?_)
      · skip
        replace h33 := (nI_ltI (a := 5) (b := 5) (by omega) (by omega)).mp h33
        (exfalso; omega)
      replace h33 : ¬ 5 < 5 := fun hq0 => h33 ((nI_ltI (a := 5) (b := 5) (by omega) (by omega)).mpr hq0)
      refine lv_aload_n hx hb dM_replacement_36 rfl (lv_at hl 1 rfl) ?_
      refine dw_get hx hb hts inMc hown hG 3 2 rfl rfl (by decide) hw496 rfl rfl dM_replacement_37 ?_
      refine lv_aload_n hx hb dM_replacement_40 rfl (lv_at hl 1 rfl) ?_
      refine dw_get hx hb hts inMc hown hG 3 4 rfl rfl (by decide) hw498 rfl rfl dM_replacement_41 ?_
      refine lv_iload_n hx hb dM_replacement_44 rfl (lv_at hl 2 rfl) ?_
      refine dw_ia (x := nI (y)) hx hb hG 2 0 rfl rfl (v) rfl (by omega) (by decide) e2 dM_replacement_45 ?_
      refine dw_ia (x := nI (db_rk ky)) hx hb hG 0 0 rfl rfl (y) rfl (by omega) (by decide) emy dM_replacement_46 ?_
      refine lv_bipush (v := 13) hx hb dM_replacement_47 (by decide) ?_
      refine lv_icmp_ne (tgt := 133) hx hb dM_replacement_49 (by decide) (fun h49 => ?_) (fun h49 => ?_)
      · skip
        replace h49 : ¬ db_rk ky = 13 := fun hq0 => h49 ((nI_eq (a := db_rk ky) (b := 13) (by omega) (by omega)).mpr hq0)
        refine lv_iload_n hx hb dM_replacement_133 rfl (lv_at hl 0 rfl) ?_
        refine lv_if_ne (tgt := 179) hx hb dM_replacement_134 (by decide) (fun h134 => ?_) (fun h134 => ?_)
        · skip
          replace h134 : ¬ 0 = 0 := fun hq0 => h134 ((nI_eq (a := 0) (b := 0) (by omega) (by omega)).mpr hq0)
          (exfalso; omega)
        replace h134 := (nI_eq (a := 0) (b := 0) (by omega) (by omega)).mp h134
        refine lv_aload_n hx hb dM_replacement_137 rfl (lv_at hl 1 rfl) ?_
        refine dw_get hx hb hts inMc hown hG 3 2 rfl rfl (by decide) hw496 rfl rfl dM_replacement_138 ?_
        refine lv_iload_n hx hb dM_replacement_141 rfl (lv_at hl 2 rfl) ?_
        refine dw_ia (x := 5) hx hb hG 0 0 rfl rfl (v) rfl (by omega) (by decide) em dM_replacement_142 ?_
        refine lv_bipush (v := 9) hx hb dM_replacement_143 (by decide) ?_
        refine lv_icmp_ne (tgt := 158) hx hb dM_replacement_145 (by decide) (fun h145 => ?_) (fun h145 => ?_)
        · skip
          replace h145 : ¬ 5 = 9 := fun hq0 => h145 ((nI_eq (a := 5) (b := 9) (by omega) (by omega)).mpr hq0)
          refine lv_aload_n hx hb dM_replacement_158 rfl (lv_at hl 1 rfl) ?_
          refine dw_get hx hb hts inMc hown hG 3 2 rfl rfl (by decide) hw496 rfl rfl dM_replacement_159 ?_
          refine lv_iload_n hx hb dM_replacement_162 rfl (lv_at hl 2 rfl) ?_
          refine dw_ia (x := 5) hx hb hG 0 0 rfl rfl (v) rfl (by omega) (by decide) em dM_replacement_163 ?_
          refine lv_bipush (v := 10) hx hb dM_replacement_164 (by decide) ?_
          refine lv_icmp_ne (tgt := 183) hx hb dM_replacement_166 (by decide) (fun h166 => ?_) (fun h166 => ?_)
          · skip
            replace h166 : ¬ 5 = 10 := fun hq0 => h166 ((nI_eq (a := 5) (b := 10) (by omega) (by omega)).mpr hq0)
            refine lv_iconst (v := 0) hx hb dM_replacement_183 (by decide) ?_
            refine lv_istore_n (lv' := [(2, .int (0)), (0, .ref m0), (1, .int (nI (v)))]) hx hb dM_replacement_184 rfl hl (by decide) rfl (fun ls hl => ?_)
            refine lv_iload_n hx hb dM_replacement_185 rfl (lv_at hl 0 rfl) ?_
            refine lv_if_eq (tgt := 198) hx hb dM_replacement_186 (by decide) (fun h186 => ?_) (fun h186 => ?_)
            · skip
              replace h186 := (nI_eq (a := 0) (b := 0) (by omega) (by omega)).mp h186
              refine lv_iconst (v := -1) hx hb dM_replacement_198 (by decide) ?_
              subst hQ
              exact dw_iret hx hb hr (dw_perm hG [3, 0, 1, 2, 4, 5] (by decide) rfl rfl) (()) rfl (by unfold db_Bv; rw [if_neg (by decide), if_neg hkn]; exact (if_neg (by show ¬ (decide (ky = 10) && decide (db_upto d &&& c9 = 0)) = true; rw [decide_eq_false (fun q => h49 ((db_rk10 hky13).mpr q)), Bool.false_and]; decide)).symm) dM_replacement_199 hlocks
            replace h186 : ¬ 0 = 0 := fun hq0 => h186 ((nI_eq (a := 0) (b := 0) (by omega) (by omega)).mpr hq0)
            (exfalso; omega)
          replace h166 := (nI_eq (a := 5) (b := 10) (by omega) (by omega)).mp h166
          (exfalso; omega)
        replace h145 := (nI_eq (a := 5) (b := 9) (by omega) (by omega)).mp h145
        (exfalso; omega)
      replace h49 := (nI_eq (a := db_rk ky) (b := 13) (by omega) (by omega)).mp h49
      have hky : ky = 10 := (db_rk10 hky13).mp h49
      refine lv_aload_n hx hb dM_replacement_52 rfl (lv_at hl 1 rfl) ?_
      refine dw_get hx hb hts inMc hown hG 3 3 rfl rfl (by decide) hw497 rfl rfl dM_replacement_53 ?_
      refine lv_aload_n hx hb dM_replacement_56 rfl (lv_at hl 1 rfl) ?_
      refine dw_get hx hb hts inMc hown hG 3 4 rfl rfl (by decide) hw498 rfl rfl dM_replacement_57 ?_
      refine lv_iload_n hx hb dM_replacement_60 rfl (lv_at hl 2 rfl) ?_
      refine dw_ia (x := nI (y)) hx hb hG 2 0 rfl rfl (v) rfl (by omega) (by decide) e2 dM_replacement_61 ?_
      refine dw_ia (x := c9) hx hb hG 1 0 rfl rfl (y) rfl (by omega) (by decide) (ecy hky) dM_replacement_62 ?_
      refine lv_istore_n (lv' := [(3, .int (c9)), (2, .int (0)), (0, .ref m0), (1, .int (nI (v)))]) hx hb dM_replacement_63 rfl hl (by decide) rfl (fun ls hl => ?_)
      refine lv_aload_n hx hb dM_replacement_64 rfl (lv_at hl 2 rfl) ?_
      refine dw_get hx hb hts inMc hown hG 3 2 rfl rfl (by decide) hw496 rfl rfl dM_replacement_65 ?_
      refine lv_iload_n hx hb dM_replacement_68 rfl (lv_at hl 3 rfl) ?_
      refine dw_ia (x := 5) hx hb hG 0 0 rfl rfl (v) rfl (by omega) (by decide) em dM_replacement_69 ?_
      refine lv_iconst (v := 3) hx hb dM_replacement_70 (by decide) ?_
      refine lv_icmp_ne (tgt := 85) hx hb dM_replacement_71 (by decide) (fun h71 => ?_) (fun h71 => ?_)
      · skip
        replace h71 : ¬ 5 = 3 := fun hq0 => h71 ((nI_eq (a := 5) (b := 3) (by omega) (by omega)).mpr hq0)
        refine lv_aload_n hx hb dM_replacement_85 rfl (lv_at hl 2 rfl) ?_
        refine dw_get hx hb hts inMc hown hG 3 2 rfl rfl (by decide) hw496 rfl rfl dM_replacement_86 ?_
        refine lv_iload_n hx hb dM_replacement_89 rfl (lv_at hl 3 rfl) ?_
        refine dw_ia (x := 5) hx hb hG 0 0 rfl rfl (v) rfl (by omega) (by decide) em dM_replacement_90 ?_
        refine lv_iconst (v := 4) hx hb dM_replacement_91 (by decide) ?_
        refine lv_icmp_ne (tgt := 106) hx hb dM_replacement_92 (by decide) (fun h92 => ?_) (fun h92 => ?_)
        · skip
          replace h92 : ¬ 5 = 4 := fun hq0 => h92 ((nI_eq (a := 5) (b := 4) (by omega) (by omega)).mpr hq0)
          refine lv_aload_n hx hb dM_replacement_106 rfl (lv_at hl 2 rfl) ?_
          refine dw_get hx hb hts inMc hown hG 3 2 rfl rfl (by decide) hw496 rfl rfl dM_replacement_107 ?_
          refine lv_iload_n hx hb dM_replacement_110 rfl (lv_at hl 3 rfl) ?_
          refine dw_ia (x := 5) hx hb hG 0 0 rfl rfl (v) rfl (by omega) (by decide) em dM_replacement_111 ?_
          refine lv_iconst (v := 2) hx hb dM_replacement_112 (by decide) ?_
          refine lv_icmp_eq (tgt := 131) hx hb dM_replacement_113 (by decide) (fun h113 => ?_) (fun h113 => ?_)
          · skip
            replace h113 := (nI_eq (a := 5) (b := 2) (by omega) (by omega)).mp h113
            (exfalso; omega)
          replace h113 : ¬ 5 = 2 := fun hq0 => h113 ((nI_eq (a := 5) (b := 2) (by omega) (by omega)).mpr hq0)
          refine lv_aload_n hx hb dM_replacement_116 rfl (lv_at hl 2 rfl) ?_
          refine lv_iload_n hx hb dM_replacement_117 rfl (lv_at hl 3 rfl) ?_
          refine lv_iload_n hx hb dM_replacement_118 rfl (lv_at hl 0 rfl) ?_
          refine lv_iconst (v := 0) hx hb dM_replacement_119 (by decide) ?_
          refine lv_iconst (v := 1) hx hb dM_replacement_120 (by decide) ?_
          refine dw_calli (wc := [(m0, .inr (5, [.int (ft), .int (vl), .ref aMd, .ref aO1, .ref aT2, .int (rs), .ref aSh, .ref aMk, .ref aFa, .ref aDe, .ref aNe, .ref aBy, .ref aPi, .int (pd), .ref aNw, .ref aNs, .ref aBf, .int (rn), .int (rr)])), (aDe, .inl (cZ, 768, .inl (De)))]) (wr := [(aMd, .inl (cI, 24, .inl (Md))), (aO1, .inl (cI, 24, .inl (O1))), (aT2, .inl (cI, 24, .inl (T2))), (aFa, .inl (cI, 768, .inl (Fa)))]) hG [3, 5] [0, 1, 2, 4] rfl rfl (by decide) (by decide) (va_runV (As := [.int (nI (v)), .int (c9), .int (0), .int (1)]) (rest := []) ⟨hx, hb, hml, hown, hts⟩ (rf_areIn01 l dC dI cI cZ m0 aMd aO1 aT2 aSh aMk aFa aDe aNe aBy aPi aNw aNs aBf ft vl rs pd rn rr v De c9 d H.size hv hd) (dc_V 4 hts tw_668 tw_670 tp_M_areIn tw_7 tw_671 rfl rfl (by decide +kernel) ⟨Nat.le_of_ble_eq_true rfl, Nat.le_of_ble_eq_true rfl⟩) (dw_preV (ci := 5) hG [3, 5] [0, 1] rfl rfl (by decide) rfl rfl (q0 := 3) rfl) rfl rfl hl.1 rfl (lv_room (Nat.le_of_ble_eq_true rfl)) dM_replacement_121 ⟨Nat.le_refl _, Nat.le_refl _⟩) (fun r u H locs hp hG => ?_)
          subst hp
          have hG : dw_G (dC, dI) vwCl [(cI, .int), (cZ, .boolean)] A s.heap s [(aMd, .inl (cI, 24, .inl (Md))), (aO1, .inl (cI, 24, .inl (O1))), (aT2, .inl (cI, 24, .inl (T2))), (aFa, .inl (cI, 768, .inl (Fa))), (m0, .inr (5, [.int (ft), .int (vl), .ref aMd, .ref aO1, .ref aT2, .int (rs), .ref aSh, .ref aMk, .ref aFa, .ref aDe, .ref aNe, .ref aBy, .ref aPi, .int (pd), .ref aNw, .ref aNs, .ref aBf, .int (rn), .int (rr)])), (aDe, .inl (cZ, 768, .inl (De)))] H locs := hG
          rcases Decidable.em (db_upto d &&& c9 = 0) with hc | hc
          · skip
            refine lv_topi (nm_r (show (if db_upto d &&& c9 = 0 then 1 else 0 : Int32) = 1 from (if_pos hc)) ?_)
            refine lv_if_eq (tgt := 131) hx hb dM_replacement_124 (by decide) (fun h124 => ?_) (fun h124 => ?_)
            · skip
              replace h124 := (nI_eq (a := 1) (b := 0) (by omega) (by omega)).mp h124
              (exfalso; omega)
            replace h124 : ¬ 1 = 0 := fun hq0 => h124 ((nI_eq (a := 1) (b := 0) (by omega) (by omega)).mpr hq0)
            refine lv_iconst (v := 1) hx hb dM_replacement_127 (by decide) ?_
            refine lv_goto (tgt := 132) hx hb dM_replacement_128 (by decide) ?_
            refine lv_istore_n (lv' := [(2, .int (1)), (3, .int (c9)), (0, .ref m0), (1, .int (nI (v)))]) hx hb dM_replacement_132 rfl hl (by decide) rfl (fun ls hl => ?_)
            refine lv_iload_n hx hb dM_replacement_133 rfl (lv_at hl 0 rfl) ?_
            refine lv_if_ne (tgt := 179) hx hb dM_replacement_134 (by decide) (fun h134 => ?_) (fun h134 => ?_)
            · skip
              replace h134 : ¬ 1 = 0 := fun hq0 => h134 ((nI_eq (a := 1) (b := 0) (by omega) (by omega)).mpr hq0)
              refine lv_iconst (v := 1) hx hb dM_replacement_179 (by decide) ?_
              refine lv_goto (tgt := 184) hx hb dM_replacement_180 (by decide) ?_
              refine lv_istore_n (lv' := [(2, .int (1)), (3, .int (c9)), (0, .ref m0), (1, .int (nI (v)))]) hx hb dM_replacement_184 rfl hl (by decide) rfl (fun ls hl => ?_)
              refine lv_iload_n hx hb dM_replacement_185 rfl (lv_at hl 0 rfl) ?_
              refine lv_if_eq (tgt := 198) hx hb dM_replacement_186 (by decide) (fun h186 => ?_) (fun h186 => ?_)
              · skip
                replace h186 := (nI_eq (a := 1) (b := 0) (by omega) (by omega)).mp h186
                (exfalso; omega)
              replace h186 : ¬ 1 = 0 := fun hq0 => h186 ((nI_eq (a := 1) (b := 0) (by omega) (by omega)).mpr hq0)
              refine lv_aload_n hx hb dM_replacement_189 rfl (lv_at hl 2 rfl) ?_
              refine dw_get hx hb hts inMc hown hG 4 3 rfl rfl (by decide) hw497 rfl rfl dM_replacement_190 ?_
              refine lv_iload_n hx hb dM_replacement_193 rfl (lv_at hl 3 rfl) ?_
              refine dw_ia (x := nI (x)) hx hb hG 1 0 rfl rfl (v) rfl (by omega) (by decide) e1 dM_replacement_194 ?_
              refine lv_goto (tgt := 199) hx hb dM_replacement_195 (by decide) ?_
              subst hQ
              exact dw_iret hx hb hr (dw_perm hG [4, 0, 1, 2, 3, 5] (by decide) rfl rfl) (()) rfl (by unfold db_Bv; rw [if_neg (by decide), if_neg hkn]; exact (if_pos (by show (decide (ky = 10) && decide (db_upto d &&& c9 = 0)) = true; rw [decide_eq_true hky, decide_eq_true hc]; rfl)).symm) dM_replacement_199 hlocks
            replace h134 := (nI_eq (a := 1) (b := 0) (by omega) (by omega)).mp h134
            (exfalso; omega)
          refine lv_topi (nm_r (show (if db_upto d &&& c9 = 0 then 1 else 0 : Int32) = 0 from (if_neg hc)) ?_)
          refine lv_if_eq (tgt := 131) hx hb dM_replacement_124 (by decide) (fun h124 => ?_) (fun h124 => ?_)
          · skip
            replace h124 := (nI_eq (a := 0) (b := 0) (by omega) (by omega)).mp h124
            refine lv_iconst (v := 0) hx hb dM_replacement_131 (by decide) ?_
            refine lv_istore_n (lv' := [(2, .int (0)), (3, .int (c9)), (0, .ref m0), (1, .int (nI (v)))]) hx hb dM_replacement_132 rfl hl (by decide) rfl (fun ls hl => ?_)
            refine lv_iload_n hx hb dM_replacement_133 rfl (lv_at hl 0 rfl) ?_
            refine lv_if_ne (tgt := 179) hx hb dM_replacement_134 (by decide) (fun h134 => ?_) (fun h134 => ?_)
            · skip
              replace h134 : ¬ 0 = 0 := fun hq0 => h134 ((nI_eq (a := 0) (b := 0) (by omega) (by omega)).mpr hq0)
              (exfalso; omega)
            replace h134 := (nI_eq (a := 0) (b := 0) (by omega) (by omega)).mp h134
            refine lv_aload_n hx hb dM_replacement_137 rfl (lv_at hl 2 rfl) ?_
            refine dw_get hx hb hts inMc hown hG 4 2 rfl rfl (by decide) hw496 rfl rfl dM_replacement_138 ?_
            refine lv_iload_n hx hb dM_replacement_141 rfl (lv_at hl 3 rfl) ?_
            refine dw_ia (x := 5) hx hb hG 0 0 rfl rfl (v) rfl (by omega) (by decide) em dM_replacement_142 ?_
            refine lv_bipush (v := 9) hx hb dM_replacement_143 (by decide) ?_
            refine lv_icmp_ne (tgt := 158) hx hb dM_replacement_145 (by decide) (fun h145 => ?_) (fun h145 => ?_)
            · skip
              replace h145 : ¬ 5 = 9 := fun hq0 => h145 ((nI_eq (a := 5) (b := 9) (by omega) (by omega)).mpr hq0)
              refine lv_aload_n hx hb dM_replacement_158 rfl (lv_at hl 2 rfl) ?_
              refine dw_get hx hb hts inMc hown hG 4 2 rfl rfl (by decide) hw496 rfl rfl dM_replacement_159 ?_
              refine lv_iload_n hx hb dM_replacement_162 rfl (lv_at hl 3 rfl) ?_
              refine dw_ia (x := 5) hx hb hG 0 0 rfl rfl (v) rfl (by omega) (by decide) em dM_replacement_163 ?_
              refine lv_bipush (v := 10) hx hb dM_replacement_164 (by decide) ?_
              refine lv_icmp_ne (tgt := 183) hx hb dM_replacement_166 (by decide) (fun h166 => ?_) (fun h166 => ?_)
              · skip
                replace h166 : ¬ 5 = 10 := fun hq0 => h166 ((nI_eq (a := 5) (b := 10) (by omega) (by omega)).mpr hq0)
                refine lv_iconst (v := 0) hx hb dM_replacement_183 (by decide) ?_
                refine lv_istore_n (lv' := [(2, .int (0)), (3, .int (c9)), (0, .ref m0), (1, .int (nI (v)))]) hx hb dM_replacement_184 rfl hl (by decide) rfl (fun ls hl => ?_)
                refine lv_iload_n hx hb dM_replacement_185 rfl (lv_at hl 0 rfl) ?_
                refine lv_if_eq (tgt := 198) hx hb dM_replacement_186 (by decide) (fun h186 => ?_) (fun h186 => ?_)
                · skip
                  replace h186 := (nI_eq (a := 0) (b := 0) (by omega) (by omega)).mp h186
                  refine lv_iconst (v := -1) hx hb dM_replacement_198 (by decide) ?_
                  subst hQ
                  exact dw_iret hx hb hr (dw_perm hG [4, 0, 1, 2, 3, 5] (by decide) rfl rfl) (()) rfl (by unfold db_Bv; rw [if_neg (by decide), if_neg hkn]; exact (if_neg (by show ¬ (decide (ky = 10) && decide (db_upto d &&& c9 = 0)) = true; rw [decide_eq_false hc, Bool.and_false]; decide)).symm) dM_replacement_199 hlocks
                replace h186 : ¬ 0 = 0 := fun hq0 => h186 ((nI_eq (a := 0) (b := 0) (by omega) (by omega)).mpr hq0)
                (exfalso; omega)
              replace h166 := (nI_eq (a := 5) (b := 10) (by omega) (by omega)).mp h166
              (exfalso; omega)
            replace h145 := (nI_eq (a := 5) (b := 9) (by omega) (by omega)).mp h145
            (exfalso; omega)
          replace h124 : ¬ 0 = 0 := fun hq0 => h124 ((nI_eq (a := 0) (b := 0) (by omega) (by omega)).mpr hq0)
          (exfalso; omega)
        replace h92 := (nI_eq (a := 5) (b := 4) (by omega) (by omega)).mp h92
        (exfalso; omega)
      replace h71 := (nI_eq (a := 5) (b := 3) (by omega) (by omega)).mp h71
      (exfalso; omega)
    replace h18 : ¬ 0 = 0 := fun hq0 => h18 ((nI_eq (a := 0) (b := 0) (by omega) (by omega)).mpr hq0)
    (exfalso; omega)
  replace h8 := (nI_eq (a := 5) (b := 13) (by omega) (by omega)).mp h8
  (exfalso; omega)

set_option maxRecDepth 100000 in
set_option maxHeartbeats 4000000 in
theorem rf_rep6 (l : Launch) (dC : Nat → ClassId) (dI : Nat → Nat → Nat) (cI cZ : ClassId) (m0 aMd aO1 aT2 aSh aMk aFa aDe aNe aBy aPi aNw aNs aBf : Nat) (ft vl rs pd rn rr : Int32) (v x y ky : Nat) (Md O1 T2 Fa De : Nat → Int32) (c9 d z o : Int32) (sz : Nat) (hv : v < 24) (em : Md v = nI 6) (hd : db_set De v d) (hf : db_rep Fa v z o) (e1 : O1 v = nI x) : Met l yM_replacement wsM_replacement { frames := 2, cells := 0, slots := 0, locals := 60 } (va_Pc [.ref m0, .int (nI (v))] (dw_pre (dC, dI) vwCl [(m0, .inr (5, [.int (ft), .int (vl), .ref aMd, .ref aO1, .ref aT2, .int (rs), .ref aSh, .ref aMk, .ref aFa, .ref aDe, .ref aNe, .ref aBy, .ref aPi, .int (pd), .ref aNw, .ref aNs, .ref aBf, .int (rn), .int (rr)])), (aMd, .inl (cI, 24, .inl (Md))), (aO1, .inl (cI, 24, .inl (O1))), (aT2, .inl (cI, 24, .inl (T2))), (aFa, .inl (cI, 768, .inl (Fa))), (aDe, .inl (cZ, 768, .inl (De)))] [(cI, .int), (cZ, .boolean)] sz)) (va_Qi (fun (r : Int32) (u : Unit) => r = db_Bv 6 x ky c9 d z o) (fun u t => dw_post (dC, dI) vwCl [(m0, .inr (5, [.int (ft), .int (vl), .ref aMd, .ref aO1, .ref aT2, .int (rs), .ref aSh, .ref aMk, .ref aFa, .ref aDe, .ref aNe, .ref aBy, .ref aPi, .int (pd), .ref aNw, .ref aNs, .ref aBf, .int (rn), .int (rr)])), (aMd, .inl (cI, 24, .inl (Md))), (aO1, .inl (cI, 24, .inl (O1))), (aT2, .inl (cI, 24, .inl (T2))), (aFa, .inl (cI, 768, .inl (Fa))), (aDe, .inl (cZ, 768, .inl (De)))] [(cI, .int), (cZ, .boolean)] (va_A [(m0, .inr (5, [.int (ft), .int (vl), .ref aMd, .ref aO1, .ref aT2, .int (rs), .ref aSh, .ref aMk, .ref aFa, .ref aDe, .ref aNe, .ref aBy, .ref aPi, .int (pd), .ref aNw, .ref aNs, .ref aBf, .int (rn), .int (rr)])), (aMd, .inl (cI, 24, .inl (Md))), (aO1, .inl (cI, 24, .inl (O1))), (aT2, .inl (cI, 24, .inl (T2))), (aFa, .inl (cI, 768, .inl (Fa))), (aDe, .inl (cZ, 768, .inl (De)))] sz) t) (va_A [(m0, .inr (5, [.int (ft), .int (vl), .ref aMd, .ref aO1, .ref aT2, .int (rs), .ref aSh, .ref aMk, .ref aFa, .ref aDe, .ref aNe, .ref aBy, .ref aPi, .int (pd), .ref aNw, .ref aNs, .ref aBf, .int (rn), .int (rr)])), (aMd, .inl (cI, 24, .inl (Md))), (aO1, .inl (cI, 24, .inl (O1))), (aT2, .inl (cI, 24, .inl (T2))), (aFa, .inl (cI, 768, .inl (Fa))), (aDe, .inl (cZ, 768, .inl (De)))] sz)) 0 0 (va_A [(m0, .inr (5, [.int (ft), .int (vl), .ref aMd, .ref aO1, .ref aT2, .int (rs), .ref aSh, .ref aMk, .ref aFa, .ref aDe, .ref aNe, .ref aBy, .ref aPi, .int (pd), .ref aNw, .ref aNs, .ref aBf, .int (rn), .int (rr)])), (aMd, .inl (cI, 24, .inl (Md))), (aO1, .inl (cI, 24, .inl (O1))), (aT2, .inl (cI, 24, .inl (T2))), (aFa, .inl (cI, 768, .inl (Fa))), (aDe, .inl (cZ, 768, .inl (De)))] sz) := by
  refine Met.ofW (cc := cM_replacement) (maxL := 4) (ret := (some .int)) (by decide) rfl ?_
  intro p e s m args below meth c s₁ B hml hv0
  have hx := B.exec
  have hb := B.bytes
  have hr := B.returns
  have hts := atoms_spec (ws := wsM_replacement) B.pre
  have hown : s.vm.findClass RM = some m.cls := findClass_of_methodNamed B.named
  have hlocks := B.notSynchronized
  obtain ⟨rfl, hsz, hG⟩ := dw_enter hv0
  generalize va_A [(m0, .inr (5, [.int (ft), .int (vl), .ref aMd, .ref aO1, .ref aT2, .int (rs), .ref aSh, .ref aMk, .ref aFa, .ref aDe, .ref aNe, .ref aBy, .ref aPi, .int (pd), .ref aNw, .ref aNs, .ref aBf, .int (rn), .int (rr)])), (aMd, .inl (cI, 24, .inl (Md))), (aO1, .inl (cI, 24, .inl (O1))), (aT2, .inl (cI, 24, .inl (T2))), (aFa, .inl (cI, 768, .inl (Fa))), (aDe, .inl (cZ, 768, .inl (De)))] sz = A at hG ⊢
  have hl := lv_entry ([.ref m0, .int (nI (v))]) (n := 4) (Nat.le_of_ble_eq_true rfl)
  rw [lg_entry_eq]
  generalize (lg_sl ([.ref m0, .int (nI (v))]) ++ List.replicate (4 - (lg_sl ([.ref m0, .int (nI (v))])).length) Slot.unset).toArray = ls at hl ⊢
  have hl : lv_has ls 4 [(0, .ref m0), (1, .int (nI (v)))] := hl
  have hw496 := hts _ (List.mem_cons_of_mem _ tw_496)
  refine dw_Q (fun Q hQ => ?_)
  suffices hgo : ∀ (H : Heap) (locs : List Loc), dw_G (dC, dI) vwCl [(cI, .int), (cZ, .boolean)] A s.heap s [(m0, .inr (5, [.int (ft), .int (vl), .ref aMd, .ref aO1, .ref aT2, .int (rs), .ref aSh, .ref aMk, .ref aFa, .ref aDe, .ref aNe, .ref aBy, .ref aPi, .int (pd), .ref aNw, .ref aNs, .ref aBf, .int (rn), .int (rr)])), (aMd, .inl (cI, 24, .inl (Md))), (aO1, .inl (cI, 24, .inl (O1))), (aT2, .inl (cI, 24, .inl (T2))), (aFa, .inl (cI, 768, .inl (Fa))), (aDe, .inl (cZ, 768, .inl (De)))] H locs → W p l e (headSpec wsM_replacement { frames := 2, cells := 0, slots := 0, locals := 60 }).room s m [.ref m0, .int (nI (v))].toArray below meth c H locs 0 0 Q (F0 m 0 ls []) from hgo _ _ hG
  clear hG
  intro H locs hG
  refine lv_aload_n hx hb dM_replacement_0 rfl (lv_at hl 0 rfl) ?_
  refine dw_get hx hb hts inMc hown hG 0 2 rfl rfl (by decide) hw496 rfl rfl dM_replacement_1 ?_
  refine lv_iload_n hx hb dM_replacement_4 rfl (lv_at hl 1 rfl) ?_
  refine dw_ia (x := 6) hx hb hG 1 0 rfl rfl (v) rfl (by omega) (by decide) em dM_replacement_5 ?_
  refine lv_bipush (v := 13) hx hb dM_replacement_6 (by decide) ?_
  refine lv_icmp_ne (tgt := 13) hx hb dM_replacement_8 (by decide) (fun h8 => ?_) (fun h8 => ?_)
  · skip
    replace h8 : ¬ 6 = 13 := fun hq0 => h8 ((nI_eq (a := 6) (b := 13) (by omega) (by omega)).mpr hq0)
    refine lv_aload_n hx hb dM_replacement_13 rfl (lv_at hl 0 rfl) ?_
    refine lv_iload_n hx hb dM_replacement_14 rfl (lv_at hl 1 rfl) ?_
    refine dw_calli (wc := [(m0, .inr (5, [.int (ft), .int (vl), .ref aMd, .ref aO1, .ref aT2, .int (rs), .ref aSh, .ref aMk, .ref aFa, .ref aDe, .ref aNe, .ref aBy, .ref aPi, .int (pd), .ref aNw, .ref aNs, .ref aBf, .int (rn), .int (rr)])), (aFa, .inl (cI, 768, .inl (Fa))), (aDe, .inl (cZ, 768, .inl (De)))]) (wr := [(aMd, .inl (cI, 24, .inl (Md))), (aO1, .inl (cI, 24, .inl (O1))), (aT2, .inl (cI, 24, .inl (T2)))]) hG [0, 4, 5] [1, 2, 3] rfl rfl (by decide) (by decide) (va_runV (As := [.int (nI (v))]) (rest := []) ⟨hx, hb, hml, hown, hts⟩ (rf_isKnown l dC dI cI cZ m0 aMd aO1 aT2 aSh aMk aFa aDe aNe aBy aPi aNw aNs aBf ft vl rs pd rn rr v Fa De d z o H.size hv hd hf) (dc_V 1 hts tw_664 tw_666 tp_M_isKnown tw_7 tw_667 rfl rfl (by decide +kernel) ⟨Nat.le_of_ble_eq_true rfl, Nat.le_of_ble_eq_true rfl⟩) (dw_preV (ci := 5) hG [0, 4, 5] [0, 1] rfl rfl (by decide) rfl rfl (q0 := 0) rfl) rfl rfl hl.1 rfl (lv_room (Nat.le_of_ble_eq_true rfl)) dM_replacement_15 ⟨Nat.le_refl _, Nat.le_refl _⟩) (fun r u H locs hp hG => ?_)
    subst hp
    have hG : dw_G (dC, dI) vwCl [(cI, .int), (cZ, .boolean)] A s.heap s [(aMd, .inl (cI, 24, .inl (Md))), (aO1, .inl (cI, 24, .inl (O1))), (aT2, .inl (cI, 24, .inl (T2))), (m0, .inr (5, [.int (ft), .int (vl), .ref aMd, .ref aO1, .ref aT2, .int (rs), .ref aSh, .ref aMk, .ref aFa, .ref aDe, .ref aNe, .ref aBy, .ref aPi, .int (pd), .ref aNw, .ref aNs, .ref aBf, .int (rn), .int (rr)])), (aFa, .inl (cI, 768, .inl (Fa))), (aDe, .inl (cZ, 768, .inl (De)))] H locs := hG
    rcases Decidable.em (d &&& ((z ||| o) ^^^ (-1)) = 0) with hkn | hkn
    · skip
      refine lv_topi (nm_r (show (if d &&& ((z ||| o) ^^^ (-1)) = 0 then 1 else 0 : Int32) = 1 from (if_pos hkn)) ?_)
      refine lv_if_eq (tgt := 24) hx hb dM_replacement_18 (by decide) (fun h18 => ?_) (fun h18 => ?_)
      · skip
        replace h18 := (nI_eq (a := 1) (b := 0) (by omega) (by omega)).mp h18
        (exfalso; omega)
      replace h18 : ¬ 1 = 0 := fun hq0 => h18 ((nI_eq (a := 1) (b := 0) (by omega) (by omega)).mpr hq0)
      refine lv_bipush (v := -2) hx hb dM_replacement_21 (by decide) ?_
      subst hQ
      exact dw_iret hx hb hr (dw_perm hG [3, 0, 1, 2, 4, 5] (by decide) rfl rfl) (()) rfl (by unfold db_Bv; rw [if_neg (by decide), if_pos hkn]) dM_replacement_23 hlocks
    refine lv_topi (nm_r (show (if d &&& ((z ||| o) ^^^ (-1)) = 0 then 1 else 0 : Int32) = 0 from (if_neg hkn)) ?_)
    refine lv_if_eq (tgt := 24) hx hb dM_replacement_18 (by decide) (fun h18 => ?_) (fun h18 => ?_)
    · skip
      replace h18 := (nI_eq (a := 0) (b := 0) (by omega) (by omega)).mp h18
      refine lv_iconst (v := 0) hx hb dM_replacement_24 (by decide) ?_
      refine lv_istore_n (lv' := [(2, .int (0)), (0, .ref m0), (1, .int (nI (v)))]) hx hb dM_replacement_25 rfl hl (by decide) rfl (fun ls hl => ?_)
      refine lv_aload_n hx hb dM_replacement_26 rfl (lv_at hl 1 rfl) ?_
      refine dw_get hx hb hts inMc hown hG 3 2 rfl rfl (by decide) hw496 rfl rfl dM_replacement_27 ?_
      refine lv_iload_n hx hb dM_replacement_30 rfl (lv_at hl 2 rfl) ?_
      refine dw_ia (x := 6) hx hb hG 0 0 rfl rfl (v) rfl (by omega) (by decide) em dM_replacement_31 ?_
      refine lv_iconst (v := 5) hx hb dM_replacement_32 (by decide) ?_
      refine lv_icmp_gt (tgt := 133) hx hb dM_replacement_33 (by decide) (fun h33 => ?_) (fun h33 => ?_)
      · skip
        replace h33 := (nI_ltI (a := 5) (b := 6) (by omega) (by omega)).mp h33
        refine lv_iload_n hx hb dM_replacement_133 rfl (lv_at hl 0 rfl) ?_
        refine lv_if_ne (tgt := 179) hx hb dM_replacement_134 (by decide) (fun h134 => ?_) (fun h134 => ?_)
        · skip
          replace h134 : ¬ 0 = 0 := fun hq0 => h134 ((nI_eq (a := 0) (b := 0) (by omega) (by omega)).mpr hq0)
          (exfalso; omega)
        replace h134 := (nI_eq (a := 0) (b := 0) (by omega) (by omega)).mp h134
        refine lv_aload_n hx hb dM_replacement_137 rfl (lv_at hl 1 rfl) ?_
        refine dw_get hx hb hts inMc hown hG 3 2 rfl rfl (by decide) hw496 rfl rfl dM_replacement_138 ?_
        refine lv_iload_n hx hb dM_replacement_141 rfl (lv_at hl 2 rfl) ?_
        refine dw_ia (x := 6) hx hb hG 0 0 rfl rfl (v) rfl (by omega) (by decide) em dM_replacement_142 ?_
        refine lv_bipush (v := 9) hx hb dM_replacement_143 (by decide) ?_
        refine lv_icmp_ne (tgt := 158) hx hb dM_replacement_145 (by decide) (fun h145 => ?_) (fun h145 => ?_)
        · skip
          replace h145 : ¬ 6 = 9 := fun hq0 => h145 ((nI_eq (a := 6) (b := 9) (by omega) (by omega)).mpr hq0)
          refine lv_aload_n hx hb dM_replacement_158 rfl (lv_at hl 1 rfl) ?_
          refine dw_get hx hb hts inMc hown hG 3 2 rfl rfl (by decide) hw496 rfl rfl dM_replacement_159 ?_
          refine lv_iload_n hx hb dM_replacement_162 rfl (lv_at hl 2 rfl) ?_
          refine dw_ia (x := 6) hx hb hG 0 0 rfl rfl (v) rfl (by omega) (by decide) em dM_replacement_163 ?_
          refine lv_bipush (v := 10) hx hb dM_replacement_164 (by decide) ?_
          refine lv_icmp_ne (tgt := 183) hx hb dM_replacement_166 (by decide) (fun h166 => ?_) (fun h166 => ?_)
          · skip
            replace h166 : ¬ 6 = 10 := fun hq0 => h166 ((nI_eq (a := 6) (b := 10) (by omega) (by omega)).mpr hq0)
            refine lv_iconst (v := 0) hx hb dM_replacement_183 (by decide) ?_
            refine lv_istore_n (lv' := [(2, .int (0)), (0, .ref m0), (1, .int (nI (v)))]) hx hb dM_replacement_184 rfl hl (by decide) rfl (fun ls hl => ?_)
            refine lv_iload_n hx hb dM_replacement_185 rfl (lv_at hl 0 rfl) ?_
            refine lv_if_eq (tgt := 198) hx hb dM_replacement_186 (by decide) (fun h186 => ?_) (fun h186 => ?_)
            · skip
              replace h186 := (nI_eq (a := 0) (b := 0) (by omega) (by omega)).mp h186
              refine lv_iconst (v := -1) hx hb dM_replacement_198 (by decide) ?_
              subst hQ
              exact dw_iret hx hb hr (dw_perm hG [3, 0, 1, 2, 4, 5] (by decide) rfl rfl) (()) rfl (by unfold db_Bv; rw [if_neg (by decide), if_neg hkn]; exact (if_neg (by show ¬ false = true; decide)).symm) dM_replacement_199 hlocks
            replace h186 : ¬ 0 = 0 := fun hq0 => h186 ((nI_eq (a := 0) (b := 0) (by omega) (by omega)).mpr hq0)
            (exfalso; omega)
          replace h166 := (nI_eq (a := 6) (b := 10) (by omega) (by omega)).mp h166
          (exfalso; omega)
        replace h145 := (nI_eq (a := 6) (b := 9) (by omega) (by omega)).mp h145
        (exfalso; omega)
      replace h33 : ¬ 5 < 6 := fun hq0 => h33 ((nI_ltI (a := 5) (b := 6) (by omega) (by omega)).mpr hq0)
      (exfalso; omega)
    replace h18 : ¬ 0 = 0 := fun hq0 => h18 ((nI_eq (a := 0) (b := 0) (by omega) (by omega)).mpr hq0)
    (exfalso; omega)
  replace h8 := (nI_eq (a := 6) (b := 13) (by omega) (by omega)).mp h8
  (exfalso; omega)

set_option maxRecDepth 100000 in
set_option maxHeartbeats 4000000 in
theorem rf_rep7 (l : Launch) (dC : Nat → ClassId) (dI : Nat → Nat → Nat) (cI cZ : ClassId) (m0 aMd aO1 aT2 aSh aMk aFa aDe aNe aBy aPi aNw aNs aBf : Nat) (ft vl rs pd rn rr : Int32) (v x y ky : Nat) (Md O1 T2 Fa De : Nat → Int32) (c9 d z o : Int32) (sz : Nat) (hv : v < 24) (em : Md v = nI 7) (hd : db_set De v d) (hf : db_rep Fa v z o) (e1 : O1 v = nI x) : Met l yM_replacement wsM_replacement { frames := 2, cells := 0, slots := 0, locals := 60 } (va_Pc [.ref m0, .int (nI (v))] (dw_pre (dC, dI) vwCl [(m0, .inr (5, [.int (ft), .int (vl), .ref aMd, .ref aO1, .ref aT2, .int (rs), .ref aSh, .ref aMk, .ref aFa, .ref aDe, .ref aNe, .ref aBy, .ref aPi, .int (pd), .ref aNw, .ref aNs, .ref aBf, .int (rn), .int (rr)])), (aMd, .inl (cI, 24, .inl (Md))), (aO1, .inl (cI, 24, .inl (O1))), (aT2, .inl (cI, 24, .inl (T2))), (aFa, .inl (cI, 768, .inl (Fa))), (aDe, .inl (cZ, 768, .inl (De)))] [(cI, .int), (cZ, .boolean)] sz)) (va_Qi (fun (r : Int32) (u : Unit) => r = db_Bv 7 x ky c9 d z o) (fun u t => dw_post (dC, dI) vwCl [(m0, .inr (5, [.int (ft), .int (vl), .ref aMd, .ref aO1, .ref aT2, .int (rs), .ref aSh, .ref aMk, .ref aFa, .ref aDe, .ref aNe, .ref aBy, .ref aPi, .int (pd), .ref aNw, .ref aNs, .ref aBf, .int (rn), .int (rr)])), (aMd, .inl (cI, 24, .inl (Md))), (aO1, .inl (cI, 24, .inl (O1))), (aT2, .inl (cI, 24, .inl (T2))), (aFa, .inl (cI, 768, .inl (Fa))), (aDe, .inl (cZ, 768, .inl (De)))] [(cI, .int), (cZ, .boolean)] (va_A [(m0, .inr (5, [.int (ft), .int (vl), .ref aMd, .ref aO1, .ref aT2, .int (rs), .ref aSh, .ref aMk, .ref aFa, .ref aDe, .ref aNe, .ref aBy, .ref aPi, .int (pd), .ref aNw, .ref aNs, .ref aBf, .int (rn), .int (rr)])), (aMd, .inl (cI, 24, .inl (Md))), (aO1, .inl (cI, 24, .inl (O1))), (aT2, .inl (cI, 24, .inl (T2))), (aFa, .inl (cI, 768, .inl (Fa))), (aDe, .inl (cZ, 768, .inl (De)))] sz) t) (va_A [(m0, .inr (5, [.int (ft), .int (vl), .ref aMd, .ref aO1, .ref aT2, .int (rs), .ref aSh, .ref aMk, .ref aFa, .ref aDe, .ref aNe, .ref aBy, .ref aPi, .int (pd), .ref aNw, .ref aNs, .ref aBf, .int (rn), .int (rr)])), (aMd, .inl (cI, 24, .inl (Md))), (aO1, .inl (cI, 24, .inl (O1))), (aT2, .inl (cI, 24, .inl (T2))), (aFa, .inl (cI, 768, .inl (Fa))), (aDe, .inl (cZ, 768, .inl (De)))] sz)) 0 0 (va_A [(m0, .inr (5, [.int (ft), .int (vl), .ref aMd, .ref aO1, .ref aT2, .int (rs), .ref aSh, .ref aMk, .ref aFa, .ref aDe, .ref aNe, .ref aBy, .ref aPi, .int (pd), .ref aNw, .ref aNs, .ref aBf, .int (rn), .int (rr)])), (aMd, .inl (cI, 24, .inl (Md))), (aO1, .inl (cI, 24, .inl (O1))), (aT2, .inl (cI, 24, .inl (T2))), (aFa, .inl (cI, 768, .inl (Fa))), (aDe, .inl (cZ, 768, .inl (De)))] sz) := by
  refine Met.ofW (cc := cM_replacement) (maxL := 4) (ret := (some .int)) (by decide) rfl ?_
  intro p e s m args below meth c s₁ B hml hv0
  have hx := B.exec
  have hb := B.bytes
  have hr := B.returns
  have hts := atoms_spec (ws := wsM_replacement) B.pre
  have hown : s.vm.findClass RM = some m.cls := findClass_of_methodNamed B.named
  have hlocks := B.notSynchronized
  obtain ⟨rfl, hsz, hG⟩ := dw_enter hv0
  generalize va_A [(m0, .inr (5, [.int (ft), .int (vl), .ref aMd, .ref aO1, .ref aT2, .int (rs), .ref aSh, .ref aMk, .ref aFa, .ref aDe, .ref aNe, .ref aBy, .ref aPi, .int (pd), .ref aNw, .ref aNs, .ref aBf, .int (rn), .int (rr)])), (aMd, .inl (cI, 24, .inl (Md))), (aO1, .inl (cI, 24, .inl (O1))), (aT2, .inl (cI, 24, .inl (T2))), (aFa, .inl (cI, 768, .inl (Fa))), (aDe, .inl (cZ, 768, .inl (De)))] sz = A at hG ⊢
  have hl := lv_entry ([.ref m0, .int (nI (v))]) (n := 4) (Nat.le_of_ble_eq_true rfl)
  rw [lg_entry_eq]
  generalize (lg_sl ([.ref m0, .int (nI (v))]) ++ List.replicate (4 - (lg_sl ([.ref m0, .int (nI (v))])).length) Slot.unset).toArray = ls at hl ⊢
  have hl : lv_has ls 4 [(0, .ref m0), (1, .int (nI (v)))] := hl
  have hw496 := hts _ (List.mem_cons_of_mem _ tw_496)
  refine dw_Q (fun Q hQ => ?_)
  suffices hgo : ∀ (H : Heap) (locs : List Loc), dw_G (dC, dI) vwCl [(cI, .int), (cZ, .boolean)] A s.heap s [(m0, .inr (5, [.int (ft), .int (vl), .ref aMd, .ref aO1, .ref aT2, .int (rs), .ref aSh, .ref aMk, .ref aFa, .ref aDe, .ref aNe, .ref aBy, .ref aPi, .int (pd), .ref aNw, .ref aNs, .ref aBf, .int (rn), .int (rr)])), (aMd, .inl (cI, 24, .inl (Md))), (aO1, .inl (cI, 24, .inl (O1))), (aT2, .inl (cI, 24, .inl (T2))), (aFa, .inl (cI, 768, .inl (Fa))), (aDe, .inl (cZ, 768, .inl (De)))] H locs → W p l e (headSpec wsM_replacement { frames := 2, cells := 0, slots := 0, locals := 60 }).room s m [.ref m0, .int (nI (v))].toArray below meth c H locs 0 0 Q (F0 m 0 ls []) from hgo _ _ hG
  clear hG
  intro H locs hG
  refine lv_aload_n hx hb dM_replacement_0 rfl (lv_at hl 0 rfl) ?_
  refine dw_get hx hb hts inMc hown hG 0 2 rfl rfl (by decide) hw496 rfl rfl dM_replacement_1 ?_
  refine lv_iload_n hx hb dM_replacement_4 rfl (lv_at hl 1 rfl) ?_
  refine dw_ia (x := 7) hx hb hG 1 0 rfl rfl (v) rfl (by omega) (by decide) em dM_replacement_5 ?_
  refine lv_bipush (v := 13) hx hb dM_replacement_6 (by decide) ?_
  refine lv_icmp_ne (tgt := 13) hx hb dM_replacement_8 (by decide) (fun h8 => ?_) (fun h8 => ?_)
  · skip
    replace h8 : ¬ 7 = 13 := fun hq0 => h8 ((nI_eq (a := 7) (b := 13) (by omega) (by omega)).mpr hq0)
    refine lv_aload_n hx hb dM_replacement_13 rfl (lv_at hl 0 rfl) ?_
    refine lv_iload_n hx hb dM_replacement_14 rfl (lv_at hl 1 rfl) ?_
    refine dw_calli (wc := [(m0, .inr (5, [.int (ft), .int (vl), .ref aMd, .ref aO1, .ref aT2, .int (rs), .ref aSh, .ref aMk, .ref aFa, .ref aDe, .ref aNe, .ref aBy, .ref aPi, .int (pd), .ref aNw, .ref aNs, .ref aBf, .int (rn), .int (rr)])), (aFa, .inl (cI, 768, .inl (Fa))), (aDe, .inl (cZ, 768, .inl (De)))]) (wr := [(aMd, .inl (cI, 24, .inl (Md))), (aO1, .inl (cI, 24, .inl (O1))), (aT2, .inl (cI, 24, .inl (T2)))]) hG [0, 4, 5] [1, 2, 3] rfl rfl (by decide) (by decide) (va_runV (As := [.int (nI (v))]) (rest := []) ⟨hx, hb, hml, hown, hts⟩ (rf_isKnown l dC dI cI cZ m0 aMd aO1 aT2 aSh aMk aFa aDe aNe aBy aPi aNw aNs aBf ft vl rs pd rn rr v Fa De d z o H.size hv hd hf) (dc_V 1 hts tw_664 tw_666 tp_M_isKnown tw_7 tw_667 rfl rfl (by decide +kernel) ⟨Nat.le_of_ble_eq_true rfl, Nat.le_of_ble_eq_true rfl⟩) (dw_preV (ci := 5) hG [0, 4, 5] [0, 1] rfl rfl (by decide) rfl rfl (q0 := 0) rfl) rfl rfl hl.1 rfl (lv_room (Nat.le_of_ble_eq_true rfl)) dM_replacement_15 ⟨Nat.le_refl _, Nat.le_refl _⟩) (fun r u H locs hp hG => ?_)
    subst hp
    have hG : dw_G (dC, dI) vwCl [(cI, .int), (cZ, .boolean)] A s.heap s [(aMd, .inl (cI, 24, .inl (Md))), (aO1, .inl (cI, 24, .inl (O1))), (aT2, .inl (cI, 24, .inl (T2))), (m0, .inr (5, [.int (ft), .int (vl), .ref aMd, .ref aO1, .ref aT2, .int (rs), .ref aSh, .ref aMk, .ref aFa, .ref aDe, .ref aNe, .ref aBy, .ref aPi, .int (pd), .ref aNw, .ref aNs, .ref aBf, .int (rn), .int (rr)])), (aFa, .inl (cI, 768, .inl (Fa))), (aDe, .inl (cZ, 768, .inl (De)))] H locs := hG
    rcases Decidable.em (d &&& ((z ||| o) ^^^ (-1)) = 0) with hkn | hkn
    · skip
      refine lv_topi (nm_r (show (if d &&& ((z ||| o) ^^^ (-1)) = 0 then 1 else 0 : Int32) = 1 from (if_pos hkn)) ?_)
      refine lv_if_eq (tgt := 24) hx hb dM_replacement_18 (by decide) (fun h18 => ?_) (fun h18 => ?_)
      · skip
        replace h18 := (nI_eq (a := 1) (b := 0) (by omega) (by omega)).mp h18
        (exfalso; omega)
      replace h18 : ¬ 1 = 0 := fun hq0 => h18 ((nI_eq (a := 1) (b := 0) (by omega) (by omega)).mpr hq0)
      refine lv_bipush (v := -2) hx hb dM_replacement_21 (by decide) ?_
      subst hQ
      exact dw_iret hx hb hr (dw_perm hG [3, 0, 1, 2, 4, 5] (by decide) rfl rfl) (()) rfl (by unfold db_Bv; rw [if_neg (by decide), if_pos hkn]) dM_replacement_23 hlocks
    refine lv_topi (nm_r (show (if d &&& ((z ||| o) ^^^ (-1)) = 0 then 1 else 0 : Int32) = 0 from (if_neg hkn)) ?_)
    refine lv_if_eq (tgt := 24) hx hb dM_replacement_18 (by decide) (fun h18 => ?_) (fun h18 => ?_)
    · skip
      replace h18 := (nI_eq (a := 0) (b := 0) (by omega) (by omega)).mp h18
      refine lv_iconst (v := 0) hx hb dM_replacement_24 (by decide) ?_
      refine lv_istore_n (lv' := [(2, .int (0)), (0, .ref m0), (1, .int (nI (v)))]) hx hb dM_replacement_25 rfl hl (by decide) rfl (fun ls hl => ?_)
      refine lv_aload_n hx hb dM_replacement_26 rfl (lv_at hl 1 rfl) ?_
      refine dw_get hx hb hts inMc hown hG 3 2 rfl rfl (by decide) hw496 rfl rfl dM_replacement_27 ?_
      refine lv_iload_n hx hb dM_replacement_30 rfl (lv_at hl 2 rfl) ?_
      refine dw_ia (x := 7) hx hb hG 0 0 rfl rfl (v) rfl (by omega) (by decide) em dM_replacement_31 ?_
      refine lv_iconst (v := 5) hx hb dM_replacement_32 (by decide) ?_
      refine lv_icmp_gt (tgt := 133) hx hb dM_replacement_33 (by decide) (fun h33 => ?_) (fun h33 => ?_)
      · skip
        replace h33 := (nI_ltI (a := 5) (b := 7) (by omega) (by omega)).mp h33
        refine lv_iload_n hx hb dM_replacement_133 rfl (lv_at hl 0 rfl) ?_
        refine lv_if_ne (tgt := 179) hx hb dM_replacement_134 (by decide) (fun h134 => ?_) (fun h134 => ?_)
        · skip
          replace h134 : ¬ 0 = 0 := fun hq0 => h134 ((nI_eq (a := 0) (b := 0) (by omega) (by omega)).mpr hq0)
          (exfalso; omega)
        replace h134 := (nI_eq (a := 0) (b := 0) (by omega) (by omega)).mp h134
        refine lv_aload_n hx hb dM_replacement_137 rfl (lv_at hl 1 rfl) ?_
        refine dw_get hx hb hts inMc hown hG 3 2 rfl rfl (by decide) hw496 rfl rfl dM_replacement_138 ?_
        refine lv_iload_n hx hb dM_replacement_141 rfl (lv_at hl 2 rfl) ?_
        refine dw_ia (x := 7) hx hb hG 0 0 rfl rfl (v) rfl (by omega) (by decide) em dM_replacement_142 ?_
        refine lv_bipush (v := 9) hx hb dM_replacement_143 (by decide) ?_
        refine lv_icmp_ne (tgt := 158) hx hb dM_replacement_145 (by decide) (fun h145 => ?_) (fun h145 => ?_)
        · skip
          replace h145 : ¬ 7 = 9 := fun hq0 => h145 ((nI_eq (a := 7) (b := 9) (by omega) (by omega)).mpr hq0)
          refine lv_aload_n hx hb dM_replacement_158 rfl (lv_at hl 1 rfl) ?_
          refine dw_get hx hb hts inMc hown hG 3 2 rfl rfl (by decide) hw496 rfl rfl dM_replacement_159 ?_
          refine lv_iload_n hx hb dM_replacement_162 rfl (lv_at hl 2 rfl) ?_
          refine dw_ia (x := 7) hx hb hG 0 0 rfl rfl (v) rfl (by omega) (by decide) em dM_replacement_163 ?_
          refine lv_bipush (v := 10) hx hb dM_replacement_164 (by decide) ?_
          refine lv_icmp_ne (tgt := 183) hx hb dM_replacement_166 (by decide) (fun h166 => ?_) (fun h166 => ?_)
          · skip
            replace h166 : ¬ 7 = 10 := fun hq0 => h166 ((nI_eq (a := 7) (b := 10) (by omega) (by omega)).mpr hq0)
            refine lv_iconst (v := 0) hx hb dM_replacement_183 (by decide) ?_
            refine lv_istore_n (lv' := [(2, .int (0)), (0, .ref m0), (1, .int (nI (v)))]) hx hb dM_replacement_184 rfl hl (by decide) rfl (fun ls hl => ?_)
            refine lv_iload_n hx hb dM_replacement_185 rfl (lv_at hl 0 rfl) ?_
            refine lv_if_eq (tgt := 198) hx hb dM_replacement_186 (by decide) (fun h186 => ?_) (fun h186 => ?_)
            · skip
              replace h186 := (nI_eq (a := 0) (b := 0) (by omega) (by omega)).mp h186
              refine lv_iconst (v := -1) hx hb dM_replacement_198 (by decide) ?_
              subst hQ
              exact dw_iret hx hb hr (dw_perm hG [3, 0, 1, 2, 4, 5] (by decide) rfl rfl) (()) rfl (by unfold db_Bv; rw [if_neg (by decide), if_neg hkn]; exact (if_neg (by show ¬ false = true; decide)).symm) dM_replacement_199 hlocks
            replace h186 : ¬ 0 = 0 := fun hq0 => h186 ((nI_eq (a := 0) (b := 0) (by omega) (by omega)).mpr hq0)
            (exfalso; omega)
          replace h166 := (nI_eq (a := 7) (b := 10) (by omega) (by omega)).mp h166
          (exfalso; omega)
        replace h145 := (nI_eq (a := 7) (b := 9) (by omega) (by omega)).mp h145
        (exfalso; omega)
      replace h33 : ¬ 5 < 7 := fun hq0 => h33 ((nI_ltI (a := 5) (b := 7) (by omega) (by omega)).mpr hq0)
      (exfalso; omega)
    replace h18 : ¬ 0 = 0 := fun hq0 => h18 ((nI_eq (a := 0) (b := 0) (by omega) (by omega)).mpr hq0)
    (exfalso; omega)
  replace h8 := (nI_eq (a := 7) (b := 13) (by omega) (by omega)).mp h8
  (exfalso; omega)

set_option maxRecDepth 100000 in
set_option maxHeartbeats 4000000 in
theorem rf_rep8 (l : Launch) (dC : Nat → ClassId) (dI : Nat → Nat → Nat) (cI cZ : ClassId) (m0 aMd aO1 aT2 aSh aMk aFa aDe aNe aBy aPi aNw aNs aBf : Nat) (ft vl rs pd rn rr : Int32) (v x y ky : Nat) (Md O1 T2 Fa De : Nat → Int32) (c9 d z o : Int32) (sz : Nat) (hv : v < 24) (em : Md v = nI 8) (hd : db_set De v d) (hf : db_rep Fa v z o) (e1 : O1 v = nI x) : Met l yM_replacement wsM_replacement { frames := 2, cells := 0, slots := 0, locals := 60 } (va_Pc [.ref m0, .int (nI (v))] (dw_pre (dC, dI) vwCl [(m0, .inr (5, [.int (ft), .int (vl), .ref aMd, .ref aO1, .ref aT2, .int (rs), .ref aSh, .ref aMk, .ref aFa, .ref aDe, .ref aNe, .ref aBy, .ref aPi, .int (pd), .ref aNw, .ref aNs, .ref aBf, .int (rn), .int (rr)])), (aMd, .inl (cI, 24, .inl (Md))), (aO1, .inl (cI, 24, .inl (O1))), (aT2, .inl (cI, 24, .inl (T2))), (aFa, .inl (cI, 768, .inl (Fa))), (aDe, .inl (cZ, 768, .inl (De)))] [(cI, .int), (cZ, .boolean)] sz)) (va_Qi (fun (r : Int32) (u : Unit) => r = db_Bv 8 x ky c9 d z o) (fun u t => dw_post (dC, dI) vwCl [(m0, .inr (5, [.int (ft), .int (vl), .ref aMd, .ref aO1, .ref aT2, .int (rs), .ref aSh, .ref aMk, .ref aFa, .ref aDe, .ref aNe, .ref aBy, .ref aPi, .int (pd), .ref aNw, .ref aNs, .ref aBf, .int (rn), .int (rr)])), (aMd, .inl (cI, 24, .inl (Md))), (aO1, .inl (cI, 24, .inl (O1))), (aT2, .inl (cI, 24, .inl (T2))), (aFa, .inl (cI, 768, .inl (Fa))), (aDe, .inl (cZ, 768, .inl (De)))] [(cI, .int), (cZ, .boolean)] (va_A [(m0, .inr (5, [.int (ft), .int (vl), .ref aMd, .ref aO1, .ref aT2, .int (rs), .ref aSh, .ref aMk, .ref aFa, .ref aDe, .ref aNe, .ref aBy, .ref aPi, .int (pd), .ref aNw, .ref aNs, .ref aBf, .int (rn), .int (rr)])), (aMd, .inl (cI, 24, .inl (Md))), (aO1, .inl (cI, 24, .inl (O1))), (aT2, .inl (cI, 24, .inl (T2))), (aFa, .inl (cI, 768, .inl (Fa))), (aDe, .inl (cZ, 768, .inl (De)))] sz) t) (va_A [(m0, .inr (5, [.int (ft), .int (vl), .ref aMd, .ref aO1, .ref aT2, .int (rs), .ref aSh, .ref aMk, .ref aFa, .ref aDe, .ref aNe, .ref aBy, .ref aPi, .int (pd), .ref aNw, .ref aNs, .ref aBf, .int (rn), .int (rr)])), (aMd, .inl (cI, 24, .inl (Md))), (aO1, .inl (cI, 24, .inl (O1))), (aT2, .inl (cI, 24, .inl (T2))), (aFa, .inl (cI, 768, .inl (Fa))), (aDe, .inl (cZ, 768, .inl (De)))] sz)) 0 0 (va_A [(m0, .inr (5, [.int (ft), .int (vl), .ref aMd, .ref aO1, .ref aT2, .int (rs), .ref aSh, .ref aMk, .ref aFa, .ref aDe, .ref aNe, .ref aBy, .ref aPi, .int (pd), .ref aNw, .ref aNs, .ref aBf, .int (rn), .int (rr)])), (aMd, .inl (cI, 24, .inl (Md))), (aO1, .inl (cI, 24, .inl (O1))), (aT2, .inl (cI, 24, .inl (T2))), (aFa, .inl (cI, 768, .inl (Fa))), (aDe, .inl (cZ, 768, .inl (De)))] sz) := by
  refine Met.ofW (cc := cM_replacement) (maxL := 4) (ret := (some .int)) (by decide) rfl ?_
  intro p e s m args below meth c s₁ B hml hv0
  have hx := B.exec
  have hb := B.bytes
  have hr := B.returns
  have hts := atoms_spec (ws := wsM_replacement) B.pre
  have hown : s.vm.findClass RM = some m.cls := findClass_of_methodNamed B.named
  have hlocks := B.notSynchronized
  obtain ⟨rfl, hsz, hG⟩ := dw_enter hv0
  generalize va_A [(m0, .inr (5, [.int (ft), .int (vl), .ref aMd, .ref aO1, .ref aT2, .int (rs), .ref aSh, .ref aMk, .ref aFa, .ref aDe, .ref aNe, .ref aBy, .ref aPi, .int (pd), .ref aNw, .ref aNs, .ref aBf, .int (rn), .int (rr)])), (aMd, .inl (cI, 24, .inl (Md))), (aO1, .inl (cI, 24, .inl (O1))), (aT2, .inl (cI, 24, .inl (T2))), (aFa, .inl (cI, 768, .inl (Fa))), (aDe, .inl (cZ, 768, .inl (De)))] sz = A at hG ⊢
  have hl := lv_entry ([.ref m0, .int (nI (v))]) (n := 4) (Nat.le_of_ble_eq_true rfl)
  rw [lg_entry_eq]
  generalize (lg_sl ([.ref m0, .int (nI (v))]) ++ List.replicate (4 - (lg_sl ([.ref m0, .int (nI (v))])).length) Slot.unset).toArray = ls at hl ⊢
  have hl : lv_has ls 4 [(0, .ref m0), (1, .int (nI (v)))] := hl
  have hw496 := hts _ (List.mem_cons_of_mem _ tw_496)
  refine dw_Q (fun Q hQ => ?_)
  suffices hgo : ∀ (H : Heap) (locs : List Loc), dw_G (dC, dI) vwCl [(cI, .int), (cZ, .boolean)] A s.heap s [(m0, .inr (5, [.int (ft), .int (vl), .ref aMd, .ref aO1, .ref aT2, .int (rs), .ref aSh, .ref aMk, .ref aFa, .ref aDe, .ref aNe, .ref aBy, .ref aPi, .int (pd), .ref aNw, .ref aNs, .ref aBf, .int (rn), .int (rr)])), (aMd, .inl (cI, 24, .inl (Md))), (aO1, .inl (cI, 24, .inl (O1))), (aT2, .inl (cI, 24, .inl (T2))), (aFa, .inl (cI, 768, .inl (Fa))), (aDe, .inl (cZ, 768, .inl (De)))] H locs → W p l e (headSpec wsM_replacement { frames := 2, cells := 0, slots := 0, locals := 60 }).room s m [.ref m0, .int (nI (v))].toArray below meth c H locs 0 0 Q (F0 m 0 ls []) from hgo _ _ hG
  clear hG
  intro H locs hG
  refine lv_aload_n hx hb dM_replacement_0 rfl (lv_at hl 0 rfl) ?_
  refine dw_get hx hb hts inMc hown hG 0 2 rfl rfl (by decide) hw496 rfl rfl dM_replacement_1 ?_
  refine lv_iload_n hx hb dM_replacement_4 rfl (lv_at hl 1 rfl) ?_
  refine dw_ia (x := 8) hx hb hG 1 0 rfl rfl (v) rfl (by omega) (by decide) em dM_replacement_5 ?_
  refine lv_bipush (v := 13) hx hb dM_replacement_6 (by decide) ?_
  refine lv_icmp_ne (tgt := 13) hx hb dM_replacement_8 (by decide) (fun h8 => ?_) (fun h8 => ?_)
  · skip
    replace h8 : ¬ 8 = 13 := fun hq0 => h8 ((nI_eq (a := 8) (b := 13) (by omega) (by omega)).mpr hq0)
    refine lv_aload_n hx hb dM_replacement_13 rfl (lv_at hl 0 rfl) ?_
    refine lv_iload_n hx hb dM_replacement_14 rfl (lv_at hl 1 rfl) ?_
    refine dw_calli (wc := [(m0, .inr (5, [.int (ft), .int (vl), .ref aMd, .ref aO1, .ref aT2, .int (rs), .ref aSh, .ref aMk, .ref aFa, .ref aDe, .ref aNe, .ref aBy, .ref aPi, .int (pd), .ref aNw, .ref aNs, .ref aBf, .int (rn), .int (rr)])), (aFa, .inl (cI, 768, .inl (Fa))), (aDe, .inl (cZ, 768, .inl (De)))]) (wr := [(aMd, .inl (cI, 24, .inl (Md))), (aO1, .inl (cI, 24, .inl (O1))), (aT2, .inl (cI, 24, .inl (T2)))]) hG [0, 4, 5] [1, 2, 3] rfl rfl (by decide) (by decide) (va_runV (As := [.int (nI (v))]) (rest := []) ⟨hx, hb, hml, hown, hts⟩ (rf_isKnown l dC dI cI cZ m0 aMd aO1 aT2 aSh aMk aFa aDe aNe aBy aPi aNw aNs aBf ft vl rs pd rn rr v Fa De d z o H.size hv hd hf) (dc_V 1 hts tw_664 tw_666 tp_M_isKnown tw_7 tw_667 rfl rfl (by decide +kernel) ⟨Nat.le_of_ble_eq_true rfl, Nat.le_of_ble_eq_true rfl⟩) (dw_preV (ci := 5) hG [0, 4, 5] [0, 1] rfl rfl (by decide) rfl rfl (q0 := 0) rfl) rfl rfl hl.1 rfl (lv_room (Nat.le_of_ble_eq_true rfl)) dM_replacement_15 ⟨Nat.le_refl _, Nat.le_refl _⟩) (fun r u H locs hp hG => ?_)
    subst hp
    have hG : dw_G (dC, dI) vwCl [(cI, .int), (cZ, .boolean)] A s.heap s [(aMd, .inl (cI, 24, .inl (Md))), (aO1, .inl (cI, 24, .inl (O1))), (aT2, .inl (cI, 24, .inl (T2))), (m0, .inr (5, [.int (ft), .int (vl), .ref aMd, .ref aO1, .ref aT2, .int (rs), .ref aSh, .ref aMk, .ref aFa, .ref aDe, .ref aNe, .ref aBy, .ref aPi, .int (pd), .ref aNw, .ref aNs, .ref aBf, .int (rn), .int (rr)])), (aFa, .inl (cI, 768, .inl (Fa))), (aDe, .inl (cZ, 768, .inl (De)))] H locs := hG
    rcases Decidable.em (d &&& ((z ||| o) ^^^ (-1)) = 0) with hkn | hkn
    · skip
      refine lv_topi (nm_r (show (if d &&& ((z ||| o) ^^^ (-1)) = 0 then 1 else 0 : Int32) = 1 from (if_pos hkn)) ?_)
      refine lv_if_eq (tgt := 24) hx hb dM_replacement_18 (by decide) (fun h18 => ?_) (fun h18 => ?_)
      · skip
        replace h18 := (nI_eq (a := 1) (b := 0) (by omega) (by omega)).mp h18
        (exfalso; omega)
      replace h18 : ¬ 1 = 0 := fun hq0 => h18 ((nI_eq (a := 1) (b := 0) (by omega) (by omega)).mpr hq0)
      refine lv_bipush (v := -2) hx hb dM_replacement_21 (by decide) ?_
      subst hQ
      exact dw_iret hx hb hr (dw_perm hG [3, 0, 1, 2, 4, 5] (by decide) rfl rfl) (()) rfl (by unfold db_Bv; rw [if_neg (by decide), if_pos hkn]) dM_replacement_23 hlocks
    refine lv_topi (nm_r (show (if d &&& ((z ||| o) ^^^ (-1)) = 0 then 1 else 0 : Int32) = 0 from (if_neg hkn)) ?_)
    refine lv_if_eq (tgt := 24) hx hb dM_replacement_18 (by decide) (fun h18 => ?_) (fun h18 => ?_)
    · skip
      replace h18 := (nI_eq (a := 0) (b := 0) (by omega) (by omega)).mp h18
      refine lv_iconst (v := 0) hx hb dM_replacement_24 (by decide) ?_
      refine lv_istore_n (lv' := [(2, .int (0)), (0, .ref m0), (1, .int (nI (v)))]) hx hb dM_replacement_25 rfl hl (by decide) rfl (fun ls hl => ?_)
      refine lv_aload_n hx hb dM_replacement_26 rfl (lv_at hl 1 rfl) ?_
      refine dw_get hx hb hts inMc hown hG 3 2 rfl rfl (by decide) hw496 rfl rfl dM_replacement_27 ?_
      refine lv_iload_n hx hb dM_replacement_30 rfl (lv_at hl 2 rfl) ?_
      refine dw_ia (x := 8) hx hb hG 0 0 rfl rfl (v) rfl (by omega) (by decide) em dM_replacement_31 ?_
      refine lv_iconst (v := 5) hx hb dM_replacement_32 (by decide) ?_
      refine lv_icmp_gt (tgt := 133) hx hb dM_replacement_33 (by decide) (fun h33 => ?_) (fun h33 => ?_)
      · skip
        replace h33 := (nI_ltI (a := 5) (b := 8) (by omega) (by omega)).mp h33
        refine lv_iload_n hx hb dM_replacement_133 rfl (lv_at hl 0 rfl) ?_
        refine lv_if_ne (tgt := 179) hx hb dM_replacement_134 (by decide) (fun h134 => ?_) (fun h134 => ?_)
        · skip
          replace h134 : ¬ 0 = 0 := fun hq0 => h134 ((nI_eq (a := 0) (b := 0) (by omega) (by omega)).mpr hq0)
          (exfalso; omega)
        replace h134 := (nI_eq (a := 0) (b := 0) (by omega) (by omega)).mp h134
        refine lv_aload_n hx hb dM_replacement_137 rfl (lv_at hl 1 rfl) ?_
        refine dw_get hx hb hts inMc hown hG 3 2 rfl rfl (by decide) hw496 rfl rfl dM_replacement_138 ?_
        refine lv_iload_n hx hb dM_replacement_141 rfl (lv_at hl 2 rfl) ?_
        refine dw_ia (x := 8) hx hb hG 0 0 rfl rfl (v) rfl (by omega) (by decide) em dM_replacement_142 ?_
        refine lv_bipush (v := 9) hx hb dM_replacement_143 (by decide) ?_
        refine lv_icmp_ne (tgt := 158) hx hb dM_replacement_145 (by decide) (fun h145 => ?_) (fun h145 => ?_)
        · skip
          replace h145 : ¬ 8 = 9 := fun hq0 => h145 ((nI_eq (a := 8) (b := 9) (by omega) (by omega)).mpr hq0)
          refine lv_aload_n hx hb dM_replacement_158 rfl (lv_at hl 1 rfl) ?_
          refine dw_get hx hb hts inMc hown hG 3 2 rfl rfl (by decide) hw496 rfl rfl dM_replacement_159 ?_
          refine lv_iload_n hx hb dM_replacement_162 rfl (lv_at hl 2 rfl) ?_
          refine dw_ia (x := 8) hx hb hG 0 0 rfl rfl (v) rfl (by omega) (by decide) em dM_replacement_163 ?_
          refine lv_bipush (v := 10) hx hb dM_replacement_164 (by decide) ?_
          refine lv_icmp_ne (tgt := 183) hx hb dM_replacement_166 (by decide) (fun h166 => ?_) (fun h166 => ?_)
          · skip
            replace h166 : ¬ 8 = 10 := fun hq0 => h166 ((nI_eq (a := 8) (b := 10) (by omega) (by omega)).mpr hq0)
            refine lv_iconst (v := 0) hx hb dM_replacement_183 (by decide) ?_
            refine lv_istore_n (lv' := [(2, .int (0)), (0, .ref m0), (1, .int (nI (v)))]) hx hb dM_replacement_184 rfl hl (by decide) rfl (fun ls hl => ?_)
            refine lv_iload_n hx hb dM_replacement_185 rfl (lv_at hl 0 rfl) ?_
            refine lv_if_eq (tgt := 198) hx hb dM_replacement_186 (by decide) (fun h186 => ?_) (fun h186 => ?_)
            · skip
              replace h186 := (nI_eq (a := 0) (b := 0) (by omega) (by omega)).mp h186
              refine lv_iconst (v := -1) hx hb dM_replacement_198 (by decide) ?_
              subst hQ
              exact dw_iret hx hb hr (dw_perm hG [3, 0, 1, 2, 4, 5] (by decide) rfl rfl) (()) rfl (by unfold db_Bv; rw [if_neg (by decide), if_neg hkn]; exact (if_neg (by show ¬ false = true; decide)).symm) dM_replacement_199 hlocks
            replace h186 : ¬ 0 = 0 := fun hq0 => h186 ((nI_eq (a := 0) (b := 0) (by omega) (by omega)).mpr hq0)
            (exfalso; omega)
          replace h166 := (nI_eq (a := 8) (b := 10) (by omega) (by omega)).mp h166
          (exfalso; omega)
        replace h145 := (nI_eq (a := 8) (b := 9) (by omega) (by omega)).mp h145
        (exfalso; omega)
      replace h33 : ¬ 5 < 8 := fun hq0 => h33 ((nI_ltI (a := 5) (b := 8) (by omega) (by omega)).mpr hq0)
      (exfalso; omega)
    replace h18 : ¬ 0 = 0 := fun hq0 => h18 ((nI_eq (a := 0) (b := 0) (by omega) (by omega)).mpr hq0)
    (exfalso; omega)
  replace h8 := (nI_eq (a := 8) (b := 13) (by omega) (by omega)).mp h8
  (exfalso; omega)

set_option maxRecDepth 100000 in
set_option maxHeartbeats 4000000 in
theorem rf_rep9 (l : Launch) (dC : Nat → ClassId) (dI : Nat → Nat → Nat) (cI cZ : ClassId) (m0 aMd aO1 aT2 aSh aMk aFa aDe aNe aBy aPi aNw aNs aBf : Nat) (ft vl rs pd rn rr : Int32) (v x y ky : Nat) (Md O1 T2 Fa De : Nat → Int32) (c9 d z o : Int32) (sz : Nat) (hv : v < 24) (em : Md v = nI 12) (hd : db_set De v d) (hf : db_rep Fa v z o) : Met l yM_replacement wsM_replacement { frames := 2, cells := 0, slots := 0, locals := 60 } (va_Pc [.ref m0, .int (nI (v))] (dw_pre (dC, dI) vwCl [(m0, .inr (5, [.int (ft), .int (vl), .ref aMd, .ref aO1, .ref aT2, .int (rs), .ref aSh, .ref aMk, .ref aFa, .ref aDe, .ref aNe, .ref aBy, .ref aPi, .int (pd), .ref aNw, .ref aNs, .ref aBf, .int (rn), .int (rr)])), (aMd, .inl (cI, 24, .inl (Md))), (aO1, .inl (cI, 24, .inl (O1))), (aT2, .inl (cI, 24, .inl (T2))), (aFa, .inl (cI, 768, .inl (Fa))), (aDe, .inl (cZ, 768, .inl (De)))] [(cI, .int), (cZ, .boolean)] sz)) (va_Qi (fun (r : Int32) (u : Unit) => r = db_Bv 9 x ky c9 d z o) (fun u t => dw_post (dC, dI) vwCl [(m0, .inr (5, [.int (ft), .int (vl), .ref aMd, .ref aO1, .ref aT2, .int (rs), .ref aSh, .ref aMk, .ref aFa, .ref aDe, .ref aNe, .ref aBy, .ref aPi, .int (pd), .ref aNw, .ref aNs, .ref aBf, .int (rn), .int (rr)])), (aMd, .inl (cI, 24, .inl (Md))), (aO1, .inl (cI, 24, .inl (O1))), (aT2, .inl (cI, 24, .inl (T2))), (aFa, .inl (cI, 768, .inl (Fa))), (aDe, .inl (cZ, 768, .inl (De)))] [(cI, .int), (cZ, .boolean)] (va_A [(m0, .inr (5, [.int (ft), .int (vl), .ref aMd, .ref aO1, .ref aT2, .int (rs), .ref aSh, .ref aMk, .ref aFa, .ref aDe, .ref aNe, .ref aBy, .ref aPi, .int (pd), .ref aNw, .ref aNs, .ref aBf, .int (rn), .int (rr)])), (aMd, .inl (cI, 24, .inl (Md))), (aO1, .inl (cI, 24, .inl (O1))), (aT2, .inl (cI, 24, .inl (T2))), (aFa, .inl (cI, 768, .inl (Fa))), (aDe, .inl (cZ, 768, .inl (De)))] sz) t) (va_A [(m0, .inr (5, [.int (ft), .int (vl), .ref aMd, .ref aO1, .ref aT2, .int (rs), .ref aSh, .ref aMk, .ref aFa, .ref aDe, .ref aNe, .ref aBy, .ref aPi, .int (pd), .ref aNw, .ref aNs, .ref aBf, .int (rn), .int (rr)])), (aMd, .inl (cI, 24, .inl (Md))), (aO1, .inl (cI, 24, .inl (O1))), (aT2, .inl (cI, 24, .inl (T2))), (aFa, .inl (cI, 768, .inl (Fa))), (aDe, .inl (cZ, 768, .inl (De)))] sz)) 0 0 (va_A [(m0, .inr (5, [.int (ft), .int (vl), .ref aMd, .ref aO1, .ref aT2, .int (rs), .ref aSh, .ref aMk, .ref aFa, .ref aDe, .ref aNe, .ref aBy, .ref aPi, .int (pd), .ref aNw, .ref aNs, .ref aBf, .int (rn), .int (rr)])), (aMd, .inl (cI, 24, .inl (Md))), (aO1, .inl (cI, 24, .inl (O1))), (aT2, .inl (cI, 24, .inl (T2))), (aFa, .inl (cI, 768, .inl (Fa))), (aDe, .inl (cZ, 768, .inl (De)))] sz) := by
  refine Met.ofW (cc := cM_replacement) (maxL := 4) (ret := (some .int)) (by decide) rfl ?_
  intro p e s m args below meth c s₁ B hml hv0
  have hx := B.exec
  have hb := B.bytes
  have hr := B.returns
  have hts := atoms_spec (ws := wsM_replacement) B.pre
  have hown : s.vm.findClass RM = some m.cls := findClass_of_methodNamed B.named
  have hlocks := B.notSynchronized
  obtain ⟨rfl, hsz, hG⟩ := dw_enter hv0
  generalize va_A [(m0, .inr (5, [.int (ft), .int (vl), .ref aMd, .ref aO1, .ref aT2, .int (rs), .ref aSh, .ref aMk, .ref aFa, .ref aDe, .ref aNe, .ref aBy, .ref aPi, .int (pd), .ref aNw, .ref aNs, .ref aBf, .int (rn), .int (rr)])), (aMd, .inl (cI, 24, .inl (Md))), (aO1, .inl (cI, 24, .inl (O1))), (aT2, .inl (cI, 24, .inl (T2))), (aFa, .inl (cI, 768, .inl (Fa))), (aDe, .inl (cZ, 768, .inl (De)))] sz = A at hG ⊢
  have hl := lv_entry ([.ref m0, .int (nI (v))]) (n := 4) (Nat.le_of_ble_eq_true rfl)
  rw [lg_entry_eq]
  generalize (lg_sl ([.ref m0, .int (nI (v))]) ++ List.replicate (4 - (lg_sl ([.ref m0, .int (nI (v))])).length) Slot.unset).toArray = ls at hl ⊢
  have hl : lv_has ls 4 [(0, .ref m0), (1, .int (nI (v)))] := hl
  have hw496 := hts _ (List.mem_cons_of_mem _ tw_496)
  refine dw_Q (fun Q hQ => ?_)
  suffices hgo : ∀ (H : Heap) (locs : List Loc), dw_G (dC, dI) vwCl [(cI, .int), (cZ, .boolean)] A s.heap s [(m0, .inr (5, [.int (ft), .int (vl), .ref aMd, .ref aO1, .ref aT2, .int (rs), .ref aSh, .ref aMk, .ref aFa, .ref aDe, .ref aNe, .ref aBy, .ref aPi, .int (pd), .ref aNw, .ref aNs, .ref aBf, .int (rn), .int (rr)])), (aMd, .inl (cI, 24, .inl (Md))), (aO1, .inl (cI, 24, .inl (O1))), (aT2, .inl (cI, 24, .inl (T2))), (aFa, .inl (cI, 768, .inl (Fa))), (aDe, .inl (cZ, 768, .inl (De)))] H locs → W p l e (headSpec wsM_replacement { frames := 2, cells := 0, slots := 0, locals := 60 }).room s m [.ref m0, .int (nI (v))].toArray below meth c H locs 0 0 Q (F0 m 0 ls []) from hgo _ _ hG
  clear hG
  intro H locs hG
  refine lv_aload_n hx hb dM_replacement_0 rfl (lv_at hl 0 rfl) ?_
  refine dw_get hx hb hts inMc hown hG 0 2 rfl rfl (by decide) hw496 rfl rfl dM_replacement_1 ?_
  refine lv_iload_n hx hb dM_replacement_4 rfl (lv_at hl 1 rfl) ?_
  refine dw_ia (x := 12) hx hb hG 1 0 rfl rfl (v) rfl (by omega) (by decide) em dM_replacement_5 ?_
  refine lv_bipush (v := 13) hx hb dM_replacement_6 (by decide) ?_
  refine lv_icmp_ne (tgt := 13) hx hb dM_replacement_8 (by decide) (fun h8 => ?_) (fun h8 => ?_)
  · skip
    replace h8 : ¬ 12 = 13 := fun hq0 => h8 ((nI_eq (a := 12) (b := 13) (by omega) (by omega)).mpr hq0)
    refine lv_aload_n hx hb dM_replacement_13 rfl (lv_at hl 0 rfl) ?_
    refine lv_iload_n hx hb dM_replacement_14 rfl (lv_at hl 1 rfl) ?_
    refine dw_calli (wc := [(m0, .inr (5, [.int (ft), .int (vl), .ref aMd, .ref aO1, .ref aT2, .int (rs), .ref aSh, .ref aMk, .ref aFa, .ref aDe, .ref aNe, .ref aBy, .ref aPi, .int (pd), .ref aNw, .ref aNs, .ref aBf, .int (rn), .int (rr)])), (aFa, .inl (cI, 768, .inl (Fa))), (aDe, .inl (cZ, 768, .inl (De)))]) (wr := [(aMd, .inl (cI, 24, .inl (Md))), (aO1, .inl (cI, 24, .inl (O1))), (aT2, .inl (cI, 24, .inl (T2)))]) hG [0, 4, 5] [1, 2, 3] rfl rfl (by decide) (by decide) (va_runV (As := [.int (nI (v))]) (rest := []) ⟨hx, hb, hml, hown, hts⟩ (rf_isKnown l dC dI cI cZ m0 aMd aO1 aT2 aSh aMk aFa aDe aNe aBy aPi aNw aNs aBf ft vl rs pd rn rr v Fa De d z o H.size hv hd hf) (dc_V 1 hts tw_664 tw_666 tp_M_isKnown tw_7 tw_667 rfl rfl (by decide +kernel) ⟨Nat.le_of_ble_eq_true rfl, Nat.le_of_ble_eq_true rfl⟩) (dw_preV (ci := 5) hG [0, 4, 5] [0, 1] rfl rfl (by decide) rfl rfl (q0 := 0) rfl) rfl rfl hl.1 rfl (lv_room (Nat.le_of_ble_eq_true rfl)) dM_replacement_15 ⟨Nat.le_refl _, Nat.le_refl _⟩) (fun r u H locs hp hG => ?_)
    subst hp
    have hG : dw_G (dC, dI) vwCl [(cI, .int), (cZ, .boolean)] A s.heap s [(aMd, .inl (cI, 24, .inl (Md))), (aO1, .inl (cI, 24, .inl (O1))), (aT2, .inl (cI, 24, .inl (T2))), (m0, .inr (5, [.int (ft), .int (vl), .ref aMd, .ref aO1, .ref aT2, .int (rs), .ref aSh, .ref aMk, .ref aFa, .ref aDe, .ref aNe, .ref aBy, .ref aPi, .int (pd), .ref aNw, .ref aNs, .ref aBf, .int (rn), .int (rr)])), (aFa, .inl (cI, 768, .inl (Fa))), (aDe, .inl (cZ, 768, .inl (De)))] H locs := hG
    rcases Decidable.em (d &&& ((z ||| o) ^^^ (-1)) = 0) with hkn | hkn
    · skip
      refine lv_topi (nm_r (show (if d &&& ((z ||| o) ^^^ (-1)) = 0 then 1 else 0 : Int32) = 1 from (if_pos hkn)) ?_)
      refine lv_if_eq (tgt := 24) hx hb dM_replacement_18 (by decide) (fun h18 => ?_) (fun h18 => ?_)
      · skip
        replace h18 := (nI_eq (a := 1) (b := 0) (by omega) (by omega)).mp h18
        (exfalso; omega)
      replace h18 : ¬ 1 = 0 := fun hq0 => h18 ((nI_eq (a := 1) (b := 0) (by omega) (by omega)).mpr hq0)
      refine lv_bipush (v := -2) hx hb dM_replacement_21 (by decide) ?_
      subst hQ
      exact dw_iret hx hb hr (dw_perm hG [3, 0, 1, 2, 4, 5] (by decide) rfl rfl) (()) rfl (by unfold db_Bv; rw [if_neg (by decide), if_pos hkn]) dM_replacement_23 hlocks
    refine lv_topi (nm_r (show (if d &&& ((z ||| o) ^^^ (-1)) = 0 then 1 else 0 : Int32) = 0 from (if_neg hkn)) ?_)
    refine lv_if_eq (tgt := 24) hx hb dM_replacement_18 (by decide) (fun h18 => ?_) (fun h18 => ?_)
    · skip
      replace h18 := (nI_eq (a := 0) (b := 0) (by omega) (by omega)).mp h18
      refine lv_iconst (v := 0) hx hb dM_replacement_24 (by decide) ?_
      refine lv_istore_n (lv' := [(2, .int (0)), (0, .ref m0), (1, .int (nI (v)))]) hx hb dM_replacement_25 rfl hl (by decide) rfl (fun ls hl => ?_)
      refine lv_aload_n hx hb dM_replacement_26 rfl (lv_at hl 1 rfl) ?_
      refine dw_get hx hb hts inMc hown hG 3 2 rfl rfl (by decide) hw496 rfl rfl dM_replacement_27 ?_
      refine lv_iload_n hx hb dM_replacement_30 rfl (lv_at hl 2 rfl) ?_
      refine dw_ia (x := 12) hx hb hG 0 0 rfl rfl (v) rfl (by omega) (by decide) em dM_replacement_31 ?_
      refine lv_iconst (v := 5) hx hb dM_replacement_32 (by decide) ?_
      refine lv_icmp_gt (tgt := 133) hx hb dM_replacement_33 (by decide) (fun h33 => ?_) (fun h33 => ?_)
      · skip
        replace h33 := (nI_ltI (a := 5) (b := 12) (by omega) (by omega)).mp h33
        refine lv_iload_n hx hb dM_replacement_133 rfl (lv_at hl 0 rfl) ?_
        refine lv_if_ne (tgt := 179) hx hb dM_replacement_134 (by decide) (fun h134 => ?_) (fun h134 => ?_)
        · skip
          replace h134 : ¬ 0 = 0 := fun hq0 => h134 ((nI_eq (a := 0) (b := 0) (by omega) (by omega)).mpr hq0)
          (exfalso; omega)
        replace h134 := (nI_eq (a := 0) (b := 0) (by omega) (by omega)).mp h134
        refine lv_aload_n hx hb dM_replacement_137 rfl (lv_at hl 1 rfl) ?_
        refine dw_get hx hb hts inMc hown hG 3 2 rfl rfl (by decide) hw496 rfl rfl dM_replacement_138 ?_
        refine lv_iload_n hx hb dM_replacement_141 rfl (lv_at hl 2 rfl) ?_
        refine dw_ia (x := 12) hx hb hG 0 0 rfl rfl (v) rfl (by omega) (by decide) em dM_replacement_142 ?_
        refine lv_bipush (v := 9) hx hb dM_replacement_143 (by decide) ?_
        refine lv_icmp_ne (tgt := 158) hx hb dM_replacement_145 (by decide) (fun h145 => ?_) (fun h145 => ?_)
        · skip
          replace h145 : ¬ 12 = 9 := fun hq0 => h145 ((nI_eq (a := 12) (b := 9) (by omega) (by omega)).mpr hq0)
          refine lv_aload_n hx hb dM_replacement_158 rfl (lv_at hl 1 rfl) ?_
          refine dw_get hx hb hts inMc hown hG 3 2 rfl rfl (by decide) hw496 rfl rfl dM_replacement_159 ?_
          refine lv_iload_n hx hb dM_replacement_162 rfl (lv_at hl 2 rfl) ?_
          refine dw_ia (x := 12) hx hb hG 0 0 rfl rfl (v) rfl (by omega) (by decide) em dM_replacement_163 ?_
          refine lv_bipush (v := 10) hx hb dM_replacement_164 (by decide) ?_
          refine lv_icmp_ne (tgt := 183) hx hb dM_replacement_166 (by decide) (fun h166 => ?_) (fun h166 => ?_)
          · skip
            replace h166 : ¬ 12 = 10 := fun hq0 => h166 ((nI_eq (a := 12) (b := 10) (by omega) (by omega)).mpr hq0)
            refine lv_iconst (v := 0) hx hb dM_replacement_183 (by decide) ?_
            refine lv_istore_n (lv' := [(2, .int (0)), (0, .ref m0), (1, .int (nI (v)))]) hx hb dM_replacement_184 rfl hl (by decide) rfl (fun ls hl => ?_)
            refine lv_iload_n hx hb dM_replacement_185 rfl (lv_at hl 0 rfl) ?_
            refine lv_if_eq (tgt := 198) hx hb dM_replacement_186 (by decide) (fun h186 => ?_) (fun h186 => ?_)
            · skip
              replace h186 := (nI_eq (a := 0) (b := 0) (by omega) (by omega)).mp h186
              refine lv_iconst (v := -1) hx hb dM_replacement_198 (by decide) ?_
              subst hQ
              exact dw_iret hx hb hr (dw_perm hG [3, 0, 1, 2, 4, 5] (by decide) rfl rfl) (()) rfl (by unfold db_Bv; rw [if_neg (by decide), if_neg hkn]; exact (if_neg (by show ¬ false = true; decide)).symm) dM_replacement_199 hlocks
            replace h186 : ¬ 0 = 0 := fun hq0 => h186 ((nI_eq (a := 0) (b := 0) (by omega) (by omega)).mpr hq0)
            (exfalso; omega)
          replace h166 := (nI_eq (a := 12) (b := 10) (by omega) (by omega)).mp h166
          (exfalso; omega)
        replace h145 := (nI_eq (a := 12) (b := 9) (by omega) (by omega)).mp h145
        (exfalso; omega)
      replace h33 : ¬ 5 < 12 := fun hq0 => h33 ((nI_ltI (a := 5) (b := 12) (by omega) (by omega)).mpr hq0)
      (exfalso; omega)
    replace h18 : ¬ 0 = 0 := fun hq0 => h18 ((nI_eq (a := 0) (b := 0) (by omega) (by omega)).mpr hq0)
    (exfalso; omega)
  replace h8 := (nI_eq (a := 12) (b := 13) (by omega) (by omega)).mp h8
  (exfalso; omega)

set_option maxRecDepth 100000 in
set_option maxHeartbeats 4000000 in
theorem rf_rep10 (l : Launch) (dC : Nat → ClassId) (dI : Nat → Nat → Nat) (cI cZ : ClassId) (m0 aMd aO1 aT2 aSh aMk aFa aDe aNe aBy aPi aNw aNs aBf : Nat) (ft vl rs pd rn rr : Int32) (v x y ky : Nat) (Md O1 T2 Fa De : Nat → Int32) (c9 d z o : Int32) (sz : Nat) (hv : v < 24) (em : Md v = nI 13) (hd : db_set De v d) (hf : db_rep Fa v z o) : Met l yM_replacement wsM_replacement { frames := 2, cells := 0, slots := 0, locals := 60 } (va_Pc [.ref m0, .int (nI (v))] (dw_pre (dC, dI) vwCl [(m0, .inr (5, [.int (ft), .int (vl), .ref aMd, .ref aO1, .ref aT2, .int (rs), .ref aSh, .ref aMk, .ref aFa, .ref aDe, .ref aNe, .ref aBy, .ref aPi, .int (pd), .ref aNw, .ref aNs, .ref aBf, .int (rn), .int (rr)])), (aMd, .inl (cI, 24, .inl (Md))), (aO1, .inl (cI, 24, .inl (O1))), (aT2, .inl (cI, 24, .inl (T2))), (aFa, .inl (cI, 768, .inl (Fa))), (aDe, .inl (cZ, 768, .inl (De)))] [(cI, .int), (cZ, .boolean)] sz)) (va_Qi (fun (r : Int32) (u : Unit) => r = db_Bv 10 x ky c9 d z o) (fun u t => dw_post (dC, dI) vwCl [(m0, .inr (5, [.int (ft), .int (vl), .ref aMd, .ref aO1, .ref aT2, .int (rs), .ref aSh, .ref aMk, .ref aFa, .ref aDe, .ref aNe, .ref aBy, .ref aPi, .int (pd), .ref aNw, .ref aNs, .ref aBf, .int (rn), .int (rr)])), (aMd, .inl (cI, 24, .inl (Md))), (aO1, .inl (cI, 24, .inl (O1))), (aT2, .inl (cI, 24, .inl (T2))), (aFa, .inl (cI, 768, .inl (Fa))), (aDe, .inl (cZ, 768, .inl (De)))] [(cI, .int), (cZ, .boolean)] (va_A [(m0, .inr (5, [.int (ft), .int (vl), .ref aMd, .ref aO1, .ref aT2, .int (rs), .ref aSh, .ref aMk, .ref aFa, .ref aDe, .ref aNe, .ref aBy, .ref aPi, .int (pd), .ref aNw, .ref aNs, .ref aBf, .int (rn), .int (rr)])), (aMd, .inl (cI, 24, .inl (Md))), (aO1, .inl (cI, 24, .inl (O1))), (aT2, .inl (cI, 24, .inl (T2))), (aFa, .inl (cI, 768, .inl (Fa))), (aDe, .inl (cZ, 768, .inl (De)))] sz) t) (va_A [(m0, .inr (5, [.int (ft), .int (vl), .ref aMd, .ref aO1, .ref aT2, .int (rs), .ref aSh, .ref aMk, .ref aFa, .ref aDe, .ref aNe, .ref aBy, .ref aPi, .int (pd), .ref aNw, .ref aNs, .ref aBf, .int (rn), .int (rr)])), (aMd, .inl (cI, 24, .inl (Md))), (aO1, .inl (cI, 24, .inl (O1))), (aT2, .inl (cI, 24, .inl (T2))), (aFa, .inl (cI, 768, .inl (Fa))), (aDe, .inl (cZ, 768, .inl (De)))] sz)) 0 0 (va_A [(m0, .inr (5, [.int (ft), .int (vl), .ref aMd, .ref aO1, .ref aT2, .int (rs), .ref aSh, .ref aMk, .ref aFa, .ref aDe, .ref aNe, .ref aBy, .ref aPi, .int (pd), .ref aNw, .ref aNs, .ref aBf, .int (rn), .int (rr)])), (aMd, .inl (cI, 24, .inl (Md))), (aO1, .inl (cI, 24, .inl (O1))), (aT2, .inl (cI, 24, .inl (T2))), (aFa, .inl (cI, 768, .inl (Fa))), (aDe, .inl (cZ, 768, .inl (De)))] sz) := by
  refine Met.ofW (cc := cM_replacement) (maxL := 4) (ret := (some .int)) (by decide) rfl ?_
  intro p e s m args below meth c s₁ B hml hv0
  have hx := B.exec
  have hb := B.bytes
  have hr := B.returns
  have hts := atoms_spec (ws := wsM_replacement) B.pre
  have hown : s.vm.findClass RM = some m.cls := findClass_of_methodNamed B.named
  have hlocks := B.notSynchronized
  obtain ⟨rfl, hsz, hG⟩ := dw_enter hv0
  generalize va_A [(m0, .inr (5, [.int (ft), .int (vl), .ref aMd, .ref aO1, .ref aT2, .int (rs), .ref aSh, .ref aMk, .ref aFa, .ref aDe, .ref aNe, .ref aBy, .ref aPi, .int (pd), .ref aNw, .ref aNs, .ref aBf, .int (rn), .int (rr)])), (aMd, .inl (cI, 24, .inl (Md))), (aO1, .inl (cI, 24, .inl (O1))), (aT2, .inl (cI, 24, .inl (T2))), (aFa, .inl (cI, 768, .inl (Fa))), (aDe, .inl (cZ, 768, .inl (De)))] sz = A at hG ⊢
  have hl := lv_entry ([.ref m0, .int (nI (v))]) (n := 4) (Nat.le_of_ble_eq_true rfl)
  rw [lg_entry_eq]
  generalize (lg_sl ([.ref m0, .int (nI (v))]) ++ List.replicate (4 - (lg_sl ([.ref m0, .int (nI (v))])).length) Slot.unset).toArray = ls at hl ⊢
  have hl : lv_has ls 4 [(0, .ref m0), (1, .int (nI (v)))] := hl
  have hw496 := hts _ (List.mem_cons_of_mem _ tw_496)
  refine dw_Q (fun Q hQ => ?_)
  suffices hgo : ∀ (H : Heap) (locs : List Loc), dw_G (dC, dI) vwCl [(cI, .int), (cZ, .boolean)] A s.heap s [(m0, .inr (5, [.int (ft), .int (vl), .ref aMd, .ref aO1, .ref aT2, .int (rs), .ref aSh, .ref aMk, .ref aFa, .ref aDe, .ref aNe, .ref aBy, .ref aPi, .int (pd), .ref aNw, .ref aNs, .ref aBf, .int (rn), .int (rr)])), (aMd, .inl (cI, 24, .inl (Md))), (aO1, .inl (cI, 24, .inl (O1))), (aT2, .inl (cI, 24, .inl (T2))), (aFa, .inl (cI, 768, .inl (Fa))), (aDe, .inl (cZ, 768, .inl (De)))] H locs → W p l e (headSpec wsM_replacement { frames := 2, cells := 0, slots := 0, locals := 60 }).room s m [.ref m0, .int (nI (v))].toArray below meth c H locs 0 0 Q (F0 m 0 ls []) from hgo _ _ hG
  clear hG
  intro H locs hG
  refine lv_aload_n hx hb dM_replacement_0 rfl (lv_at hl 0 rfl) ?_
  refine dw_get hx hb hts inMc hown hG 0 2 rfl rfl (by decide) hw496 rfl rfl dM_replacement_1 ?_
  refine lv_iload_n hx hb dM_replacement_4 rfl (lv_at hl 1 rfl) ?_
  refine dw_ia (x := 13) hx hb hG 1 0 rfl rfl (v) rfl (by omega) (by decide) em dM_replacement_5 ?_
  refine lv_bipush (v := 13) hx hb dM_replacement_6 (by decide) ?_
  refine lv_icmp_ne (tgt := 13) hx hb dM_replacement_8 (by decide) (fun h8 => ?_) (fun h8 => ?_)
  · skip
    replace h8 : ¬ 13 = 13 := fun hq0 => h8 ((nI_eq (a := 13) (b := 13) (by omega) (by omega)).mpr hq0)
    (exfalso; omega)
  replace h8 := (nI_eq (a := 13) (b := 13) (by omega) (by omega)).mp h8
  refine lv_iconst (v := -1) hx hb dM_replacement_11 (by decide) ?_
  subst hQ
  exact dw_iret hx hb hr hG (()) rfl rfl dM_replacement_12 hlocks

set_option maxRecDepth 100000 in
set_option maxHeartbeats 4000000 in
theorem rf_rep11 (l : Launch) (dC : Nat → ClassId) (dI : Nat → Nat → Nat) (cI cZ : ClassId) (m0 aMd aO1 aT2 aSh aMk aFa aDe aNe aBy aPi aNw aNs aBf : Nat) (ft vl rs pd rn rr : Int32) (v x y ky : Nat) (Md O1 T2 Fa De : Nat → Int32) (c9 d z o : Int32) (sz : Nat) (hv : v < 24) (em : Md v = nI 9) (hd : db_set De v d) (hf : db_rep Fa v z o) (e1 : O1 v = nI x) : Met l yM_replacement wsM_replacement { frames := 2, cells := 0, slots := 0, locals := 60 } (va_Pc [.ref m0, .int (nI (v))] (dw_pre (dC, dI) vwCl [(m0, .inr (5, [.int (ft), .int (vl), .ref aMd, .ref aO1, .ref aT2, .int (rs), .ref aSh, .ref aMk, .ref aFa, .ref aDe, .ref aNe, .ref aBy, .ref aPi, .int (pd), .ref aNw, .ref aNs, .ref aBf, .int (rn), .int (rr)])), (aMd, .inl (cI, 24, .inl (Md))), (aO1, .inl (cI, 24, .inl (O1))), (aT2, .inl (cI, 24, .inl (T2))), (aFa, .inl (cI, 768, .inl (Fa))), (aDe, .inl (cZ, 768, .inl (De)))] [(cI, .int), (cZ, .boolean)] sz)) (va_Qi (fun (r : Int32) (u : Unit) => r = db_Bv 11 x ky c9 d z o) (fun u t => dw_post (dC, dI) vwCl [(m0, .inr (5, [.int (ft), .int (vl), .ref aMd, .ref aO1, .ref aT2, .int (rs), .ref aSh, .ref aMk, .ref aFa, .ref aDe, .ref aNe, .ref aBy, .ref aPi, .int (pd), .ref aNw, .ref aNs, .ref aBf, .int (rn), .int (rr)])), (aMd, .inl (cI, 24, .inl (Md))), (aO1, .inl (cI, 24, .inl (O1))), (aT2, .inl (cI, 24, .inl (T2))), (aFa, .inl (cI, 768, .inl (Fa))), (aDe, .inl (cZ, 768, .inl (De)))] [(cI, .int), (cZ, .boolean)] (va_A [(m0, .inr (5, [.int (ft), .int (vl), .ref aMd, .ref aO1, .ref aT2, .int (rs), .ref aSh, .ref aMk, .ref aFa, .ref aDe, .ref aNe, .ref aBy, .ref aPi, .int (pd), .ref aNw, .ref aNs, .ref aBf, .int (rn), .int (rr)])), (aMd, .inl (cI, 24, .inl (Md))), (aO1, .inl (cI, 24, .inl (O1))), (aT2, .inl (cI, 24, .inl (T2))), (aFa, .inl (cI, 768, .inl (Fa))), (aDe, .inl (cZ, 768, .inl (De)))] sz) t) (va_A [(m0, .inr (5, [.int (ft), .int (vl), .ref aMd, .ref aO1, .ref aT2, .int (rs), .ref aSh, .ref aMk, .ref aFa, .ref aDe, .ref aNe, .ref aBy, .ref aPi, .int (pd), .ref aNw, .ref aNs, .ref aBf, .int (rn), .int (rr)])), (aMd, .inl (cI, 24, .inl (Md))), (aO1, .inl (cI, 24, .inl (O1))), (aT2, .inl (cI, 24, .inl (T2))), (aFa, .inl (cI, 768, .inl (Fa))), (aDe, .inl (cZ, 768, .inl (De)))] sz)) 0 0 (va_A [(m0, .inr (5, [.int (ft), .int (vl), .ref aMd, .ref aO1, .ref aT2, .int (rs), .ref aSh, .ref aMk, .ref aFa, .ref aDe, .ref aNe, .ref aBy, .ref aPi, .int (pd), .ref aNw, .ref aNs, .ref aBf, .int (rn), .int (rr)])), (aMd, .inl (cI, 24, .inl (Md))), (aO1, .inl (cI, 24, .inl (O1))), (aT2, .inl (cI, 24, .inl (T2))), (aFa, .inl (cI, 768, .inl (Fa))), (aDe, .inl (cZ, 768, .inl (De)))] sz) := by
  refine Met.ofW (cc := cM_replacement) (maxL := 4) (ret := (some .int)) (by decide) rfl ?_
  intro p e s m args below meth c s₁ B hml hv0
  have hx := B.exec
  have hb := B.bytes
  have hr := B.returns
  have hts := atoms_spec (ws := wsM_replacement) B.pre
  have hown : s.vm.findClass RM = some m.cls := findClass_of_methodNamed B.named
  have hlocks := B.notSynchronized
  obtain ⟨rfl, hsz, hG⟩ := dw_enter hv0
  generalize va_A [(m0, .inr (5, [.int (ft), .int (vl), .ref aMd, .ref aO1, .ref aT2, .int (rs), .ref aSh, .ref aMk, .ref aFa, .ref aDe, .ref aNe, .ref aBy, .ref aPi, .int (pd), .ref aNw, .ref aNs, .ref aBf, .int (rn), .int (rr)])), (aMd, .inl (cI, 24, .inl (Md))), (aO1, .inl (cI, 24, .inl (O1))), (aT2, .inl (cI, 24, .inl (T2))), (aFa, .inl (cI, 768, .inl (Fa))), (aDe, .inl (cZ, 768, .inl (De)))] sz = A at hG ⊢
  have hl := lv_entry ([.ref m0, .int (nI (v))]) (n := 4) (Nat.le_of_ble_eq_true rfl)
  rw [lg_entry_eq]
  generalize (lg_sl ([.ref m0, .int (nI (v))]) ++ List.replicate (4 - (lg_sl ([.ref m0, .int (nI (v))])).length) Slot.unset).toArray = ls at hl ⊢
  have hl : lv_has ls 4 [(0, .ref m0), (1, .int (nI (v)))] := hl
  have hw496 := hts _ (List.mem_cons_of_mem _ tw_496)
  have hw497 := hts _ (List.mem_cons_of_mem _ tw_497)
  refine dw_Q (fun Q hQ => ?_)
  suffices hgo : ∀ (H : Heap) (locs : List Loc), dw_G (dC, dI) vwCl [(cI, .int), (cZ, .boolean)] A s.heap s [(m0, .inr (5, [.int (ft), .int (vl), .ref aMd, .ref aO1, .ref aT2, .int (rs), .ref aSh, .ref aMk, .ref aFa, .ref aDe, .ref aNe, .ref aBy, .ref aPi, .int (pd), .ref aNw, .ref aNs, .ref aBf, .int (rn), .int (rr)])), (aMd, .inl (cI, 24, .inl (Md))), (aO1, .inl (cI, 24, .inl (O1))), (aT2, .inl (cI, 24, .inl (T2))), (aFa, .inl (cI, 768, .inl (Fa))), (aDe, .inl (cZ, 768, .inl (De)))] H locs → W p l e (headSpec wsM_replacement { frames := 2, cells := 0, slots := 0, locals := 60 }).room s m [.ref m0, .int (nI (v))].toArray below meth c H locs 0 0 Q (F0 m 0 ls []) from hgo _ _ hG
  clear hG
  intro H locs hG
  refine lv_aload_n hx hb dM_replacement_0 rfl (lv_at hl 0 rfl) ?_
  refine dw_get hx hb hts inMc hown hG 0 2 rfl rfl (by decide) hw496 rfl rfl dM_replacement_1 ?_
  refine lv_iload_n hx hb dM_replacement_4 rfl (lv_at hl 1 rfl) ?_
  refine dw_ia (x := 9) hx hb hG 1 0 rfl rfl (v) rfl (by omega) (by decide) em dM_replacement_5 ?_
  refine lv_bipush (v := 13) hx hb dM_replacement_6 (by decide) ?_
  refine lv_icmp_ne (tgt := 13) hx hb dM_replacement_8 (by decide) (fun h8 => ?_) (fun h8 => ?_)
  · skip
    replace h8 : ¬ 9 = 13 := fun hq0 => h8 ((nI_eq (a := 9) (b := 13) (by omega) (by omega)).mpr hq0)
    refine lv_aload_n hx hb dM_replacement_13 rfl (lv_at hl 0 rfl) ?_
    refine lv_iload_n hx hb dM_replacement_14 rfl (lv_at hl 1 rfl) ?_
    refine dw_calli (wc := [(m0, .inr (5, [.int (ft), .int (vl), .ref aMd, .ref aO1, .ref aT2, .int (rs), .ref aSh, .ref aMk, .ref aFa, .ref aDe, .ref aNe, .ref aBy, .ref aPi, .int (pd), .ref aNw, .ref aNs, .ref aBf, .int (rn), .int (rr)])), (aFa, .inl (cI, 768, .inl (Fa))), (aDe, .inl (cZ, 768, .inl (De)))]) (wr := [(aMd, .inl (cI, 24, .inl (Md))), (aO1, .inl (cI, 24, .inl (O1))), (aT2, .inl (cI, 24, .inl (T2)))]) hG [0, 4, 5] [1, 2, 3] rfl rfl (by decide) (by decide) (va_runV (As := [.int (nI (v))]) (rest := []) ⟨hx, hb, hml, hown, hts⟩ (rf_isKnown l dC dI cI cZ m0 aMd aO1 aT2 aSh aMk aFa aDe aNe aBy aPi aNw aNs aBf ft vl rs pd rn rr v Fa De d z o H.size hv hd hf) (dc_V 1 hts tw_664 tw_666 tp_M_isKnown tw_7 tw_667 rfl rfl (by decide +kernel) ⟨Nat.le_of_ble_eq_true rfl, Nat.le_of_ble_eq_true rfl⟩) (dw_preV (ci := 5) hG [0, 4, 5] [0, 1] rfl rfl (by decide) rfl rfl (q0 := 0) rfl) rfl rfl hl.1 rfl (lv_room (Nat.le_of_ble_eq_true rfl)) dM_replacement_15 ⟨Nat.le_refl _, Nat.le_refl _⟩) (fun r u H locs hp hG => ?_)
    subst hp
    have hG : dw_G (dC, dI) vwCl [(cI, .int), (cZ, .boolean)] A s.heap s [(aMd, .inl (cI, 24, .inl (Md))), (aO1, .inl (cI, 24, .inl (O1))), (aT2, .inl (cI, 24, .inl (T2))), (m0, .inr (5, [.int (ft), .int (vl), .ref aMd, .ref aO1, .ref aT2, .int (rs), .ref aSh, .ref aMk, .ref aFa, .ref aDe, .ref aNe, .ref aBy, .ref aPi, .int (pd), .ref aNw, .ref aNs, .ref aBf, .int (rn), .int (rr)])), (aFa, .inl (cI, 768, .inl (Fa))), (aDe, .inl (cZ, 768, .inl (De)))] H locs := hG
    rcases Decidable.em (d &&& ((z ||| o) ^^^ (-1)) = 0) with hkn | hkn
    · skip
      refine lv_topi (nm_r (show (if d &&& ((z ||| o) ^^^ (-1)) = 0 then 1 else 0 : Int32) = 1 from (if_pos hkn)) ?_)
      refine lv_if_eq (tgt := 24) hx hb dM_replacement_18 (by decide) (fun h18 => ?_) (fun h18 => ?_)
      · skip
        replace h18 := (nI_eq (a := 1) (b := 0) (by omega) (by omega)).mp h18
        (exfalso; omega)
      replace h18 : ¬ 1 = 0 := fun hq0 => h18 ((nI_eq (a := 1) (b := 0) (by omega) (by omega)).mpr hq0)
      refine lv_bipush (v := -2) hx hb dM_replacement_21 (by decide) ?_
      subst hQ
      exact dw_iret hx hb hr (dw_perm hG [3, 0, 1, 2, 4, 5] (by decide) rfl rfl) (()) rfl (by unfold db_Bv; rw [if_neg (by decide), if_pos hkn]) dM_replacement_23 hlocks
    refine lv_topi (nm_r (show (if d &&& ((z ||| o) ^^^ (-1)) = 0 then 1 else 0 : Int32) = 0 from (if_neg hkn)) ?_)
    refine lv_if_eq (tgt := 24) hx hb dM_replacement_18 (by decide) (fun h18 => ?_) (fun h18 => ?_)
    · skip
      replace h18 := (nI_eq (a := 0) (b := 0) (by omega) (by omega)).mp h18
      refine lv_iconst (v := 0) hx hb dM_replacement_24 (by decide) ?_
      refine lv_istore_n (lv' := [(2, .int (0)), (0, .ref m0), (1, .int (nI (v)))]) hx hb dM_replacement_25 rfl hl (by decide) rfl (fun ls hl => ?_)
      refine lv_aload_n hx hb dM_replacement_26 rfl (lv_at hl 1 rfl) ?_
      refine dw_get hx hb hts inMc hown hG 3 2 rfl rfl (by decide) hw496 rfl rfl dM_replacement_27 ?_
      refine lv_iload_n hx hb dM_replacement_30 rfl (lv_at hl 2 rfl) ?_
      refine dw_ia (x := 9) hx hb hG 0 0 rfl rfl (v) rfl (by omega) (by decide) em dM_replacement_31 ?_
      refine lv_iconst (v := 5) hx hb dM_replacement_32 (by decide) ?_
      refine lv_icmp_gt (tgt := 133) hx hb dM_replacement_33 (by decide) (fun h33 => ?_) (fun h33 => ?_)
      · skip
        replace h33 := (nI_ltI (a := 5) (b := 9) (by omega) (by omega)).mp h33
        refine lv_iload_n hx hb dM_replacement_133 rfl (lv_at hl 0 rfl) ?_
        refine lv_if_ne (tgt := 179) hx hb dM_replacement_134 (by decide) (fun h134 => ?_) (fun h134 => ?_)
        · skip
          replace h134 : ¬ 0 = 0 := fun hq0 => h134 ((nI_eq (a := 0) (b := 0) (by omega) (by omega)).mpr hq0)
          (exfalso; omega)
        replace h134 := (nI_eq (a := 0) (b := 0) (by omega) (by omega)).mp h134
        refine lv_aload_n hx hb dM_replacement_137 rfl (lv_at hl 1 rfl) ?_
        refine dw_get hx hb hts inMc hown hG 3 2 rfl rfl (by decide) hw496 rfl rfl dM_replacement_138 ?_
        refine lv_iload_n hx hb dM_replacement_141 rfl (lv_at hl 2 rfl) ?_
        refine dw_ia (x := 9) hx hb hG 0 0 rfl rfl (v) rfl (by omega) (by decide) em dM_replacement_142 ?_
        refine lv_bipush (v := 9) hx hb dM_replacement_143 (by decide) ?_
        refine lv_icmp_ne (tgt := 158) hx hb dM_replacement_145 (by decide) (fun h145 => ?_) (fun h145 => ?_)
        · skip
          replace h145 : ¬ 9 = 9 := fun hq0 => h145 ((nI_eq (a := 9) (b := 9) (by omega) (by omega)).mpr hq0)
          (exfalso; omega)
        replace h145 := (nI_eq (a := 9) (b := 9) (by omega) (by omega)).mp h145
        refine lv_aload_n hx hb dM_replacement_148 rfl (lv_at hl 1 rfl) ?_
        refine lv_iload_n hx hb dM_replacement_149 rfl (lv_at hl 2 rfl) ?_
        refine lv_bipush (v := 8) hx hb dM_replacement_150 (by decide) ?_
        refine dw_calli (wc := [(m0, .inr (5, [.int (ft), .int (vl), .ref aMd, .ref aO1, .ref aT2, .int (rs), .ref aSh, .ref aMk, .ref aFa, .ref aDe, .ref aNe, .ref aBy, .ref aPi, .int (pd), .ref aNw, .ref aNs, .ref aBf, .int (rn), .int (rr)])), (aDe, .inl (cZ, 768, .inl (De)))]) (wr := [(aMd, .inl (cI, 24, .inl (Md))), (aO1, .inl (cI, 24, .inl (O1))), (aT2, .inl (cI, 24, .inl (T2))), (aFa, .inl (cI, 768, .inl (Fa)))]) hG [3, 5] [0, 1, 2, 4] rfl rfl (by decide) (by decide) (va_runV (As := [.int (nI (v)), .int (8)]) (rest := []) ⟨hx, hb, hml, hown, hts⟩ (rf_isNarrow8 l dC dI cI cZ m0 aMd aO1 aT2 aSh aMk aFa aDe aNe aBy aPi aNw aNs aBf ft vl rs pd rn rr v De d H.size hv hd) (dc_V 2 hts tw_672 tw_674 tp_M_isNarrow tw_7 tw_675 rfl rfl (by decide +kernel) ⟨Nat.le_of_ble_eq_true rfl, Nat.le_of_ble_eq_true rfl⟩) (dw_preV (ci := 5) hG [3, 5] [0, 1] rfl rfl (by decide) rfl rfl (q0 := 3) rfl) rfl rfl hl.1 rfl (lv_room (Nat.le_of_ble_eq_true rfl)) dM_replacement_152 ⟨Nat.le_refl _, Nat.le_refl _⟩) (fun r u H locs hp hG => ?_)
        subst hp
        have hG : dw_G (dC, dI) vwCl [(cI, .int), (cZ, .boolean)] A s.heap s [(aMd, .inl (cI, 24, .inl (Md))), (aO1, .inl (cI, 24, .inl (O1))), (aT2, .inl (cI, 24, .inl (T2))), (aFa, .inl (cI, 768, .inl (Fa))), (m0, .inr (5, [.int (ft), .int (vl), .ref aMd, .ref aO1, .ref aT2, .int (rs), .ref aSh, .ref aMk, .ref aFa, .ref aDe, .ref aNe, .ref aBy, .ref aPi, .int (pd), .ref aNw, .ref aNs, .ref aBf, .int (rn), .int (rr)])), (aDe, .inl (cZ, 768, .inl (De)))] H locs := hG
        rcases Decidable.em (d &&& (-256) = 0) with hc | hc
        · skip
          refine lv_topi (nm_r (show (if d &&& (-256) = 0 then 1 else 0 : Int32) = 1 from (if_pos hc)) ?_)
          refine lv_if_ne (tgt := 179) hx hb dM_replacement_155 (by decide) (fun h155 => ?_) (fun h155 => ?_)
          · skip
            replace h155 : ¬ 1 = 0 := fun hq0 => h155 ((nI_eq (a := 1) (b := 0) (by omega) (by omega)).mpr hq0)
            refine lv_iconst (v := 1) hx hb dM_replacement_179 (by decide) ?_
            refine lv_goto (tgt := 184) hx hb dM_replacement_180 (by decide) ?_
            refine lv_istore_n (lv' := [(2, .int (1)), (0, .ref m0), (1, .int (nI (v)))]) hx hb dM_replacement_184 rfl hl (by decide) rfl (fun ls hl => ?_)
            refine lv_iload_n hx hb dM_replacement_185 rfl (lv_at hl 0 rfl) ?_
            refine lv_if_eq (tgt := 198) hx hb dM_replacement_186 (by decide) (fun h186 => ?_) (fun h186 => ?_)
            · skip
              replace h186 := (nI_eq (a := 1) (b := 0) (by omega) (by omega)).mp h186
              (exfalso; omega)
            replace h186 : ¬ 1 = 0 := fun hq0 => h186 ((nI_eq (a := 1) (b := 0) (by omega) (by omega)).mpr hq0)
            refine lv_aload_n hx hb dM_replacement_189 rfl (lv_at hl 1 rfl) ?_
            refine dw_get hx hb hts inMc hown hG 4 3 rfl rfl (by decide) hw497 rfl rfl dM_replacement_190 ?_
            refine lv_iload_n hx hb dM_replacement_193 rfl (lv_at hl 2 rfl) ?_
            refine dw_ia (x := nI (x)) hx hb hG 1 0 rfl rfl (v) rfl (by omega) (by decide) e1 dM_replacement_194 ?_
            refine lv_goto (tgt := 199) hx hb dM_replacement_195 (by decide) ?_
            subst hQ
            exact dw_iret hx hb hr (dw_perm hG [4, 0, 1, 2, 3, 5] (by decide) rfl rfl) (()) rfl (by unfold db_Bv; rw [if_neg (by decide), if_neg hkn]; exact (if_pos (by show decide (d &&& (-256) = 0) = true; exact decide_eq_true hc)).symm) dM_replacement_199 hlocks
          replace h155 := (nI_eq (a := 1) (b := 0) (by omega) (by omega)).mp h155
          (exfalso; omega)
        refine lv_topi (nm_r (show (if d &&& (-256) = 0 then 1 else 0 : Int32) = 0 from (if_neg hc)) ?_)
        refine lv_if_ne (tgt := 179) hx hb dM_replacement_155 (by decide) (fun h155 => ?_) (fun h155 => ?_)
        · skip
          replace h155 : ¬ 0 = 0 := fun hq0 => h155 ((nI_eq (a := 0) (b := 0) (by omega) (by omega)).mpr hq0)
          (exfalso; omega)
        replace h155 := (nI_eq (a := 0) (b := 0) (by omega) (by omega)).mp h155
        refine lv_aload_n hx hb dM_replacement_158 rfl (lv_at hl 1 rfl) ?_
        refine dw_get hx hb hts inMc hown hG 4 2 rfl rfl (by decide) hw496 rfl rfl dM_replacement_159 ?_
        refine lv_iload_n hx hb dM_replacement_162 rfl (lv_at hl 2 rfl) ?_
        refine dw_ia (x := 9) hx hb hG 0 0 rfl rfl (v) rfl (by omega) (by decide) em dM_replacement_163 ?_
        refine lv_bipush (v := 10) hx hb dM_replacement_164 (by decide) ?_
        refine lv_icmp_ne (tgt := 183) hx hb dM_replacement_166 (by decide) (fun h166 => ?_) (fun h166 => ?_)
        · skip
          replace h166 : ¬ 9 = 10 := fun hq0 => h166 ((nI_eq (a := 9) (b := 10) (by omega) (by omega)).mpr hq0)
          refine lv_iconst (v := 0) hx hb dM_replacement_183 (by decide) ?_
          refine lv_istore_n (lv' := [(2, .int (0)), (0, .ref m0), (1, .int (nI (v)))]) hx hb dM_replacement_184 rfl hl (by decide) rfl (fun ls hl => ?_)
          refine lv_iload_n hx hb dM_replacement_185 rfl (lv_at hl 0 rfl) ?_
          refine lv_if_eq (tgt := 198) hx hb dM_replacement_186 (by decide) (fun h186 => ?_) (fun h186 => ?_)
          · skip
            replace h186 := (nI_eq (a := 0) (b := 0) (by omega) (by omega)).mp h186
            refine lv_iconst (v := -1) hx hb dM_replacement_198 (by decide) ?_
            subst hQ
            exact dw_iret hx hb hr (dw_perm hG [4, 0, 1, 2, 3, 5] (by decide) rfl rfl) (()) rfl (by unfold db_Bv; rw [if_neg (by decide), if_neg hkn]; exact (if_neg (by show ¬ decide (d &&& (-256) = 0) = true; rw [decide_eq_false hc]; decide)).symm) dM_replacement_199 hlocks
          replace h186 : ¬ 0 = 0 := fun hq0 => h186 ((nI_eq (a := 0) (b := 0) (by omega) (by omega)).mpr hq0)
          (exfalso; omega)
        replace h166 := (nI_eq (a := 9) (b := 10) (by omega) (by omega)).mp h166
        (exfalso; omega)
      replace h33 : ¬ 5 < 9 := fun hq0 => h33 ((nI_ltI (a := 5) (b := 9) (by omega) (by omega)).mpr hq0)
      (exfalso; omega)
    replace h18 : ¬ 0 = 0 := fun hq0 => h18 ((nI_eq (a := 0) (b := 0) (by omega) (by omega)).mpr hq0)
    (exfalso; omega)
  replace h8 := (nI_eq (a := 9) (b := 13) (by omega) (by omega)).mp h8
  (exfalso; omega)

set_option maxRecDepth 100000 in
set_option maxHeartbeats 4000000 in
theorem rf_rep12 (l : Launch) (dC : Nat → ClassId) (dI : Nat → Nat → Nat) (cI cZ : ClassId) (m0 aMd aO1 aT2 aSh aMk aFa aDe aNe aBy aPi aNw aNs aBf : Nat) (ft vl rs pd rn rr : Int32) (v x y ky : Nat) (Md O1 T2 Fa De : Nat → Int32) (c9 d z o : Int32) (sz : Nat) (hv : v < 24) (em : Md v = nI 10) (hd : db_set De v d) (hf : db_rep Fa v z o) (e1 : O1 v = nI x) : Met l yM_replacement wsM_replacement { frames := 2, cells := 0, slots := 0, locals := 60 } (va_Pc [.ref m0, .int (nI (v))] (dw_pre (dC, dI) vwCl [(m0, .inr (5, [.int (ft), .int (vl), .ref aMd, .ref aO1, .ref aT2, .int (rs), .ref aSh, .ref aMk, .ref aFa, .ref aDe, .ref aNe, .ref aBy, .ref aPi, .int (pd), .ref aNw, .ref aNs, .ref aBf, .int (rn), .int (rr)])), (aMd, .inl (cI, 24, .inl (Md))), (aO1, .inl (cI, 24, .inl (O1))), (aT2, .inl (cI, 24, .inl (T2))), (aFa, .inl (cI, 768, .inl (Fa))), (aDe, .inl (cZ, 768, .inl (De)))] [(cI, .int), (cZ, .boolean)] sz)) (va_Qi (fun (r : Int32) (u : Unit) => r = db_Bv 12 x ky c9 d z o) (fun u t => dw_post (dC, dI) vwCl [(m0, .inr (5, [.int (ft), .int (vl), .ref aMd, .ref aO1, .ref aT2, .int (rs), .ref aSh, .ref aMk, .ref aFa, .ref aDe, .ref aNe, .ref aBy, .ref aPi, .int (pd), .ref aNw, .ref aNs, .ref aBf, .int (rn), .int (rr)])), (aMd, .inl (cI, 24, .inl (Md))), (aO1, .inl (cI, 24, .inl (O1))), (aT2, .inl (cI, 24, .inl (T2))), (aFa, .inl (cI, 768, .inl (Fa))), (aDe, .inl (cZ, 768, .inl (De)))] [(cI, .int), (cZ, .boolean)] (va_A [(m0, .inr (5, [.int (ft), .int (vl), .ref aMd, .ref aO1, .ref aT2, .int (rs), .ref aSh, .ref aMk, .ref aFa, .ref aDe, .ref aNe, .ref aBy, .ref aPi, .int (pd), .ref aNw, .ref aNs, .ref aBf, .int (rn), .int (rr)])), (aMd, .inl (cI, 24, .inl (Md))), (aO1, .inl (cI, 24, .inl (O1))), (aT2, .inl (cI, 24, .inl (T2))), (aFa, .inl (cI, 768, .inl (Fa))), (aDe, .inl (cZ, 768, .inl (De)))] sz) t) (va_A [(m0, .inr (5, [.int (ft), .int (vl), .ref aMd, .ref aO1, .ref aT2, .int (rs), .ref aSh, .ref aMk, .ref aFa, .ref aDe, .ref aNe, .ref aBy, .ref aPi, .int (pd), .ref aNw, .ref aNs, .ref aBf, .int (rn), .int (rr)])), (aMd, .inl (cI, 24, .inl (Md))), (aO1, .inl (cI, 24, .inl (O1))), (aT2, .inl (cI, 24, .inl (T2))), (aFa, .inl (cI, 768, .inl (Fa))), (aDe, .inl (cZ, 768, .inl (De)))] sz)) 0 0 (va_A [(m0, .inr (5, [.int (ft), .int (vl), .ref aMd, .ref aO1, .ref aT2, .int (rs), .ref aSh, .ref aMk, .ref aFa, .ref aDe, .ref aNe, .ref aBy, .ref aPi, .int (pd), .ref aNw, .ref aNs, .ref aBf, .int (rn), .int (rr)])), (aMd, .inl (cI, 24, .inl (Md))), (aO1, .inl (cI, 24, .inl (O1))), (aT2, .inl (cI, 24, .inl (T2))), (aFa, .inl (cI, 768, .inl (Fa))), (aDe, .inl (cZ, 768, .inl (De)))] sz) := by
  refine Met.ofW (cc := cM_replacement) (maxL := 4) (ret := (some .int)) (by decide) rfl ?_
  intro p e s m args below meth c s₁ B hml hv0
  have hx := B.exec
  have hb := B.bytes
  have hr := B.returns
  have hts := atoms_spec (ws := wsM_replacement) B.pre
  have hown : s.vm.findClass RM = some m.cls := findClass_of_methodNamed B.named
  have hlocks := B.notSynchronized
  obtain ⟨rfl, hsz, hG⟩ := dw_enter hv0
  generalize va_A [(m0, .inr (5, [.int (ft), .int (vl), .ref aMd, .ref aO1, .ref aT2, .int (rs), .ref aSh, .ref aMk, .ref aFa, .ref aDe, .ref aNe, .ref aBy, .ref aPi, .int (pd), .ref aNw, .ref aNs, .ref aBf, .int (rn), .int (rr)])), (aMd, .inl (cI, 24, .inl (Md))), (aO1, .inl (cI, 24, .inl (O1))), (aT2, .inl (cI, 24, .inl (T2))), (aFa, .inl (cI, 768, .inl (Fa))), (aDe, .inl (cZ, 768, .inl (De)))] sz = A at hG ⊢
  have hl := lv_entry ([.ref m0, .int (nI (v))]) (n := 4) (Nat.le_of_ble_eq_true rfl)
  rw [lg_entry_eq]
  generalize (lg_sl ([.ref m0, .int (nI (v))]) ++ List.replicate (4 - (lg_sl ([.ref m0, .int (nI (v))])).length) Slot.unset).toArray = ls at hl ⊢
  have hl : lv_has ls 4 [(0, .ref m0), (1, .int (nI (v)))] := hl
  have hw496 := hts _ (List.mem_cons_of_mem _ tw_496)
  have hw497 := hts _ (List.mem_cons_of_mem _ tw_497)
  refine dw_Q (fun Q hQ => ?_)
  suffices hgo : ∀ (H : Heap) (locs : List Loc), dw_G (dC, dI) vwCl [(cI, .int), (cZ, .boolean)] A s.heap s [(m0, .inr (5, [.int (ft), .int (vl), .ref aMd, .ref aO1, .ref aT2, .int (rs), .ref aSh, .ref aMk, .ref aFa, .ref aDe, .ref aNe, .ref aBy, .ref aPi, .int (pd), .ref aNw, .ref aNs, .ref aBf, .int (rn), .int (rr)])), (aMd, .inl (cI, 24, .inl (Md))), (aO1, .inl (cI, 24, .inl (O1))), (aT2, .inl (cI, 24, .inl (T2))), (aFa, .inl (cI, 768, .inl (Fa))), (aDe, .inl (cZ, 768, .inl (De)))] H locs → W p l e (headSpec wsM_replacement { frames := 2, cells := 0, slots := 0, locals := 60 }).room s m [.ref m0, .int (nI (v))].toArray below meth c H locs 0 0 Q (F0 m 0 ls []) from hgo _ _ hG
  clear hG
  intro H locs hG
  refine lv_aload_n hx hb dM_replacement_0 rfl (lv_at hl 0 rfl) ?_
  refine dw_get hx hb hts inMc hown hG 0 2 rfl rfl (by decide) hw496 rfl rfl dM_replacement_1 ?_
  refine lv_iload_n hx hb dM_replacement_4 rfl (lv_at hl 1 rfl) ?_
  refine dw_ia (x := 10) hx hb hG 1 0 rfl rfl (v) rfl (by omega) (by decide) em dM_replacement_5 ?_
  refine lv_bipush (v := 13) hx hb dM_replacement_6 (by decide) ?_
  refine lv_icmp_ne (tgt := 13) hx hb dM_replacement_8 (by decide) (fun h8 => ?_) (fun h8 => ?_)
  · skip
    replace h8 : ¬ 10 = 13 := fun hq0 => h8 ((nI_eq (a := 10) (b := 13) (by omega) (by omega)).mpr hq0)
    refine lv_aload_n hx hb dM_replacement_13 rfl (lv_at hl 0 rfl) ?_
    refine lv_iload_n hx hb dM_replacement_14 rfl (lv_at hl 1 rfl) ?_
    refine dw_calli (wc := [(m0, .inr (5, [.int (ft), .int (vl), .ref aMd, .ref aO1, .ref aT2, .int (rs), .ref aSh, .ref aMk, .ref aFa, .ref aDe, .ref aNe, .ref aBy, .ref aPi, .int (pd), .ref aNw, .ref aNs, .ref aBf, .int (rn), .int (rr)])), (aFa, .inl (cI, 768, .inl (Fa))), (aDe, .inl (cZ, 768, .inl (De)))]) (wr := [(aMd, .inl (cI, 24, .inl (Md))), (aO1, .inl (cI, 24, .inl (O1))), (aT2, .inl (cI, 24, .inl (T2)))]) hG [0, 4, 5] [1, 2, 3] rfl rfl (by decide) (by decide) (va_runV (As := [.int (nI (v))]) (rest := []) ⟨hx, hb, hml, hown, hts⟩ (rf_isKnown l dC dI cI cZ m0 aMd aO1 aT2 aSh aMk aFa aDe aNe aBy aPi aNw aNs aBf ft vl rs pd rn rr v Fa De d z o H.size hv hd hf) (dc_V 1 hts tw_664 tw_666 tp_M_isKnown tw_7 tw_667 rfl rfl (by decide +kernel) ⟨Nat.le_of_ble_eq_true rfl, Nat.le_of_ble_eq_true rfl⟩) (dw_preV (ci := 5) hG [0, 4, 5] [0, 1] rfl rfl (by decide) rfl rfl (q0 := 0) rfl) rfl rfl hl.1 rfl (lv_room (Nat.le_of_ble_eq_true rfl)) dM_replacement_15 ⟨Nat.le_refl _, Nat.le_refl _⟩) (fun r u H locs hp hG => ?_)
    subst hp
    have hG : dw_G (dC, dI) vwCl [(cI, .int), (cZ, .boolean)] A s.heap s [(aMd, .inl (cI, 24, .inl (Md))), (aO1, .inl (cI, 24, .inl (O1))), (aT2, .inl (cI, 24, .inl (T2))), (m0, .inr (5, [.int (ft), .int (vl), .ref aMd, .ref aO1, .ref aT2, .int (rs), .ref aSh, .ref aMk, .ref aFa, .ref aDe, .ref aNe, .ref aBy, .ref aPi, .int (pd), .ref aNw, .ref aNs, .ref aBf, .int (rn), .int (rr)])), (aFa, .inl (cI, 768, .inl (Fa))), (aDe, .inl (cZ, 768, .inl (De)))] H locs := hG
    rcases Decidable.em (d &&& ((z ||| o) ^^^ (-1)) = 0) with hkn | hkn
    · skip
      refine lv_topi (nm_r (show (if d &&& ((z ||| o) ^^^ (-1)) = 0 then 1 else 0 : Int32) = 1 from (if_pos hkn)) ?_)
      refine lv_if_eq (tgt := 24) hx hb dM_replacement_18 (by decide) (fun h18 => ?_) (fun h18 => ?_)
      · skip
        replace h18 := (nI_eq (a := 1) (b := 0) (by omega) (by omega)).mp h18
        (exfalso; omega)
      replace h18 : ¬ 1 = 0 := fun hq0 => h18 ((nI_eq (a := 1) (b := 0) (by omega) (by omega)).mpr hq0)
      refine lv_bipush (v := -2) hx hb dM_replacement_21 (by decide) ?_
      subst hQ
      exact dw_iret hx hb hr (dw_perm hG [3, 0, 1, 2, 4, 5] (by decide) rfl rfl) (()) rfl (by unfold db_Bv; rw [if_neg (by decide), if_pos hkn]) dM_replacement_23 hlocks
    refine lv_topi (nm_r (show (if d &&& ((z ||| o) ^^^ (-1)) = 0 then 1 else 0 : Int32) = 0 from (if_neg hkn)) ?_)
    refine lv_if_eq (tgt := 24) hx hb dM_replacement_18 (by decide) (fun h18 => ?_) (fun h18 => ?_)
    · skip
      replace h18 := (nI_eq (a := 0) (b := 0) (by omega) (by omega)).mp h18
      refine lv_iconst (v := 0) hx hb dM_replacement_24 (by decide) ?_
      refine lv_istore_n (lv' := [(2, .int (0)), (0, .ref m0), (1, .int (nI (v)))]) hx hb dM_replacement_25 rfl hl (by decide) rfl (fun ls hl => ?_)
      refine lv_aload_n hx hb dM_replacement_26 rfl (lv_at hl 1 rfl) ?_
      refine dw_get hx hb hts inMc hown hG 3 2 rfl rfl (by decide) hw496 rfl rfl dM_replacement_27 ?_
      refine lv_iload_n hx hb dM_replacement_30 rfl (lv_at hl 2 rfl) ?_
      refine dw_ia (x := 10) hx hb hG 0 0 rfl rfl (v) rfl (by omega) (by decide) em dM_replacement_31 ?_
      refine lv_iconst (v := 5) hx hb dM_replacement_32 (by decide) ?_
      refine lv_icmp_gt (tgt := 133) hx hb dM_replacement_33 (by decide) (fun h33 => ?_) (fun h33 => ?_)
      · skip
        replace h33 := (nI_ltI (a := 5) (b := 10) (by omega) (by omega)).mp h33
        refine lv_iload_n hx hb dM_replacement_133 rfl (lv_at hl 0 rfl) ?_
        refine lv_if_ne (tgt := 179) hx hb dM_replacement_134 (by decide) (fun h134 => ?_) (fun h134 => ?_)
        · skip
          replace h134 : ¬ 0 = 0 := fun hq0 => h134 ((nI_eq (a := 0) (b := 0) (by omega) (by omega)).mpr hq0)
          (exfalso; omega)
        replace h134 := (nI_eq (a := 0) (b := 0) (by omega) (by omega)).mp h134
        refine lv_aload_n hx hb dM_replacement_137 rfl (lv_at hl 1 rfl) ?_
        refine dw_get hx hb hts inMc hown hG 3 2 rfl rfl (by decide) hw496 rfl rfl dM_replacement_138 ?_
        refine lv_iload_n hx hb dM_replacement_141 rfl (lv_at hl 2 rfl) ?_
        refine dw_ia (x := 10) hx hb hG 0 0 rfl rfl (v) rfl (by omega) (by decide) em dM_replacement_142 ?_
        refine lv_bipush (v := 9) hx hb dM_replacement_143 (by decide) ?_
        refine lv_icmp_ne (tgt := 158) hx hb dM_replacement_145 (by decide) (fun h145 => ?_) (fun h145 => ?_)
        · skip
          replace h145 : ¬ 10 = 9 := fun hq0 => h145 ((nI_eq (a := 10) (b := 9) (by omega) (by omega)).mpr hq0)
          refine lv_aload_n hx hb dM_replacement_158 rfl (lv_at hl 1 rfl) ?_
          refine dw_get hx hb hts inMc hown hG 3 2 rfl rfl (by decide) hw496 rfl rfl dM_replacement_159 ?_
          refine lv_iload_n hx hb dM_replacement_162 rfl (lv_at hl 2 rfl) ?_
          refine dw_ia (x := 10) hx hb hG 0 0 rfl rfl (v) rfl (by omega) (by decide) em dM_replacement_163 ?_
          refine lv_bipush (v := 10) hx hb dM_replacement_164 (by decide) ?_
          refine lv_icmp_ne (tgt := 183) hx hb dM_replacement_166 (by decide) (fun h166 => ?_) (fun h166 => ?_)
          · skip
            replace h166 : ¬ 10 = 10 := fun hq0 => h166 ((nI_eq (a := 10) (b := 10) (by omega) (by omega)).mpr hq0)
            (exfalso; omega)
          replace h166 := (nI_eq (a := 10) (b := 10) (by omega) (by omega)).mp h166
          refine lv_aload_n hx hb dM_replacement_169 rfl (lv_at hl 1 rfl) ?_
          refine lv_iload_n hx hb dM_replacement_170 rfl (lv_at hl 2 rfl) ?_
          refine lv_bipush (v := 16) hx hb dM_replacement_171 (by decide) ?_
          refine dw_calli (wc := [(m0, .inr (5, [.int (ft), .int (vl), .ref aMd, .ref aO1, .ref aT2, .int (rs), .ref aSh, .ref aMk, .ref aFa, .ref aDe, .ref aNe, .ref aBy, .ref aPi, .int (pd), .ref aNw, .ref aNs, .ref aBf, .int (rn), .int (rr)])), (aDe, .inl (cZ, 768, .inl (De)))]) (wr := [(aMd, .inl (cI, 24, .inl (Md))), (aO1, .inl (cI, 24, .inl (O1))), (aT2, .inl (cI, 24, .inl (T2))), (aFa, .inl (cI, 768, .inl (Fa)))]) hG [3, 5] [0, 1, 2, 4] rfl rfl (by decide) (by decide) (va_runV (As := [.int (nI (v)), .int (16)]) (rest := []) ⟨hx, hb, hml, hown, hts⟩ (rf_isNarrow16 l dC dI cI cZ m0 aMd aO1 aT2 aSh aMk aFa aDe aNe aBy aPi aNw aNs aBf ft vl rs pd rn rr v De d H.size hv hd) (dc_V 2 hts tw_672 tw_674 tp_M_isNarrow tw_7 tw_675 rfl rfl (by decide +kernel) ⟨Nat.le_of_ble_eq_true rfl, Nat.le_of_ble_eq_true rfl⟩) (dw_preV (ci := 5) hG [3, 5] [0, 1] rfl rfl (by decide) rfl rfl (q0 := 3) rfl) rfl rfl hl.1 rfl (lv_room (Nat.le_of_ble_eq_true rfl)) dM_replacement_173 ⟨Nat.le_refl _, Nat.le_refl _⟩) (fun r u H locs hp hG => ?_)
          subst hp
          have hG : dw_G (dC, dI) vwCl [(cI, .int), (cZ, .boolean)] A s.heap s [(aMd, .inl (cI, 24, .inl (Md))), (aO1, .inl (cI, 24, .inl (O1))), (aT2, .inl (cI, 24, .inl (T2))), (aFa, .inl (cI, 768, .inl (Fa))), (m0, .inr (5, [.int (ft), .int (vl), .ref aMd, .ref aO1, .ref aT2, .int (rs), .ref aSh, .ref aMk, .ref aFa, .ref aDe, .ref aNe, .ref aBy, .ref aPi, .int (pd), .ref aNw, .ref aNs, .ref aBf, .int (rn), .int (rr)])), (aDe, .inl (cZ, 768, .inl (De)))] H locs := hG
          rcases Decidable.em (d &&& (-65536) = 0) with hc | hc
          · skip
            refine lv_topi (nm_r (show (if d &&& (-65536) = 0 then 1 else 0 : Int32) = 1 from (if_pos hc)) ?_)
            refine lv_if_eq (tgt := 183) hx hb dM_replacement_176 (by decide) (fun h176 => ?_) (fun h176 => ?_)
            · skip
              replace h176 := (nI_eq (a := 1) (b := 0) (by omega) (by omega)).mp h176
              (exfalso; omega)
            replace h176 : ¬ 1 = 0 := fun hq0 => h176 ((nI_eq (a := 1) (b := 0) (by omega) (by omega)).mpr hq0)
            refine lv_iconst (v := 1) hx hb dM_replacement_179 (by decide) ?_
            refine lv_goto (tgt := 184) hx hb dM_replacement_180 (by decide) ?_
            refine lv_istore_n (lv' := [(2, .int (1)), (0, .ref m0), (1, .int (nI (v)))]) hx hb dM_replacement_184 rfl hl (by decide) rfl (fun ls hl => ?_)
            refine lv_iload_n hx hb dM_replacement_185 rfl (lv_at hl 0 rfl) ?_
            refine lv_if_eq (tgt := 198) hx hb dM_replacement_186 (by decide) (fun h186 => ?_) (fun h186 => ?_)
            · skip
              replace h186 := (nI_eq (a := 1) (b := 0) (by omega) (by omega)).mp h186
              (exfalso; omega)
            replace h186 : ¬ 1 = 0 := fun hq0 => h186 ((nI_eq (a := 1) (b := 0) (by omega) (by omega)).mpr hq0)
            refine lv_aload_n hx hb dM_replacement_189 rfl (lv_at hl 1 rfl) ?_
            refine dw_get hx hb hts inMc hown hG 4 3 rfl rfl (by decide) hw497 rfl rfl dM_replacement_190 ?_
            refine lv_iload_n hx hb dM_replacement_193 rfl (lv_at hl 2 rfl) ?_
            refine dw_ia (x := nI (x)) hx hb hG 1 0 rfl rfl (v) rfl (by omega) (by decide) e1 dM_replacement_194 ?_
            refine lv_goto (tgt := 199) hx hb dM_replacement_195 (by decide) ?_
            subst hQ
            exact dw_iret hx hb hr (dw_perm hG [4, 0, 1, 2, 3, 5] (by decide) rfl rfl) (()) rfl (by unfold db_Bv; rw [if_neg (by decide), if_neg hkn]; exact (if_pos (by show decide (d &&& (-65536) = 0) = true; exact decide_eq_true hc)).symm) dM_replacement_199 hlocks
          refine lv_topi (nm_r (show (if d &&& (-65536) = 0 then 1 else 0 : Int32) = 0 from (if_neg hc)) ?_)
          refine lv_if_eq (tgt := 183) hx hb dM_replacement_176 (by decide) (fun h176 => ?_) (fun h176 => ?_)
          · skip
            replace h176 := (nI_eq (a := 0) (b := 0) (by omega) (by omega)).mp h176
            refine lv_iconst (v := 0) hx hb dM_replacement_183 (by decide) ?_
            refine lv_istore_n (lv' := [(2, .int (0)), (0, .ref m0), (1, .int (nI (v)))]) hx hb dM_replacement_184 rfl hl (by decide) rfl (fun ls hl => ?_)
            refine lv_iload_n hx hb dM_replacement_185 rfl (lv_at hl 0 rfl) ?_
            refine lv_if_eq (tgt := 198) hx hb dM_replacement_186 (by decide) (fun h186 => ?_) (fun h186 => ?_)
            · skip
              replace h186 := (nI_eq (a := 0) (b := 0) (by omega) (by omega)).mp h186
              refine lv_iconst (v := -1) hx hb dM_replacement_198 (by decide) ?_
              subst hQ
              exact dw_iret hx hb hr (dw_perm hG [4, 0, 1, 2, 3, 5] (by decide) rfl rfl) (()) rfl (by unfold db_Bv; rw [if_neg (by decide), if_neg hkn]; exact (if_neg (by show ¬ decide (d &&& (-65536) = 0) = true; rw [decide_eq_false hc]; decide)).symm) dM_replacement_199 hlocks
            replace h186 : ¬ 0 = 0 := fun hq0 => h186 ((nI_eq (a := 0) (b := 0) (by omega) (by omega)).mpr hq0)
            (exfalso; omega)
          replace h176 : ¬ 0 = 0 := fun hq0 => h176 ((nI_eq (a := 0) (b := 0) (by omega) (by omega)).mpr hq0)
          (exfalso; omega)
        replace h145 := (nI_eq (a := 10) (b := 9) (by omega) (by omega)).mp h145
        (exfalso; omega)
      replace h33 : ¬ 5 < 10 := fun hq0 => h33 ((nI_ltI (a := 5) (b := 10) (by omega) (by omega)).mpr hq0)
      (exfalso; omega)
    replace h18 : ¬ 0 = 0 := fun hq0 => h18 ((nI_eq (a := 0) (b := 0) (by omega) (by omega)).mpr hq0)
    (exfalso; omega)
  replace h8 := (nI_eq (a := 10) (b := 13) (by omega) (by omega)).mp h8
  (exfalso; omega)

set_option maxRecDepth 100000 in
set_option maxHeartbeats 4000000 in
theorem rf_rep13 (l : Launch) (dC : Nat → ClassId) (dI : Nat → Nat → Nat) (cI cZ : ClassId) (m0 aMd aO1 aT2 aSh aMk aFa aDe aNe aBy aPi aNw aNs aBf : Nat) (ft vl rs pd rn rr : Int32) (v x y ky : Nat) (Md O1 T2 Fa De : Nat → Int32) (c9 d z o : Int32) (sz : Nat) (hv : v < 24) (em : Md v = nI 11) (hd : db_set De v d) (hf : db_rep Fa v z o) (e1 : O1 v = nI x) : Met l yM_replacement wsM_replacement { frames := 2, cells := 0, slots := 0, locals := 60 } (va_Pc [.ref m0, .int (nI (v))] (dw_pre (dC, dI) vwCl [(m0, .inr (5, [.int (ft), .int (vl), .ref aMd, .ref aO1, .ref aT2, .int (rs), .ref aSh, .ref aMk, .ref aFa, .ref aDe, .ref aNe, .ref aBy, .ref aPi, .int (pd), .ref aNw, .ref aNs, .ref aBf, .int (rn), .int (rr)])), (aMd, .inl (cI, 24, .inl (Md))), (aO1, .inl (cI, 24, .inl (O1))), (aT2, .inl (cI, 24, .inl (T2))), (aFa, .inl (cI, 768, .inl (Fa))), (aDe, .inl (cZ, 768, .inl (De)))] [(cI, .int), (cZ, .boolean)] sz)) (va_Qi (fun (r : Int32) (u : Unit) => r = db_Bv 13 x ky c9 d z o) (fun u t => dw_post (dC, dI) vwCl [(m0, .inr (5, [.int (ft), .int (vl), .ref aMd, .ref aO1, .ref aT2, .int (rs), .ref aSh, .ref aMk, .ref aFa, .ref aDe, .ref aNe, .ref aBy, .ref aPi, .int (pd), .ref aNw, .ref aNs, .ref aBf, .int (rn), .int (rr)])), (aMd, .inl (cI, 24, .inl (Md))), (aO1, .inl (cI, 24, .inl (O1))), (aT2, .inl (cI, 24, .inl (T2))), (aFa, .inl (cI, 768, .inl (Fa))), (aDe, .inl (cZ, 768, .inl (De)))] [(cI, .int), (cZ, .boolean)] (va_A [(m0, .inr (5, [.int (ft), .int (vl), .ref aMd, .ref aO1, .ref aT2, .int (rs), .ref aSh, .ref aMk, .ref aFa, .ref aDe, .ref aNe, .ref aBy, .ref aPi, .int (pd), .ref aNw, .ref aNs, .ref aBf, .int (rn), .int (rr)])), (aMd, .inl (cI, 24, .inl (Md))), (aO1, .inl (cI, 24, .inl (O1))), (aT2, .inl (cI, 24, .inl (T2))), (aFa, .inl (cI, 768, .inl (Fa))), (aDe, .inl (cZ, 768, .inl (De)))] sz) t) (va_A [(m0, .inr (5, [.int (ft), .int (vl), .ref aMd, .ref aO1, .ref aT2, .int (rs), .ref aSh, .ref aMk, .ref aFa, .ref aDe, .ref aNe, .ref aBy, .ref aPi, .int (pd), .ref aNw, .ref aNs, .ref aBf, .int (rn), .int (rr)])), (aMd, .inl (cI, 24, .inl (Md))), (aO1, .inl (cI, 24, .inl (O1))), (aT2, .inl (cI, 24, .inl (T2))), (aFa, .inl (cI, 768, .inl (Fa))), (aDe, .inl (cZ, 768, .inl (De)))] sz)) 0 0 (va_A [(m0, .inr (5, [.int (ft), .int (vl), .ref aMd, .ref aO1, .ref aT2, .int (rs), .ref aSh, .ref aMk, .ref aFa, .ref aDe, .ref aNe, .ref aBy, .ref aPi, .int (pd), .ref aNw, .ref aNs, .ref aBf, .int (rn), .int (rr)])), (aMd, .inl (cI, 24, .inl (Md))), (aO1, .inl (cI, 24, .inl (O1))), (aT2, .inl (cI, 24, .inl (T2))), (aFa, .inl (cI, 768, .inl (Fa))), (aDe, .inl (cZ, 768, .inl (De)))] sz) := by
  refine Met.ofW (cc := cM_replacement) (maxL := 4) (ret := (some .int)) (by decide) rfl ?_
  intro p e s m args below meth c s₁ B hml hv0
  have hx := B.exec
  have hb := B.bytes
  have hr := B.returns
  have hts := atoms_spec (ws := wsM_replacement) B.pre
  have hown : s.vm.findClass RM = some m.cls := findClass_of_methodNamed B.named
  have hlocks := B.notSynchronized
  obtain ⟨rfl, hsz, hG⟩ := dw_enter hv0
  generalize va_A [(m0, .inr (5, [.int (ft), .int (vl), .ref aMd, .ref aO1, .ref aT2, .int (rs), .ref aSh, .ref aMk, .ref aFa, .ref aDe, .ref aNe, .ref aBy, .ref aPi, .int (pd), .ref aNw, .ref aNs, .ref aBf, .int (rn), .int (rr)])), (aMd, .inl (cI, 24, .inl (Md))), (aO1, .inl (cI, 24, .inl (O1))), (aT2, .inl (cI, 24, .inl (T2))), (aFa, .inl (cI, 768, .inl (Fa))), (aDe, .inl (cZ, 768, .inl (De)))] sz = A at hG ⊢
  have hl := lv_entry ([.ref m0, .int (nI (v))]) (n := 4) (Nat.le_of_ble_eq_true rfl)
  rw [lg_entry_eq]
  generalize (lg_sl ([.ref m0, .int (nI (v))]) ++ List.replicate (4 - (lg_sl ([.ref m0, .int (nI (v))])).length) Slot.unset).toArray = ls at hl ⊢
  have hl : lv_has ls 4 [(0, .ref m0), (1, .int (nI (v)))] := hl
  have hw496 := hts _ (List.mem_cons_of_mem _ tw_496)
  refine dw_Q (fun Q hQ => ?_)
  suffices hgo : ∀ (H : Heap) (locs : List Loc), dw_G (dC, dI) vwCl [(cI, .int), (cZ, .boolean)] A s.heap s [(m0, .inr (5, [.int (ft), .int (vl), .ref aMd, .ref aO1, .ref aT2, .int (rs), .ref aSh, .ref aMk, .ref aFa, .ref aDe, .ref aNe, .ref aBy, .ref aPi, .int (pd), .ref aNw, .ref aNs, .ref aBf, .int (rn), .int (rr)])), (aMd, .inl (cI, 24, .inl (Md))), (aO1, .inl (cI, 24, .inl (O1))), (aT2, .inl (cI, 24, .inl (T2))), (aFa, .inl (cI, 768, .inl (Fa))), (aDe, .inl (cZ, 768, .inl (De)))] H locs → W p l e (headSpec wsM_replacement { frames := 2, cells := 0, slots := 0, locals := 60 }).room s m [.ref m0, .int (nI (v))].toArray below meth c H locs 0 0 Q (F0 m 0 ls []) from hgo _ _ hG
  clear hG
  intro H locs hG
  refine lv_aload_n hx hb dM_replacement_0 rfl (lv_at hl 0 rfl) ?_
  refine dw_get hx hb hts inMc hown hG 0 2 rfl rfl (by decide) hw496 rfl rfl dM_replacement_1 ?_
  refine lv_iload_n hx hb dM_replacement_4 rfl (lv_at hl 1 rfl) ?_
  refine dw_ia (x := 11) hx hb hG 1 0 rfl rfl (v) rfl (by omega) (by decide) em dM_replacement_5 ?_
  refine lv_bipush (v := 13) hx hb dM_replacement_6 (by decide) ?_
  refine lv_icmp_ne (tgt := 13) hx hb dM_replacement_8 (by decide) (fun h8 => ?_) (fun h8 => ?_)
  · skip
    replace h8 : ¬ 11 = 13 := fun hq0 => h8 ((nI_eq (a := 11) (b := 13) (by omega) (by omega)).mpr hq0)
    refine lv_aload_n hx hb dM_replacement_13 rfl (lv_at hl 0 rfl) ?_
    refine lv_iload_n hx hb dM_replacement_14 rfl (lv_at hl 1 rfl) ?_
    refine dw_calli (wc := [(m0, .inr (5, [.int (ft), .int (vl), .ref aMd, .ref aO1, .ref aT2, .int (rs), .ref aSh, .ref aMk, .ref aFa, .ref aDe, .ref aNe, .ref aBy, .ref aPi, .int (pd), .ref aNw, .ref aNs, .ref aBf, .int (rn), .int (rr)])), (aFa, .inl (cI, 768, .inl (Fa))), (aDe, .inl (cZ, 768, .inl (De)))]) (wr := [(aMd, .inl (cI, 24, .inl (Md))), (aO1, .inl (cI, 24, .inl (O1))), (aT2, .inl (cI, 24, .inl (T2)))]) hG [0, 4, 5] [1, 2, 3] rfl rfl (by decide) (by decide) (va_runV (As := [.int (nI (v))]) (rest := []) ⟨hx, hb, hml, hown, hts⟩ (rf_isKnown l dC dI cI cZ m0 aMd aO1 aT2 aSh aMk aFa aDe aNe aBy aPi aNw aNs aBf ft vl rs pd rn rr v Fa De d z o H.size hv hd hf) (dc_V 1 hts tw_664 tw_666 tp_M_isKnown tw_7 tw_667 rfl rfl (by decide +kernel) ⟨Nat.le_of_ble_eq_true rfl, Nat.le_of_ble_eq_true rfl⟩) (dw_preV (ci := 5) hG [0, 4, 5] [0, 1] rfl rfl (by decide) rfl rfl (q0 := 0) rfl) rfl rfl hl.1 rfl (lv_room (Nat.le_of_ble_eq_true rfl)) dM_replacement_15 ⟨Nat.le_refl _, Nat.le_refl _⟩) (fun r u H locs hp hG => ?_)
    subst hp
    have hG : dw_G (dC, dI) vwCl [(cI, .int), (cZ, .boolean)] A s.heap s [(aMd, .inl (cI, 24, .inl (Md))), (aO1, .inl (cI, 24, .inl (O1))), (aT2, .inl (cI, 24, .inl (T2))), (m0, .inr (5, [.int (ft), .int (vl), .ref aMd, .ref aO1, .ref aT2, .int (rs), .ref aSh, .ref aMk, .ref aFa, .ref aDe, .ref aNe, .ref aBy, .ref aPi, .int (pd), .ref aNw, .ref aNs, .ref aBf, .int (rn), .int (rr)])), (aFa, .inl (cI, 768, .inl (Fa))), (aDe, .inl (cZ, 768, .inl (De)))] H locs := hG
    rcases Decidable.em (d &&& ((z ||| o) ^^^ (-1)) = 0) with hkn | hkn
    · skip
      refine lv_topi (nm_r (show (if d &&& ((z ||| o) ^^^ (-1)) = 0 then 1 else 0 : Int32) = 1 from (if_pos hkn)) ?_)
      refine lv_if_eq (tgt := 24) hx hb dM_replacement_18 (by decide) (fun h18 => ?_) (fun h18 => ?_)
      · skip
        replace h18 := (nI_eq (a := 1) (b := 0) (by omega) (by omega)).mp h18
        (exfalso; omega)
      replace h18 : ¬ 1 = 0 := fun hq0 => h18 ((nI_eq (a := 1) (b := 0) (by omega) (by omega)).mpr hq0)
      refine lv_bipush (v := -2) hx hb dM_replacement_21 (by decide) ?_
      subst hQ
      exact dw_iret hx hb hr (dw_perm hG [3, 0, 1, 2, 4, 5] (by decide) rfl rfl) (()) rfl (by unfold db_Bv; rw [if_neg (by decide), if_pos hkn]) dM_replacement_23 hlocks
    refine lv_topi (nm_r (show (if d &&& ((z ||| o) ^^^ (-1)) = 0 then 1 else 0 : Int32) = 0 from (if_neg hkn)) ?_)
    refine lv_if_eq (tgt := 24) hx hb dM_replacement_18 (by decide) (fun h18 => ?_) (fun h18 => ?_)
    · skip
      replace h18 := (nI_eq (a := 0) (b := 0) (by omega) (by omega)).mp h18
      refine lv_iconst (v := 0) hx hb dM_replacement_24 (by decide) ?_
      refine lv_istore_n (lv' := [(2, .int (0)), (0, .ref m0), (1, .int (nI (v)))]) hx hb dM_replacement_25 rfl hl (by decide) rfl (fun ls hl => ?_)
      refine lv_aload_n hx hb dM_replacement_26 rfl (lv_at hl 1 rfl) ?_
      refine dw_get hx hb hts inMc hown hG 3 2 rfl rfl (by decide) hw496 rfl rfl dM_replacement_27 ?_
      refine lv_iload_n hx hb dM_replacement_30 rfl (lv_at hl 2 rfl) ?_
      refine dw_ia (x := 11) hx hb hG 0 0 rfl rfl (v) rfl (by omega) (by decide) em dM_replacement_31 ?_
      refine lv_iconst (v := 5) hx hb dM_replacement_32 (by decide) ?_
      refine lv_icmp_gt (tgt := 133) hx hb dM_replacement_33 (by decide) (fun h33 => ?_) (fun h33 => ?_)
      · skip
        replace h33 := (nI_ltI (a := 5) (b := 11) (by omega) (by omega)).mp h33
        refine lv_iload_n hx hb dM_replacement_133 rfl (lv_at hl 0 rfl) ?_
        refine lv_if_ne (tgt := 179) hx hb dM_replacement_134 (by decide) (fun h134 => ?_) (fun h134 => ?_)
        · skip
          replace h134 : ¬ 0 = 0 := fun hq0 => h134 ((nI_eq (a := 0) (b := 0) (by omega) (by omega)).mpr hq0)
          (exfalso; omega)
        replace h134 := (nI_eq (a := 0) (b := 0) (by omega) (by omega)).mp h134
        refine lv_aload_n hx hb dM_replacement_137 rfl (lv_at hl 1 rfl) ?_
        refine dw_get hx hb hts inMc hown hG 3 2 rfl rfl (by decide) hw496 rfl rfl dM_replacement_138 ?_
        refine lv_iload_n hx hb dM_replacement_141 rfl (lv_at hl 2 rfl) ?_
        refine dw_ia (x := 11) hx hb hG 0 0 rfl rfl (v) rfl (by omega) (by decide) em dM_replacement_142 ?_
        refine lv_bipush (v := 9) hx hb dM_replacement_143 (by decide) ?_
        refine lv_icmp_ne (tgt := 158) hx hb dM_replacement_145 (by decide) (fun h145 => ?_) (fun h145 => ?_)
        · skip
          replace h145 : ¬ 11 = 9 := fun hq0 => h145 ((nI_eq (a := 11) (b := 9) (by omega) (by omega)).mpr hq0)
          refine lv_aload_n hx hb dM_replacement_158 rfl (lv_at hl 1 rfl) ?_
          refine dw_get hx hb hts inMc hown hG 3 2 rfl rfl (by decide) hw496 rfl rfl dM_replacement_159 ?_
          refine lv_iload_n hx hb dM_replacement_162 rfl (lv_at hl 2 rfl) ?_
          refine dw_ia (x := 11) hx hb hG 0 0 rfl rfl (v) rfl (by omega) (by decide) em dM_replacement_163 ?_
          refine lv_bipush (v := 10) hx hb dM_replacement_164 (by decide) ?_
          refine lv_icmp_ne (tgt := 183) hx hb dM_replacement_166 (by decide) (fun h166 => ?_) (fun h166 => ?_)
          · skip
            replace h166 : ¬ 11 = 10 := fun hq0 => h166 ((nI_eq (a := 11) (b := 10) (by omega) (by omega)).mpr hq0)
            refine lv_iconst (v := 0) hx hb dM_replacement_183 (by decide) ?_
            refine lv_istore_n (lv' := [(2, .int (0)), (0, .ref m0), (1, .int (nI (v)))]) hx hb dM_replacement_184 rfl hl (by decide) rfl (fun ls hl => ?_)
            refine lv_iload_n hx hb dM_replacement_185 rfl (lv_at hl 0 rfl) ?_
            refine lv_if_eq (tgt := 198) hx hb dM_replacement_186 (by decide) (fun h186 => ?_) (fun h186 => ?_)
            · skip
              replace h186 := (nI_eq (a := 0) (b := 0) (by omega) (by omega)).mp h186
              refine lv_iconst (v := -1) hx hb dM_replacement_198 (by decide) ?_
              subst hQ
              exact dw_iret hx hb hr (dw_perm hG [3, 0, 1, 2, 4, 5] (by decide) rfl rfl) (()) rfl (by unfold db_Bv; rw [if_neg (by decide), if_neg hkn]; exact (if_neg (by show ¬ false = true; decide)).symm) dM_replacement_199 hlocks
            replace h186 : ¬ 0 = 0 := fun hq0 => h186 ((nI_eq (a := 0) (b := 0) (by omega) (by omega)).mpr hq0)
            (exfalso; omega)
          replace h166 := (nI_eq (a := 11) (b := 10) (by omega) (by omega)).mp h166
          (exfalso; omega)
        replace h145 := (nI_eq (a := 11) (b := 9) (by omega) (by omega)).mp h145
        (exfalso; omega)
      replace h33 : ¬ 5 < 11 := fun hq0 => h33 ((nI_ltI (a := 5) (b := 11) (by omega) (by omega)).mpr hq0)
      (exfalso; omega)
    replace h18 : ¬ 0 = 0 := fun hq0 => h18 ((nI_eq (a := 0) (b := 0) (by omega) (by omega)).mpr hq0)
    (exfalso; omega)
  replace h8 := (nI_eq (a := 11) (b := 13) (by omega) (by omega)).mp h8
  (exfalso; omega)

set_option maxRecDepth 100000 in
theorem rf_rep (l : Launch) (dC : Nat → ClassId) (dI : Nat → Nat → Nat) (cI cZ : ClassId) (m0 aMd aO1 aT2 aSh aMk aFa aDe aNe aBy aPi aNw aNs aBf : Nat) (ft vl rs pd rn rr : Int32) (v x y ky : Nat) (Md O1 T2 Fa De : Nat → Int32) (c9 d z o : Int32) (kd : Nat) (sz : Nat) (hv : v < 24) (hkd : kd ≤ 13) (em : Md v = nI (db_rk kd)) (hd : db_set De v d) (hf : db_rep Fa v z o) (hX : db_ux kd → O1 v = nI x) (hY : kd ≤ 5 → y < 24 ∧ T2 v = nI y ∧ ky ≤ 13 ∧ Md y = nI (db_rk ky) ∧ (ky = 10 → O1 y = c9)) : Met l yM_replacement wsM_replacement { frames := 2, cells := 0, slots := 0, locals := 60 } (va_Pc [.ref m0, .int (nI (v))] (dw_pre (dC, dI) vwCl [(m0, .inr (5, [.int (ft), .int (vl), .ref aMd, .ref aO1, .ref aT2, .int (rs), .ref aSh, .ref aMk, .ref aFa, .ref aDe, .ref aNe, .ref aBy, .ref aPi, .int (pd), .ref aNw, .ref aNs, .ref aBf, .int (rn), .int (rr)])), (aMd, .inl (cI, 24, .inl (Md))), (aO1, .inl (cI, 24, .inl (O1))), (aT2, .inl (cI, 24, .inl (T2))), (aFa, .inl (cI, 768, .inl (Fa))), (aDe, .inl (cZ, 768, .inl (De)))] [(cI, .int), (cZ, .boolean)] sz)) (va_Qi (fun (r : Int32) (u : Unit) => r = db_Bv kd x ky c9 d z o) (fun u t => dw_post (dC, dI) vwCl [(m0, .inr (5, [.int (ft), .int (vl), .ref aMd, .ref aO1, .ref aT2, .int (rs), .ref aSh, .ref aMk, .ref aFa, .ref aDe, .ref aNe, .ref aBy, .ref aPi, .int (pd), .ref aNw, .ref aNs, .ref aBf, .int (rn), .int (rr)])), (aMd, .inl (cI, 24, .inl (Md))), (aO1, .inl (cI, 24, .inl (O1))), (aT2, .inl (cI, 24, .inl (T2))), (aFa, .inl (cI, 768, .inl (Fa))), (aDe, .inl (cZ, 768, .inl (De)))] [(cI, .int), (cZ, .boolean)] (va_A [(m0, .inr (5, [.int (ft), .int (vl), .ref aMd, .ref aO1, .ref aT2, .int (rs), .ref aSh, .ref aMk, .ref aFa, .ref aDe, .ref aNe, .ref aBy, .ref aPi, .int (pd), .ref aNw, .ref aNs, .ref aBf, .int (rn), .int (rr)])), (aMd, .inl (cI, 24, .inl (Md))), (aO1, .inl (cI, 24, .inl (O1))), (aT2, .inl (cI, 24, .inl (T2))), (aFa, .inl (cI, 768, .inl (Fa))), (aDe, .inl (cZ, 768, .inl (De)))] sz) t) (va_A [(m0, .inr (5, [.int (ft), .int (vl), .ref aMd, .ref aO1, .ref aT2, .int (rs), .ref aSh, .ref aMk, .ref aFa, .ref aDe, .ref aNe, .ref aBy, .ref aPi, .int (pd), .ref aNw, .ref aNs, .ref aBf, .int (rn), .int (rr)])), (aMd, .inl (cI, 24, .inl (Md))), (aO1, .inl (cI, 24, .inl (O1))), (aT2, .inl (cI, 24, .inl (T2))), (aFa, .inl (cI, 768, .inl (Fa))), (aDe, .inl (cZ, 768, .inl (De)))] sz)) 0 0 (va_A [(m0, .inr (5, [.int (ft), .int (vl), .ref aMd, .ref aO1, .ref aT2, .int (rs), .ref aSh, .ref aMk, .ref aFa, .ref aDe, .ref aNe, .ref aBy, .ref aPi, .int (pd), .ref aNw, .ref aNs, .ref aBf, .int (rn), .int (rr)])), (aMd, .inl (cI, 24, .inl (Md))), (aO1, .inl (cI, 24, .inl (O1))), (aT2, .inl (cI, 24, .inl (T2))), (aFa, .inl (cI, 768, .inl (Fa))), (aDe, .inl (cZ, 768, .inl (De)))] sz) := by
  rcases (by omega : kd = 0 ∨ kd = 1 ∨ kd = 2 ∨ kd = 3 ∨ kd = 4 ∨ kd = 5 ∨ kd = 6 ∨ kd = 7 ∨ kd = 8 ∨ kd = 9 ∨ kd = 10 ∨ kd = 11 ∨ kd = 12 ∨ kd = 13) with e | e | e | e | e | e | e | e | e | e | e | e | e | e
  · subst e
    obtain ⟨y1, y2, y3, y4, y5⟩ := hY (by omega)
    exact rf_rep0 l dC dI cI cZ m0 aMd aO1 aT2 aSh aMk aFa aDe aNe aBy aPi aNw aNs aBf ft vl rs pd rn rr v x y ky Md O1 T2 Fa De c9 d z o sz hv em hd hf (hX (by unfold db_ux; omega)) y1 y2 y3 y4 y5
  · subst e
    obtain ⟨y1, y2, y3, y4, y5⟩ := hY (by omega)
    exact rf_rep1 l dC dI cI cZ m0 aMd aO1 aT2 aSh aMk aFa aDe aNe aBy aPi aNw aNs aBf ft vl rs pd rn rr v x y ky Md O1 T2 Fa De c9 d z o sz hv em hd hf (hX (by unfold db_ux; omega)) y1 y2 y3 y4 y5
  · subst e
    obtain ⟨y1, y2, y3, y4, y5⟩ := hY (by omega)
    exact rf_rep2 l dC dI cI cZ m0 aMd aO1 aT2 aSh aMk aFa aDe aNe aBy aPi aNw aNs aBf ft vl rs pd rn rr v x y ky Md O1 T2 Fa De c9 d z o sz hv em hd hf (hX (by unfold db_ux; omega)) y1 y2 y3 y4 y5
  · subst e
    obtain ⟨y1, y2, y3, y4, y5⟩ := hY (by omega)
    exact rf_rep3 l dC dI cI cZ m0 aMd aO1 aT2 aSh aMk aFa aDe aNe aBy aPi aNw aNs aBf ft vl rs pd rn rr v x y ky Md O1 T2 Fa De c9 d z o sz hv em hd hf (hX (by unfold db_ux; omega)) y1 y2 y3 y4 y5
  · subst e
    obtain ⟨y1, y2, y3, y4, y5⟩ := hY (by omega)
    exact rf_rep4 l dC dI cI cZ m0 aMd aO1 aT2 aSh aMk aFa aDe aNe aBy aPi aNw aNs aBf ft vl rs pd rn rr v x y ky Md O1 T2 Fa De c9 d z o sz hv em hd hf (hX (by unfold db_ux; omega)) y1 y2 y3 y4 y5
  · subst e
    obtain ⟨y1, y2, y3, y4, y5⟩ := hY (by omega)
    exact rf_rep5 l dC dI cI cZ m0 aMd aO1 aT2 aSh aMk aFa aDe aNe aBy aPi aNw aNs aBf ft vl rs pd rn rr v x y ky Md O1 T2 Fa De c9 d z o sz hv em hd hf (hX (by unfold db_ux; omega)) y1 y2 y3 y4 y5
  · subst e
    exact rf_rep6 l dC dI cI cZ m0 aMd aO1 aT2 aSh aMk aFa aDe aNe aBy aPi aNw aNs aBf ft vl rs pd rn rr v x y ky Md O1 T2 Fa De c9 d z o sz hv em hd hf (hX (by unfold db_ux; omega))
  · subst e
    exact rf_rep7 l dC dI cI cZ m0 aMd aO1 aT2 aSh aMk aFa aDe aNe aBy aPi aNw aNs aBf ft vl rs pd rn rr v x y ky Md O1 T2 Fa De c9 d z o sz hv em hd hf (hX (by unfold db_ux; omega))
  · subst e
    exact rf_rep8 l dC dI cI cZ m0 aMd aO1 aT2 aSh aMk aFa aDe aNe aBy aPi aNw aNs aBf ft vl rs pd rn rr v x y ky Md O1 T2 Fa De c9 d z o sz hv em hd hf (hX (by unfold db_ux; omega))
  · subst e
    exact rf_rep9 l dC dI cI cZ m0 aMd aO1 aT2 aSh aMk aFa aDe aNe aBy aPi aNw aNs aBf ft vl rs pd rn rr v x y ky Md O1 T2 Fa De c9 d z o sz hv em hd hf
  · subst e
    exact rf_rep10 l dC dI cI cZ m0 aMd aO1 aT2 aSh aMk aFa aDe aNe aBy aPi aNw aNs aBf ft vl rs pd rn rr v x y ky Md O1 T2 Fa De c9 d z o sz hv em hd hf
  · subst e
    exact rf_rep11 l dC dI cI cZ m0 aMd aO1 aT2 aSh aMk aFa aDe aNe aBy aPi aNw aNs aBf ft vl rs pd rn rr v x y ky Md O1 T2 Fa De c9 d z o sz hv em hd hf (hX (by unfold db_ux; omega))
  · subst e
    exact rf_rep12 l dC dI cI cZ m0 aMd aO1 aT2 aSh aMk aFa aDe aNe aBy aPi aNw aNs aBf ft vl rs pd rn rr v x y ky Md O1 T2 Fa De c9 d z o sz hv em hd hf (hX (by unfold db_ux; omega))
  · subst e
    exact rf_rep13 l dC dI cI cZ m0 aMd aO1 aT2 aSh aMk aFa aDe aNe aBy aPi aNw aNs aBf ft vl rs pd rn rr v x y ky Md O1 T2 Fa De c9 d z o sz hv em hd hf (hX (by unfold db_ux; omega))

