set_option maxRecDepth 100000 in
set_option maxHeartbeats 4000000 in
theorem jd_lz_0 (l : Launch) (dC : Nat → ClassId) (dI : Nat → Nat → Nat) (cI cZ : ClassId)  (sz : Nat)  : Met l yJ_numberOfLeadingZeros wsJ_numberOfLeadingZeros { frames := 0, cells := 0, slots := 0, locals := 0 } (va_Pc [.int (0)] (dw_pre (dC, dI) vwCl [] [(cI, .int), (cZ, .boolean)] sz)) (va_Qi (fun (r : Int32) (u : Unit) => r = nI (db_lz 0)) (fun u t => dw_post (dC, dI) vwCl [] [(cI, .int), (cZ, .boolean)] (va_A [] sz) t) (va_A [] sz)) 0 0 (va_A [] sz) := by
  refine Met.ofW (cc := cJ_numberOfLeadingZeros) (maxL := 2) (ret := (some .int)) (by decide) rfl ?_
  intro p e s m args below meth c s₁ B hml hv0
  have hx := B.exec
  have hb := B.bytes
  have hr := B.returns
  have hts := atoms_spec (ws := wsJ_numberOfLeadingZeros) B.pre
  have hown : s.vm.findClass RJ = some m.cls := findClass_of_methodNamed B.named
  have hlocks := B.notSynchronized
  obtain ⟨rfl, hsz, hG⟩ := dw_enter hv0
  generalize va_A [] sz = A at hG ⊢
  have hl := lv_entry ([.int (0)]) (n := 2) (Nat.le_of_ble_eq_true rfl)
  rw [lg_entry_eq]
  generalize (lg_sl ([.int (0)]) ++ List.replicate (2 - (lg_sl ([.int (0)])).length) Slot.unset).toArray = ls at hl ⊢
  have hl : lv_has ls 2 [(0, .int (0))] := hl
  refine dw_Q (fun Q hQ => ?_)
  suffices hgo : ∀ (H : Heap) (locs : List Loc), dw_G (dC, dI) vwCl [(cI, .int), (cZ, .boolean)] A s.heap s [] H locs → W p l e (headSpec wsJ_numberOfLeadingZeros { frames := 0, cells := 0, slots := 0, locals := 0 }).room s m [.int (0)].toArray below meth c H locs 0 0 Q (F0 m 0 ls []) from hgo _ _ hG
  clear hG
  intro H locs hG
  refine lv_iload_n hx hb dJ_numberOfLeadingZeros_0 rfl (lv_at hl 0 rfl) ?_
  refine lv_if_gt (tgt := 15) hx hb dJ_numberOfLeadingZeros_1 (by decide) (fun h1 => ?_) (fun h1 => ?_)
  · skip
    replace h1 := (nI_ltI (a := 0) (b := 0) (by omega) (by omega)).mp h1
    (exfalso; omega)
  replace h1 : ¬ 0 < 0 := fun hq0 => h1 ((nI_ltI (a := 0) (b := 0) (by omega) (by omega)).mpr hq0)
  refine lv_iload_n hx hb dJ_numberOfLeadingZeros_4 rfl (lv_at hl 0 rfl) ?_
  refine lv_if_ne (tgt := 13) hx hb dJ_numberOfLeadingZeros_5 (by decide) (fun h5 => ?_) (fun h5 => ?_)
  · skip
    replace h5 : ¬ 0 = 0 := fun hq0 => h5 ((nI_eq (a := 0) (b := 0) (by omega) (by omega)).mpr hq0)
    (exfalso; omega)
  replace h5 := (nI_eq (a := 0) (b := 0) (by omega) (by omega)).mp h5
  refine lv_bipush (v := 32) hx hb dJ_numberOfLeadingZeros_8 (by decide) ?_
  refine lv_goto (tgt := 14) hx hb dJ_numberOfLeadingZeros_10 (by decide) ?_
  subst hQ
  exact dw_iret hx hb hr hG (()) rfl db_lz_0.symm dJ_numberOfLeadingZeros_14 hlocks

set_option maxRecDepth 100000 in
set_option maxHeartbeats 4000000 in
theorem jd_lz_n (l : Launch) (dC : Nat → ClassId) (dI : Nat → Nat → Nat) (cI cZ : ClassId) (x : Int32) (sz : Nat) (hx9 : x < 0) : Met l yJ_numberOfLeadingZeros wsJ_numberOfLeadingZeros { frames := 0, cells := 0, slots := 0, locals := 0 } (va_Pc [.int (x)] (dw_pre (dC, dI) vwCl [] [(cI, .int), (cZ, .boolean)] sz)) (va_Qi (fun (r : Int32) (u : Unit) => r = nI (db_lz x)) (fun u t => dw_post (dC, dI) vwCl [] [(cI, .int), (cZ, .boolean)] (va_A [] sz) t) (va_A [] sz)) 0 0 (va_A [] sz) := by
  refine Met.ofW (cc := cJ_numberOfLeadingZeros) (maxL := 2) (ret := (some .int)) (by decide) rfl ?_
  intro p e s m args below meth c s₁ B hml hv0
  have hx := B.exec
  have hb := B.bytes
  have hr := B.returns
  have hts := atoms_spec (ws := wsJ_numberOfLeadingZeros) B.pre
  have hown : s.vm.findClass RJ = some m.cls := findClass_of_methodNamed B.named
  have hlocks := B.notSynchronized
  obtain ⟨rfl, hsz, hG⟩ := dw_enter hv0
  generalize va_A [] sz = A at hG ⊢
  have hl := lv_entry ([.int (x)]) (n := 2) (Nat.le_of_ble_eq_true rfl)
  rw [lg_entry_eq]
  generalize (lg_sl ([.int (x)]) ++ List.replicate (2 - (lg_sl ([.int (x)])).length) Slot.unset).toArray = ls at hl ⊢
  have hl : lv_has ls 2 [(0, .int (x))] := hl
  refine dw_Q (fun Q hQ => ?_)
  suffices hgo : ∀ (H : Heap) (locs : List Loc), dw_G (dC, dI) vwCl [(cI, .int), (cZ, .boolean)] A s.heap s [] H locs → W p l e (headSpec wsJ_numberOfLeadingZeros { frames := 0, cells := 0, slots := 0, locals := 0 }).room s m [.int (x)].toArray below meth c H locs 0 0 Q (F0 m 0 ls []) from hgo _ _ hG
  clear hG
  intro H locs hG
  refine lv_iload_n hx hb dJ_numberOfLeadingZeros_0 rfl (lv_at hl 0 rfl) ?_
  refine lv_if_gt (tgt := 15) hx hb dJ_numberOfLeadingZeros_1 (by decide) (fun h1 => ?_) (fun h1 => ?_)
  · skip
    exact absurd (show (0 : Int32) < 0 from Int32.lt_trans h1 hx9) (by decide)
  refine lv_iload_n hx hb dJ_numberOfLeadingZeros_4 rfl (lv_at hl 0 rfl) ?_
  refine lv_if_ne (tgt := 13) hx hb dJ_numberOfLeadingZeros_5 (by decide) (fun h5 => ?_) (fun h5 => ?_)
  · skip
    refine lv_iconst (v := 0) hx hb dJ_numberOfLeadingZeros_13 (by decide) ?_
    subst hQ
    exact dw_iret hx hb hr hG (()) rfl (db_lz_neg hx9).symm dJ_numberOfLeadingZeros_14 hlocks
  exact absurd (show (0 : Int32) < 0 by rw [h5] at hx9; exact hx9) (by decide)

set_option maxRecDepth 100000 in
set_option maxHeartbeats 4000000 in
theorem jd_lz_p (l : Launch) (dC : Nat → ClassId) (dI : Nat → Nat → Nat) (cI cZ : ClassId) (a : Nat) (sz : Nat) (ha0 : 0 < a) (ha : a < 2147483648) : Met l yJ_numberOfLeadingZeros wsJ_numberOfLeadingZeros { frames := 0, cells := 0, slots := 0, locals := 0 } (va_Pc [.int (nI (a))] (dw_pre (dC, dI) vwCl [] [(cI, .int), (cZ, .boolean)] sz)) (va_Qi (fun (r : Int32) (u : Unit) => r = nI (db_lz (nI a))) (fun u t => dw_post (dC, dI) vwCl [] [(cI, .int), (cZ, .boolean)] (va_A [] sz) t) (va_A [] sz)) 0 0 (va_A [] sz) := by
  refine Met.ofW (cc := cJ_numberOfLeadingZeros) (maxL := 2) (ret := (some .int)) (by decide) rfl ?_
  intro p e s m args below meth c s₁ B hml hv0
  have hx := B.exec
  have hb := B.bytes
  have hr := B.returns
  have hts := atoms_spec (ws := wsJ_numberOfLeadingZeros) B.pre
  have hown : s.vm.findClass RJ = some m.cls := findClass_of_methodNamed B.named
  have hlocks := B.notSynchronized
  obtain ⟨rfl, hsz, hG⟩ := dw_enter hv0
  generalize va_A [] sz = A at hG ⊢
  have hl := lv_entry ([.int (nI (a))]) (n := 2) (Nat.le_of_ble_eq_true rfl)
  rw [lg_entry_eq]
  generalize (lg_sl ([.int (nI (a))]) ++ List.replicate (2 - (lg_sl ([.int (nI (a))])).length) Slot.unset).toArray = ls at hl ⊢
  have hl : lv_has ls 2 [(0, .int (nI (a)))] := hl
  have hw204 := hts _ (List.mem_cons_of_mem _ tw_204)
  refine dw_Q (fun Q hQ => ?_)
  suffices hgo : ∀ (H : Heap) (locs : List Loc), dw_G (dC, dI) vwCl [(cI, .int), (cZ, .boolean)] A s.heap s [] H locs → W p l e (headSpec wsJ_numberOfLeadingZeros { frames := 0, cells := 0, slots := 0, locals := 0 }).room s m [.int (nI (a))].toArray below meth c H locs 0 0 Q (F0 m 0 ls []) from hgo _ _ hG
  clear hG
  intro H locs hG
  refine lv_iload_n hx hb dJ_numberOfLeadingZeros_0 rfl (lv_at hl 0 rfl) ?_
  refine lv_if_gt (tgt := 15) hx hb dJ_numberOfLeadingZeros_1 (by decide) (fun h1 => ?_) (fun h1 => ?_)
  · skip
    replace h1 := (nI_ltI (a := 0) (b := a) (by omega) (by omega)).mp h1
    refine lv_bipush (v := 31) hx hb dJ_numberOfLeadingZeros_15 (by decide) ?_
    refine lv_istore_n (lv' := [(1, .int (31)), (0, .int (nI (a)))]) hx hb dJ_numberOfLeadingZeros_17 rfl hl (by decide) rfl (fun ls hl => ?_)
    refine lv_iload_n hx hb dJ_numberOfLeadingZeros_18 rfl (lv_at hl 1 rfl) ?_
    refine lv_ldcw (v := 65536) hx hb hown hw204 dJ_numberOfLeadingZeros_19 ?_
    refine lv_icmp_lt (tgt := 33) hx hb dJ_numberOfLeadingZeros_22 (by decide) (fun h22 => ?_) (fun h22 => ?_)
    · skip
      replace h22 := (nI_ltI (a := a) (b := 65536) (by omega) (by omega)).mp h22
      refine lv_iload_n hx hb dJ_numberOfLeadingZeros_33 rfl (lv_at hl 1 rfl) ?_
      refine lv_sipush (v := 256) hx hb dJ_numberOfLeadingZeros_34 (by decide) ?_
      refine lv_icmp_lt (tgt := 48) hx hb dJ_numberOfLeadingZeros_37 (by decide) (fun h37 => ?_) (fun h37 => ?_)
      · skip
        replace h37 := (nI_ltI (a := a) (b := 256) (by omega) (by omega)).mp h37
        refine lv_iload_n hx hb dJ_numberOfLeadingZeros_48 rfl (lv_at hl 1 rfl) ?_
        refine lv_bipush (v := 16) hx hb dJ_numberOfLeadingZeros_49 (by decide) ?_
        refine lv_icmp_lt (tgt := 61) hx hb dJ_numberOfLeadingZeros_51 (by decide) (fun h51 => ?_) (fun h51 => ?_)
        · skip
          replace h51 := (nI_ltI (a := a) (b := 16) (by omega) (by omega)).mp h51
          refine lv_iload_n hx hb dJ_numberOfLeadingZeros_61 rfl (lv_at hl 1 rfl) ?_
          refine lv_iconst (v := 4) hx hb dJ_numberOfLeadingZeros_62 (by decide) ?_
          refine lv_icmp_lt (tgt := 73) hx hb dJ_numberOfLeadingZeros_63 (by decide) (fun h63 => ?_) (fun h63 => ?_)
          · skip
            replace h63 := (nI_ltI (a := a) (b := 4) (by omega) (by omega)).mp h63
            refine lv_iload_n hx hb dJ_numberOfLeadingZeros_73 rfl (lv_at hl 0 rfl) ?_
            refine lv_iload_n hx hb dJ_numberOfLeadingZeros_74 rfl (lv_at hl 1 rfl) ?_
            refine lv_iconst (v := 1) hx hb dJ_numberOfLeadingZeros_75 (by decide) ?_
            refine lv_iushr (v := db_ushr (nI (a)) (1)) hx hb dJ_numberOfLeadingZeros_76 rfl ?_
            refine lv_topi (nm_r (show (db_ushr (nI (a)) (1) : Int32) = nI (a / 2) from (pk_ushrN (n := a) (by omega) 1 1 (by decide))) ?_)
            refine lv_isub hx hb dJ_numberOfLeadingZeros_77 ?_
            subst hQ
            exact dw_iret hx hb hr hG (()) rfl (db_lz_of (a := a) (s := 0) (b := a) ha (by omega) (by omega) (by omega) (by omega)) dJ_numberOfLeadingZeros_78 hlocks
          replace h63 : ¬ a < 4 := fun hq0 => h63 ((nI_ltI (a := a) (b := 4) (by omega) (by omega)).mpr hq0)
          refine lv_iinc (v := 29) (lv' := [(1, .int (29)), (0, .int (nI (a)))]) hx hb dJ_numberOfLeadingZeros_66 hl (k := 0) rfl (by decide) (by decide) rfl (fun ls hl => ?_)
          refine lv_iload_n hx hb dJ_numberOfLeadingZeros_69 rfl (lv_at hl 1 rfl) ?_
          refine lv_iconst (v := 2) hx hb dJ_numberOfLeadingZeros_70 (by decide) ?_
          refine lv_iushr (v := db_ushr (nI (a)) (2)) hx hb dJ_numberOfLeadingZeros_71 rfl ?_
          refine lv_topi (nm_r (show (db_ushr (nI (a)) (2) : Int32) = nI (a / 4) from (pk_ushrN (n := a) (by omega) 2 2 (by decide))) ?_)
          refine lv_istore_n (lv' := [(0, .int (nI (a / 4))), (1, .int (29))]) hx hb dJ_numberOfLeadingZeros_72 rfl hl (by decide) rfl (fun ls hl => ?_)
          refine lv_iload_n hx hb dJ_numberOfLeadingZeros_73 rfl (lv_at hl 1 rfl) ?_
          refine lv_iload_n hx hb dJ_numberOfLeadingZeros_74 rfl (lv_at hl 0 rfl) ?_
          refine lv_iconst (v := 1) hx hb dJ_numberOfLeadingZeros_75 (by decide) ?_
          refine lv_iushr (v := db_ushr (nI (a / 4)) (1)) hx hb dJ_numberOfLeadingZeros_76 rfl ?_
          refine lv_topi (nm_r (show (db_ushr (nI (a / 4)) (1) : Int32) = nI ((a / 4) / 2) from (pk_ushrN (n := a / 4) (by omega) 1 1 (by decide))) ?_)
          refine lv_isub hx hb dJ_numberOfLeadingZeros_77 ?_
          subst hQ
          exact dw_iret hx hb hr hG (()) rfl (db_lz_of (a := a) (s := 2) (b := a / 4) ha (by omega) (by omega) (by omega) (by omega)) dJ_numberOfLeadingZeros_78 hlocks
        replace h51 : ¬ a < 16 := fun hq0 => h51 ((nI_ltI (a := a) (b := 16) (by omega) (by omega)).mpr hq0)
        refine lv_iinc (v := 27) (lv' := [(1, .int (27)), (0, .int (nI (a)))]) hx hb dJ_numberOfLeadingZeros_54 hl (k := 0) rfl (by decide) (by decide) rfl (fun ls hl => ?_)
        refine lv_iload_n hx hb dJ_numberOfLeadingZeros_57 rfl (lv_at hl 1 rfl) ?_
        refine lv_iconst (v := 4) hx hb dJ_numberOfLeadingZeros_58 (by decide) ?_
        refine lv_iushr (v := db_ushr (nI (a)) (4)) hx hb dJ_numberOfLeadingZeros_59 rfl ?_
        refine lv_topi (nm_r (show (db_ushr (nI (a)) (4) : Int32) = nI (a / 16) from (pk_ushrN (n := a) (by omega) 4 4 (by decide))) ?_)
        refine lv_istore_n (lv' := [(0, .int (nI (a / 16))), (1, .int (27))]) hx hb dJ_numberOfLeadingZeros_60 rfl hl (by decide) rfl (fun ls hl => ?_)
        refine lv_iload_n hx hb dJ_numberOfLeadingZeros_61 rfl (lv_at hl 0 rfl) ?_
        refine lv_iconst (v := 4) hx hb dJ_numberOfLeadingZeros_62 (by decide) ?_
        refine lv_icmp_lt (tgt := 73) hx hb dJ_numberOfLeadingZeros_63 (by decide) (fun h63 => ?_) (fun h63 => ?_)
        · skip
          replace h63 := (nI_ltI (a := a / 16) (b := 4) (by omega) (by omega)).mp h63
          refine lv_iload_n hx hb dJ_numberOfLeadingZeros_73 rfl (lv_at hl 1 rfl) ?_
          refine lv_iload_n hx hb dJ_numberOfLeadingZeros_74 rfl (lv_at hl 0 rfl) ?_
          refine lv_iconst (v := 1) hx hb dJ_numberOfLeadingZeros_75 (by decide) ?_
          refine lv_iushr (v := db_ushr (nI (a / 16)) (1)) hx hb dJ_numberOfLeadingZeros_76 rfl ?_
          refine lv_topi (nm_r (show (db_ushr (nI (a / 16)) (1) : Int32) = nI ((a / 16) / 2) from (pk_ushrN (n := a / 16) (by omega) 1 1 (by decide))) ?_)
          refine lv_isub hx hb dJ_numberOfLeadingZeros_77 ?_
          subst hQ
          exact dw_iret hx hb hr hG (()) rfl (db_lz_of (a := a) (s := 4) (b := a / 16) ha (by omega) (by omega) (by omega) (by omega)) dJ_numberOfLeadingZeros_78 hlocks
        replace h63 : ¬ a / 16 < 4 := fun hq0 => h63 ((nI_ltI (a := a / 16) (b := 4) (by omega) (by omega)).mpr hq0)
        refine lv_iinc (v := 25) (lv' := [(1, .int (25)), (0, .int (nI (a / 16)))]) hx hb dJ_numberOfLeadingZeros_66 hl (k := 1) rfl (by decide) (by decide) rfl (fun ls hl => ?_)
        refine lv_iload_n hx hb dJ_numberOfLeadingZeros_69 rfl (lv_at hl 1 rfl) ?_
        refine lv_iconst (v := 2) hx hb dJ_numberOfLeadingZeros_70 (by decide) ?_
        refine lv_iushr (v := db_ushr (nI (a / 16)) (2)) hx hb dJ_numberOfLeadingZeros_71 rfl ?_
        refine lv_topi (nm_r (show (db_ushr (nI (a / 16)) (2) : Int32) = nI ((a / 16) / 4) from (pk_ushrN (n := a / 16) (by omega) 2 2 (by decide))) ?_)
        refine lv_istore_n (lv' := [(0, .int (nI ((a / 16) / 4))), (1, .int (25))]) hx hb dJ_numberOfLeadingZeros_72 rfl hl (by decide) rfl (fun ls hl => ?_)
        refine lv_iload_n hx hb dJ_numberOfLeadingZeros_73 rfl (lv_at hl 1 rfl) ?_
        refine lv_iload_n hx hb dJ_numberOfLeadingZeros_74 rfl (lv_at hl 0 rfl) ?_
        refine lv_iconst (v := 1) hx hb dJ_numberOfLeadingZeros_75 (by decide) ?_
        refine lv_iushr (v := db_ushr (nI ((a / 16) / 4)) (1)) hx hb dJ_numberOfLeadingZeros_76 rfl ?_
        refine lv_topi (nm_r (show (db_ushr (nI ((a / 16) / 4)) (1) : Int32) = nI (((a / 16) / 4) / 2) from (pk_ushrN (n := (a / 16) / 4) (by omega) 1 1 (by decide))) ?_)
        refine lv_isub hx hb dJ_numberOfLeadingZeros_77 ?_
        subst hQ
        exact dw_iret hx hb hr hG (()) rfl (db_lz_of (a := a) (s := 6) (b := (a / 16) / 4) ha (by omega) (by omega) (by omega) (by omega)) dJ_numberOfLeadingZeros_78 hlocks
      replace h37 : ¬ a < 256 := fun hq0 => h37 ((nI_ltI (a := a) (b := 256) (by omega) (by omega)).mpr hq0)
      refine lv_iinc (v := 23) (lv' := [(1, .int (23)), (0, .int (nI (a)))]) hx hb dJ_numberOfLeadingZeros_40 hl (k := 0) rfl (by decide) (by decide) rfl (fun ls hl => ?_)
      refine lv_iload_n hx hb dJ_numberOfLeadingZeros_43 rfl (lv_at hl 1 rfl) ?_
      refine lv_bipush (v := 8) hx hb dJ_numberOfLeadingZeros_44 (by decide) ?_
      refine lv_iushr (v := db_ushr (nI (a)) (8)) hx hb dJ_numberOfLeadingZeros_46 rfl ?_
      refine lv_topi (nm_r (show (db_ushr (nI (a)) (8) : Int32) = nI (a / 256) from (pk_ushrN (n := a) (by omega) 8 8 (by decide))) ?_)
      refine lv_istore_n (lv' := [(0, .int (nI (a / 256))), (1, .int (23))]) hx hb dJ_numberOfLeadingZeros_47 rfl hl (by decide) rfl (fun ls hl => ?_)
      refine lv_iload_n hx hb dJ_numberOfLeadingZeros_48 rfl (lv_at hl 0 rfl) ?_
      refine lv_bipush (v := 16) hx hb dJ_numberOfLeadingZeros_49 (by decide) ?_
      refine lv_icmp_lt (tgt := 61) hx hb dJ_numberOfLeadingZeros_51 (by decide) (fun h51 => ?_) (fun h51 => ?_)
      · skip
        replace h51 := (nI_ltI (a := a / 256) (b := 16) (by omega) (by omega)).mp h51
        refine lv_iload_n hx hb dJ_numberOfLeadingZeros_61 rfl (lv_at hl 0 rfl) ?_
        refine lv_iconst (v := 4) hx hb dJ_numberOfLeadingZeros_62 (by decide) ?_
        refine lv_icmp_lt (tgt := 73) hx hb dJ_numberOfLeadingZeros_63 (by decide) (fun h63 => ?_) (fun h63 => ?_)
        · skip
          replace h63 := (nI_ltI (a := a / 256) (b := 4) (by omega) (by omega)).mp h63
          refine lv_iload_n hx hb dJ_numberOfLeadingZeros_73 rfl (lv_at hl 1 rfl) ?_
          refine lv_iload_n hx hb dJ_numberOfLeadingZeros_74 rfl (lv_at hl 0 rfl) ?_
          refine lv_iconst (v := 1) hx hb dJ_numberOfLeadingZeros_75 (by decide) ?_
          refine lv_iushr (v := db_ushr (nI (a / 256)) (1)) hx hb dJ_numberOfLeadingZeros_76 rfl ?_
          refine lv_topi (nm_r (show (db_ushr (nI (a / 256)) (1) : Int32) = nI ((a / 256) / 2) from (pk_ushrN (n := a / 256) (by omega) 1 1 (by decide))) ?_)
          refine lv_isub hx hb dJ_numberOfLeadingZeros_77 ?_
          subst hQ
          exact dw_iret hx hb hr hG (()) rfl (db_lz_of (a := a) (s := 8) (b := a / 256) ha (by omega) (by omega) (by omega) (by omega)) dJ_numberOfLeadingZeros_78 hlocks
        replace h63 : ¬ a / 256 < 4 := fun hq0 => h63 ((nI_ltI (a := a / 256) (b := 4) (by omega) (by omega)).mpr hq0)
        refine lv_iinc (v := 21) (lv' := [(1, .int (21)), (0, .int (nI (a / 256)))]) hx hb dJ_numberOfLeadingZeros_66 hl (k := 1) rfl (by decide) (by decide) rfl (fun ls hl => ?_)
        refine lv_iload_n hx hb dJ_numberOfLeadingZeros_69 rfl (lv_at hl 1 rfl) ?_
        refine lv_iconst (v := 2) hx hb dJ_numberOfLeadingZeros_70 (by decide) ?_
        refine lv_iushr (v := db_ushr (nI (a / 256)) (2)) hx hb dJ_numberOfLeadingZeros_71 rfl ?_
        refine lv_topi (nm_r (show (db_ushr (nI (a / 256)) (2) : Int32) = nI ((a / 256) / 4) from (pk_ushrN (n := a / 256) (by omega) 2 2 (by decide))) ?_)
        refine lv_istore_n (lv' := [(0, .int (nI ((a / 256) / 4))), (1, .int (21))]) hx hb dJ_numberOfLeadingZeros_72 rfl hl (by decide) rfl (fun ls hl => ?_)
        refine lv_iload_n hx hb dJ_numberOfLeadingZeros_73 rfl (lv_at hl 1 rfl) ?_
        refine lv_iload_n hx hb dJ_numberOfLeadingZeros_74 rfl (lv_at hl 0 rfl) ?_
        refine lv_iconst (v := 1) hx hb dJ_numberOfLeadingZeros_75 (by decide) ?_
        refine lv_iushr (v := db_ushr (nI ((a / 256) / 4)) (1)) hx hb dJ_numberOfLeadingZeros_76 rfl ?_
        refine lv_topi (nm_r (show (db_ushr (nI ((a / 256) / 4)) (1) : Int32) = nI (((a / 256) / 4) / 2) from (pk_ushrN (n := (a / 256) / 4) (by omega) 1 1 (by decide))) ?_)
        refine lv_isub hx hb dJ_numberOfLeadingZeros_77 ?_
        subst hQ
        exact dw_iret hx hb hr hG (()) rfl (db_lz_of (a := a) (s := 10) (b := (a / 256) / 4) ha (by omega) (by omega) (by omega) (by omega)) dJ_numberOfLeadingZeros_78 hlocks
      replace h51 : ¬ a / 256 < 16 := fun hq0 => h51 ((nI_ltI (a := a / 256) (b := 16) (by omega) (by omega)).mpr hq0)
      refine lv_iinc (v := 19) (lv' := [(1, .int (19)), (0, .int (nI (a / 256)))]) hx hb dJ_numberOfLeadingZeros_54 hl (k := 1) rfl (by decide) (by decide) rfl (fun ls hl => ?_)
      refine lv_iload_n hx hb dJ_numberOfLeadingZeros_57 rfl (lv_at hl 1 rfl) ?_
      refine lv_iconst (v := 4) hx hb dJ_numberOfLeadingZeros_58 (by decide) ?_
      refine lv_iushr (v := db_ushr (nI (a / 256)) (4)) hx hb dJ_numberOfLeadingZeros_59 rfl ?_
      refine lv_topi (nm_r (show (db_ushr (nI (a / 256)) (4) : Int32) = nI ((a / 256) / 16) from (pk_ushrN (n := a / 256) (by omega) 4 4 (by decide))) ?_)
      refine lv_istore_n (lv' := [(0, .int (nI ((a / 256) / 16))), (1, .int (19))]) hx hb dJ_numberOfLeadingZeros_60 rfl hl (by decide) rfl (fun ls hl => ?_)
      refine lv_iload_n hx hb dJ_numberOfLeadingZeros_61 rfl (lv_at hl 0 rfl) ?_
      refine lv_iconst (v := 4) hx hb dJ_numberOfLeadingZeros_62 (by decide) ?_
      refine lv_icmp_lt (tgt := 73) hx hb dJ_numberOfLeadingZeros_63 (by decide) (fun h63 => ?_) (fun h63 => ?_)
      · skip
        replace h63 := (nI_ltI (a := (a / 256) / 16) (b := 4) (by omega) (by omega)).mp h63
        refine lv_iload_n hx hb dJ_numberOfLeadingZeros_73 rfl (lv_at hl 1 rfl) ?_
        refine lv_iload_n hx hb dJ_numberOfLeadingZeros_74 rfl (lv_at hl 0 rfl) ?_
        refine lv_iconst (v := 1) hx hb dJ_numberOfLeadingZeros_75 (by decide) ?_
        refine lv_iushr (v := db_ushr (nI ((a / 256) / 16)) (1)) hx hb dJ_numberOfLeadingZeros_76 rfl ?_
        refine lv_topi (nm_r (show (db_ushr (nI ((a / 256) / 16)) (1) : Int32) = nI (((a / 256) / 16) / 2) from (pk_ushrN (n := (a / 256) / 16) (by omega) 1 1 (by decide))) ?_)
        refine lv_isub hx hb dJ_numberOfLeadingZeros_77 ?_
        subst hQ
        exact dw_iret hx hb hr hG (()) rfl (db_lz_of (a := a) (s := 12) (b := (a / 256) / 16) ha (by omega) (by omega) (by omega) (by omega)) dJ_numberOfLeadingZeros_78 hlocks
      replace h63 : ¬ (a / 256) / 16 < 4 := fun hq0 => h63 ((nI_ltI (a := (a / 256) / 16) (b := 4) (by omega) (by omega)).mpr hq0)
      refine lv_iinc (v := 17) (lv' := [(1, .int (17)), (0, .int (nI ((a / 256) / 16)))]) hx hb dJ_numberOfLeadingZeros_66 hl (k := 1) rfl (by decide) (by decide) rfl (fun ls hl => ?_)
      refine lv_iload_n hx hb dJ_numberOfLeadingZeros_69 rfl (lv_at hl 1 rfl) ?_
      refine lv_iconst (v := 2) hx hb dJ_numberOfLeadingZeros_70 (by decide) ?_
      refine lv_iushr (v := db_ushr (nI ((a / 256) / 16)) (2)) hx hb dJ_numberOfLeadingZeros_71 rfl ?_
      refine lv_topi (nm_r (show (db_ushr (nI ((a / 256) / 16)) (2) : Int32) = nI (((a / 256) / 16) / 4) from (pk_ushrN (n := (a / 256) / 16) (by omega) 2 2 (by decide))) ?_)
      refine lv_istore_n (lv' := [(0, .int (nI (((a / 256) / 16) / 4))), (1, .int (17))]) hx hb dJ_numberOfLeadingZeros_72 rfl hl (by decide) rfl (fun ls hl => ?_)
      refine lv_iload_n hx hb dJ_numberOfLeadingZeros_73 rfl (lv_at hl 1 rfl) ?_
      refine lv_iload_n hx hb dJ_numberOfLeadingZeros_74 rfl (lv_at hl 0 rfl) ?_
      refine lv_iconst (v := 1) hx hb dJ_numberOfLeadingZeros_75 (by decide) ?_
      refine lv_iushr (v := db_ushr (nI (((a / 256) / 16) / 4)) (1)) hx hb dJ_numberOfLeadingZeros_76 rfl ?_
      refine lv_topi (nm_r (show (db_ushr (nI (((a / 256) / 16) / 4)) (1) : Int32) = nI ((((a / 256) / 16) / 4) / 2) from (pk_ushrN (n := ((a / 256) / 16) / 4) (by omega) 1 1 (by decide))) ?_)
      refine lv_isub hx hb dJ_numberOfLeadingZeros_77 ?_
      subst hQ
      exact dw_iret hx hb hr hG (()) rfl (db_lz_of (a := a) (s := 14) (b := ((a / 256) / 16) / 4) ha (by omega) (by omega) (by omega) (by omega)) dJ_numberOfLeadingZeros_78 hlocks
    replace h22 : ¬ a < 65536 := fun hq0 => h22 ((nI_ltI (a := a) (b := 65536) (by omega) (by omega)).mpr hq0)
    refine lv_iinc (v := 15) (lv' := [(1, .int (15)), (0, .int (nI (a)))]) hx hb dJ_numberOfLeadingZeros_25 hl (k := 0) rfl (by decide) (by decide) rfl (fun ls hl => ?_)
    refine lv_iload_n hx hb dJ_numberOfLeadingZeros_28 rfl (lv_at hl 1 rfl) ?_
    refine lv_bipush (v := 16) hx hb dJ_numberOfLeadingZeros_29 (by decide) ?_
    refine lv_iushr (v := db_ushr (nI (a)) (16)) hx hb dJ_numberOfLeadingZeros_31 rfl ?_
    refine lv_topi (nm_r (show (db_ushr (nI (a)) (16) : Int32) = nI (a / 65536) from (pk_ushrN (n := a) (by omega) 16 16 (by decide))) ?_)
    refine lv_istore_n (lv' := [(0, .int (nI (a / 65536))), (1, .int (15))]) hx hb dJ_numberOfLeadingZeros_32 rfl hl (by decide) rfl (fun ls hl => ?_)
    refine lv_iload_n hx hb dJ_numberOfLeadingZeros_33 rfl (lv_at hl 0 rfl) ?_
    refine lv_sipush (v := 256) hx hb dJ_numberOfLeadingZeros_34 (by decide) ?_
    refine lv_icmp_lt (tgt := 48) hx hb dJ_numberOfLeadingZeros_37 (by decide) (fun h37 => ?_) (fun h37 => ?_)
    · skip
      replace h37 := (nI_ltI (a := a / 65536) (b := 256) (by omega) (by omega)).mp h37
      refine lv_iload_n hx hb dJ_numberOfLeadingZeros_48 rfl (lv_at hl 0 rfl) ?_
      refine lv_bipush (v := 16) hx hb dJ_numberOfLeadingZeros_49 (by decide) ?_
      refine lv_icmp_lt (tgt := 61) hx hb dJ_numberOfLeadingZeros_51 (by decide) (fun h51 => ?_) (fun h51 => ?_)
      · skip
        replace h51 := (nI_ltI (a := a / 65536) (b := 16) (by omega) (by omega)).mp h51
        refine lv_iload_n hx hb dJ_numberOfLeadingZeros_61 rfl (lv_at hl 0 rfl) ?_
        refine lv_iconst (v := 4) hx hb dJ_numberOfLeadingZeros_62 (by decide) ?_
        refine lv_icmp_lt (tgt := 73) hx hb dJ_numberOfLeadingZeros_63 (by decide) (fun h63 => ?_) (fun h63 => ?_)
        · skip
          replace h63 := (nI_ltI (a := a / 65536) (b := 4) (by omega) (by omega)).mp h63
          refine lv_iload_n hx hb dJ_numberOfLeadingZeros_73 rfl (lv_at hl 1 rfl) ?_
          refine lv_iload_n hx hb dJ_numberOfLeadingZeros_74 rfl (lv_at hl 0 rfl) ?_
          refine lv_iconst (v := 1) hx hb dJ_numberOfLeadingZeros_75 (by decide) ?_
          refine lv_iushr (v := db_ushr (nI (a / 65536)) (1)) hx hb dJ_numberOfLeadingZeros_76 rfl ?_
          refine lv_topi (nm_r (show (db_ushr (nI (a / 65536)) (1) : Int32) = nI ((a / 65536) / 2) from (pk_ushrN (n := a / 65536) (by omega) 1 1 (by decide))) ?_)
          refine lv_isub hx hb dJ_numberOfLeadingZeros_77 ?_
          subst hQ
          exact dw_iret hx hb hr hG (()) rfl (db_lz_of (a := a) (s := 16) (b := a / 65536) ha (by omega) (by omega) (by omega) (by omega)) dJ_numberOfLeadingZeros_78 hlocks
        replace h63 : ¬ a / 65536 < 4 := fun hq0 => h63 ((nI_ltI (a := a / 65536) (b := 4) (by omega) (by omega)).mpr hq0)
        refine lv_iinc (v := 13) (lv' := [(1, .int (13)), (0, .int (nI (a / 65536)))]) hx hb dJ_numberOfLeadingZeros_66 hl (k := 1) rfl (by decide) (by decide) rfl (fun ls hl => ?_)
        refine lv_iload_n hx hb dJ_numberOfLeadingZeros_69 rfl (lv_at hl 1 rfl) ?_
        refine lv_iconst (v := 2) hx hb dJ_numberOfLeadingZeros_70 (by decide) ?_
        refine lv_iushr (v := db_ushr (nI (a / 65536)) (2)) hx hb dJ_numberOfLeadingZeros_71 rfl ?_
        refine lv_topi (nm_r (show (db_ushr (nI (a / 65536)) (2) : Int32) = nI ((a / 65536) / 4) from (pk_ushrN (n := a / 65536) (by omega) 2 2 (by decide))) ?_)
        refine lv_istore_n (lv' := [(0, .int (nI ((a / 65536) / 4))), (1, .int (13))]) hx hb dJ_numberOfLeadingZeros_72 rfl hl (by decide) rfl (fun ls hl => ?_)
        refine lv_iload_n hx hb dJ_numberOfLeadingZeros_73 rfl (lv_at hl 1 rfl) ?_
        refine lv_iload_n hx hb dJ_numberOfLeadingZeros_74 rfl (lv_at hl 0 rfl) ?_
        refine lv_iconst (v := 1) hx hb dJ_numberOfLeadingZeros_75 (by decide) ?_
        refine lv_iushr (v := db_ushr (nI ((a / 65536) / 4)) (1)) hx hb dJ_numberOfLeadingZeros_76 rfl ?_
        refine lv_topi (nm_r (show (db_ushr (nI ((a / 65536) / 4)) (1) : Int32) = nI (((a / 65536) / 4) / 2) from (pk_ushrN (n := (a / 65536) / 4) (by omega) 1 1 (by decide))) ?_)
        refine lv_isub hx hb dJ_numberOfLeadingZeros_77 ?_
        subst hQ
        exact dw_iret hx hb hr hG (()) rfl (db_lz_of (a := a) (s := 18) (b := (a / 65536) / 4) ha (by omega) (by omega) (by omega) (by omega)) dJ_numberOfLeadingZeros_78 hlocks
      replace h51 : ¬ a / 65536 < 16 := fun hq0 => h51 ((nI_ltI (a := a / 65536) (b := 16) (by omega) (by omega)).mpr hq0)
      refine lv_iinc (v := 11) (lv' := [(1, .int (11)), (0, .int (nI (a / 65536)))]) hx hb dJ_numberOfLeadingZeros_54 hl (k := 1) rfl (by decide) (by decide) rfl (fun ls hl => ?_)
      refine lv_iload_n hx hb dJ_numberOfLeadingZeros_57 rfl (lv_at hl 1 rfl) ?_
      refine lv_iconst (v := 4) hx hb dJ_numberOfLeadingZeros_58 (by decide) ?_
      refine lv_iushr (v := db_ushr (nI (a / 65536)) (4)) hx hb dJ_numberOfLeadingZeros_59 rfl ?_
      refine lv_topi (nm_r (show (db_ushr (nI (a / 65536)) (4) : Int32) = nI ((a / 65536) / 16) from (pk_ushrN (n := a / 65536) (by omega) 4 4 (by decide))) ?_)
      refine lv_istore_n (lv' := [(0, .int (nI ((a / 65536) / 16))), (1, .int (11))]) hx hb dJ_numberOfLeadingZeros_60 rfl hl (by decide) rfl (fun ls hl => ?_)
      refine lv_iload_n hx hb dJ_numberOfLeadingZeros_61 rfl (lv_at hl 0 rfl) ?_
      refine lv_iconst (v := 4) hx hb dJ_numberOfLeadingZeros_62 (by decide) ?_
      refine lv_icmp_lt (tgt := 73) hx hb dJ_numberOfLeadingZeros_63 (by decide) (fun h63 => ?_) (fun h63 => ?_)
      · skip
        replace h63 := (nI_ltI (a := (a / 65536) / 16) (b := 4) (by omega) (by omega)).mp h63
        refine lv_iload_n hx hb dJ_numberOfLeadingZeros_73 rfl (lv_at hl 1 rfl) ?_
        refine lv_iload_n hx hb dJ_numberOfLeadingZeros_74 rfl (lv_at hl 0 rfl) ?_
        refine lv_iconst (v := 1) hx hb dJ_numberOfLeadingZeros_75 (by decide) ?_
        refine lv_iushr (v := db_ushr (nI ((a / 65536) / 16)) (1)) hx hb dJ_numberOfLeadingZeros_76 rfl ?_
        refine lv_topi (nm_r (show (db_ushr (nI ((a / 65536) / 16)) (1) : Int32) = nI (((a / 65536) / 16) / 2) from (pk_ushrN (n := (a / 65536) / 16) (by omega) 1 1 (by decide))) ?_)
        refine lv_isub hx hb dJ_numberOfLeadingZeros_77 ?_
        subst hQ
        exact dw_iret hx hb hr hG (()) rfl (db_lz_of (a := a) (s := 20) (b := (a / 65536) / 16) ha (by omega) (by omega) (by omega) (by omega)) dJ_numberOfLeadingZeros_78 hlocks
      replace h63 : ¬ (a / 65536) / 16 < 4 := fun hq0 => h63 ((nI_ltI (a := (a / 65536) / 16) (b := 4) (by omega) (by omega)).mpr hq0)
      refine lv_iinc (v := 9) (lv' := [(1, .int (9)), (0, .int (nI ((a / 65536) / 16)))]) hx hb dJ_numberOfLeadingZeros_66 hl (k := 1) rfl (by decide) (by decide) rfl (fun ls hl => ?_)
      refine lv_iload_n hx hb dJ_numberOfLeadingZeros_69 rfl (lv_at hl 1 rfl) ?_
      refine lv_iconst (v := 2) hx hb dJ_numberOfLeadingZeros_70 (by decide) ?_
      refine lv_iushr (v := db_ushr (nI ((a / 65536) / 16)) (2)) hx hb dJ_numberOfLeadingZeros_71 rfl ?_
      refine lv_topi (nm_r (show (db_ushr (nI ((a / 65536) / 16)) (2) : Int32) = nI (((a / 65536) / 16) / 4) from (pk_ushrN (n := (a / 65536) / 16) (by omega) 2 2 (by decide))) ?_)
      refine lv_istore_n (lv' := [(0, .int (nI (((a / 65536) / 16) / 4))), (1, .int (9))]) hx hb dJ_numberOfLeadingZeros_72 rfl hl (by decide) rfl (fun ls hl => ?_)
      refine lv_iload_n hx hb dJ_numberOfLeadingZeros_73 rfl (lv_at hl 1 rfl) ?_
      refine lv_iload_n hx hb dJ_numberOfLeadingZeros_74 rfl (lv_at hl 0 rfl) ?_
      refine lv_iconst (v := 1) hx hb dJ_numberOfLeadingZeros_75 (by decide) ?_
      refine lv_iushr (v := db_ushr (nI (((a / 65536) / 16) / 4)) (1)) hx hb dJ_numberOfLeadingZeros_76 rfl ?_
      refine lv_topi (nm_r (show (db_ushr (nI (((a / 65536) / 16) / 4)) (1) : Int32) = nI ((((a / 65536) / 16) / 4) / 2) from (pk_ushrN (n := ((a / 65536) / 16) / 4) (by omega) 1 1 (by decide))) ?_)
      refine lv_isub hx hb dJ_numberOfLeadingZeros_77 ?_
      subst hQ
      exact dw_iret hx hb hr hG (()) rfl (db_lz_of (a := a) (s := 22) (b := ((a / 65536) / 16) / 4) ha (by omega) (by omega) (by omega) (by omega)) dJ_numberOfLeadingZeros_78 hlocks
    replace h37 : ¬ a / 65536 < 256 := fun hq0 => h37 ((nI_ltI (a := a / 65536) (b := 256) (by omega) (by omega)).mpr hq0)
    refine lv_iinc (v := 7) (lv' := [(1, .int (7)), (0, .int (nI (a / 65536)))]) hx hb dJ_numberOfLeadingZeros_40 hl (k := 1) rfl (by decide) (by decide) rfl (fun ls hl => ?_)
    refine lv_iload_n hx hb dJ_numberOfLeadingZeros_43 rfl (lv_at hl 1 rfl) ?_
    refine lv_bipush (v := 8) hx hb dJ_numberOfLeadingZeros_44 (by decide) ?_
    refine lv_iushr (v := db_ushr (nI (a / 65536)) (8)) hx hb dJ_numberOfLeadingZeros_46 rfl ?_
    refine lv_topi (nm_r (show (db_ushr (nI (a / 65536)) (8) : Int32) = nI ((a / 65536) / 256) from (pk_ushrN (n := a / 65536) (by omega) 8 8 (by decide))) ?_)
    refine lv_istore_n (lv' := [(0, .int (nI ((a / 65536) / 256))), (1, .int (7))]) hx hb dJ_numberOfLeadingZeros_47 rfl hl (by decide) rfl (fun ls hl => ?_)
    refine lv_iload_n hx hb dJ_numberOfLeadingZeros_48 rfl (lv_at hl 0 rfl) ?_
    refine lv_bipush (v := 16) hx hb dJ_numberOfLeadingZeros_49 (by decide) ?_
    refine lv_icmp_lt (tgt := 61) hx hb dJ_numberOfLeadingZeros_51 (by decide) (fun h51 => ?_) (fun h51 => ?_)
    · skip
      replace h51 := (nI_ltI (a := (a / 65536) / 256) (b := 16) (by omega) (by omega)).mp h51
      refine lv_iload_n hx hb dJ_numberOfLeadingZeros_61 rfl (lv_at hl 0 rfl) ?_
      refine lv_iconst (v := 4) hx hb dJ_numberOfLeadingZeros_62 (by decide) ?_
      refine lv_icmp_lt (tgt := 73) hx hb dJ_numberOfLeadingZeros_63 (by decide) (fun h63 => ?_) (fun h63 => ?_)
      · skip
        replace h63 := (nI_ltI (a := (a / 65536) / 256) (b := 4) (by omega) (by omega)).mp h63
        refine lv_iload_n hx hb dJ_numberOfLeadingZeros_73 rfl (lv_at hl 1 rfl) ?_
        refine lv_iload_n hx hb dJ_numberOfLeadingZeros_74 rfl (lv_at hl 0 rfl) ?_
        refine lv_iconst (v := 1) hx hb dJ_numberOfLeadingZeros_75 (by decide) ?_
        refine lv_iushr (v := db_ushr (nI ((a / 65536) / 256)) (1)) hx hb dJ_numberOfLeadingZeros_76 rfl ?_
        refine lv_topi (nm_r (show (db_ushr (nI ((a / 65536) / 256)) (1) : Int32) = nI (((a / 65536) / 256) / 2) from (pk_ushrN (n := (a / 65536) / 256) (by omega) 1 1 (by decide))) ?_)
        refine lv_isub hx hb dJ_numberOfLeadingZeros_77 ?_
        subst hQ
        exact dw_iret hx hb hr hG (()) rfl (db_lz_of (a := a) (s := 24) (b := (a / 65536) / 256) ha (by omega) (by omega) (by omega) (by omega)) dJ_numberOfLeadingZeros_78 hlocks
      replace h63 : ¬ (a / 65536) / 256 < 4 := fun hq0 => h63 ((nI_ltI (a := (a / 65536) / 256) (b := 4) (by omega) (by omega)).mpr hq0)
      refine lv_iinc (v := 5) (lv' := [(1, .int (5)), (0, .int (nI ((a / 65536) / 256)))]) hx hb dJ_numberOfLeadingZeros_66 hl (k := 1) rfl (by decide) (by decide) rfl (fun ls hl => ?_)
      refine lv_iload_n hx hb dJ_numberOfLeadingZeros_69 rfl (lv_at hl 1 rfl) ?_
      refine lv_iconst (v := 2) hx hb dJ_numberOfLeadingZeros_70 (by decide) ?_
      refine lv_iushr (v := db_ushr (nI ((a / 65536) / 256)) (2)) hx hb dJ_numberOfLeadingZeros_71 rfl ?_
      refine lv_topi (nm_r (show (db_ushr (nI ((a / 65536) / 256)) (2) : Int32) = nI (((a / 65536) / 256) / 4) from (pk_ushrN (n := (a / 65536) / 256) (by omega) 2 2 (by decide))) ?_)
      refine lv_istore_n (lv' := [(0, .int (nI (((a / 65536) / 256) / 4))), (1, .int (5))]) hx hb dJ_numberOfLeadingZeros_72 rfl hl (by decide) rfl (fun ls hl => ?_)
      refine lv_iload_n hx hb dJ_numberOfLeadingZeros_73 rfl (lv_at hl 1 rfl) ?_
      refine lv_iload_n hx hb dJ_numberOfLeadingZeros_74 rfl (lv_at hl 0 rfl) ?_
      refine lv_iconst (v := 1) hx hb dJ_numberOfLeadingZeros_75 (by decide) ?_
      refine lv_iushr (v := db_ushr (nI (((a / 65536) / 256) / 4)) (1)) hx hb dJ_numberOfLeadingZeros_76 rfl ?_
      refine lv_topi (nm_r (show (db_ushr (nI (((a / 65536) / 256) / 4)) (1) : Int32) = nI ((((a / 65536) / 256) / 4) / 2) from (pk_ushrN (n := ((a / 65536) / 256) / 4) (by omega) 1 1 (by decide))) ?_)
      refine lv_isub hx hb dJ_numberOfLeadingZeros_77 ?_
      subst hQ
      exact dw_iret hx hb hr hG (()) rfl (db_lz_of (a := a) (s := 26) (b := ((a / 65536) / 256) / 4) ha (by omega) (by omega) (by omega) (by omega)) dJ_numberOfLeadingZeros_78 hlocks
    replace h51 : ¬ (a / 65536) / 256 < 16 := fun hq0 => h51 ((nI_ltI (a := (a / 65536) / 256) (b := 16) (by omega) (by omega)).mpr hq0)
    refine lv_iinc (v := 3) (lv' := [(1, .int (3)), (0, .int (nI ((a / 65536) / 256)))]) hx hb dJ_numberOfLeadingZeros_54 hl (k := 1) rfl (by decide) (by decide) rfl (fun ls hl => ?_)
    refine lv_iload_n hx hb dJ_numberOfLeadingZeros_57 rfl (lv_at hl 1 rfl) ?_
    refine lv_iconst (v := 4) hx hb dJ_numberOfLeadingZeros_58 (by decide) ?_
    refine lv_iushr (v := db_ushr (nI ((a / 65536) / 256)) (4)) hx hb dJ_numberOfLeadingZeros_59 rfl ?_
    refine lv_topi (nm_r (show (db_ushr (nI ((a / 65536) / 256)) (4) : Int32) = nI (((a / 65536) / 256) / 16) from (pk_ushrN (n := (a / 65536) / 256) (by omega) 4 4 (by decide))) ?_)
    refine lv_istore_n (lv' := [(0, .int (nI (((a / 65536) / 256) / 16))), (1, .int (3))]) hx hb dJ_numberOfLeadingZeros_60 rfl hl (by decide) rfl (fun ls hl => ?_)
    refine lv_iload_n hx hb dJ_numberOfLeadingZeros_61 rfl (lv_at hl 0 rfl) ?_
    refine lv_iconst (v := 4) hx hb dJ_numberOfLeadingZeros_62 (by decide) ?_
    refine lv_icmp_lt (tgt := 73) hx hb dJ_numberOfLeadingZeros_63 (by decide) (fun h63 => ?_) (fun h63 => ?_)
    · skip
      replace h63 := (nI_ltI (a := ((a / 65536) / 256) / 16) (b := 4) (by omega) (by omega)).mp h63
      refine lv_iload_n hx hb dJ_numberOfLeadingZeros_73 rfl (lv_at hl 1 rfl) ?_
      refine lv_iload_n hx hb dJ_numberOfLeadingZeros_74 rfl (lv_at hl 0 rfl) ?_
      refine lv_iconst (v := 1) hx hb dJ_numberOfLeadingZeros_75 (by decide) ?_
      refine lv_iushr (v := db_ushr (nI (((a / 65536) / 256) / 16)) (1)) hx hb dJ_numberOfLeadingZeros_76 rfl ?_
      refine lv_topi (nm_r (show (db_ushr (nI (((a / 65536) / 256) / 16)) (1) : Int32) = nI ((((a / 65536) / 256) / 16) / 2) from (pk_ushrN (n := ((a / 65536) / 256) / 16) (by omega) 1 1 (by decide))) ?_)
      refine lv_isub hx hb dJ_numberOfLeadingZeros_77 ?_
      subst hQ
      exact dw_iret hx hb hr hG (()) rfl (db_lz_of (a := a) (s := 28) (b := ((a / 65536) / 256) / 16) ha (by omega) (by omega) (by omega) (by omega)) dJ_numberOfLeadingZeros_78 hlocks
    replace h63 : ¬ ((a / 65536) / 256) / 16 < 4 := fun hq0 => h63 ((nI_ltI (a := ((a / 65536) / 256) / 16) (b := 4) (by omega) (by omega)).mpr hq0)
    refine lv_iinc (v := 1) (lv' := [(1, .int (1)), (0, .int (nI (((a / 65536) / 256) / 16)))]) hx hb dJ_numberOfLeadingZeros_66 hl (k := 1) rfl (by decide) (by decide) rfl (fun ls hl => ?_)
    refine lv_iload_n hx hb dJ_numberOfLeadingZeros_69 rfl (lv_at hl 1 rfl) ?_
    refine lv_iconst (v := 2) hx hb dJ_numberOfLeadingZeros_70 (by decide) ?_
    refine lv_iushr (v := db_ushr (nI (((a / 65536) / 256) / 16)) (2)) hx hb dJ_numberOfLeadingZeros_71 rfl ?_
    refine lv_topi (nm_r (show (db_ushr (nI (((a / 65536) / 256) / 16)) (2) : Int32) = nI ((((a / 65536) / 256) / 16) / 4) from (pk_ushrN (n := ((a / 65536) / 256) / 16) (by omega) 2 2 (by decide))) ?_)
    refine lv_istore_n (lv' := [(0, .int (nI ((((a / 65536) / 256) / 16) / 4))), (1, .int (1))]) hx hb dJ_numberOfLeadingZeros_72 rfl hl (by decide) rfl (fun ls hl => ?_)
    refine lv_iload_n hx hb dJ_numberOfLeadingZeros_73 rfl (lv_at hl 1 rfl) ?_
    refine lv_iload_n hx hb dJ_numberOfLeadingZeros_74 rfl (lv_at hl 0 rfl) ?_
    refine lv_iconst (v := 1) hx hb dJ_numberOfLeadingZeros_75 (by decide) ?_
    refine lv_iushr (v := db_ushr (nI ((((a / 65536) / 256) / 16) / 4)) (1)) hx hb dJ_numberOfLeadingZeros_76 rfl ?_
    refine lv_topi (nm_r (show (db_ushr (nI ((((a / 65536) / 256) / 16) / 4)) (1) : Int32) = nI (((((a / 65536) / 256) / 16) / 4) / 2) from (pk_ushrN (n := (((a / 65536) / 256) / 16) / 4) (by omega) 1 1 (by decide))) ?_)
    refine lv_isub hx hb dJ_numberOfLeadingZeros_77 ?_
    subst hQ
    exact dw_iret hx hb hr hG (()) rfl (db_lz_of (a := a) (s := 30) (b := (((a / 65536) / 256) / 16) / 4) ha (by omega) (by omega) (by omega) (by omega)) dJ_numberOfLeadingZeros_78 hlocks
  replace h1 : ¬ 0 < a := fun hq0 => h1 ((nI_ltI (a := 0) (b := a) (by omega) (by omega)).mpr hq0)
  (exfalso; omega)

theorem jd_lz (l : Launch) (dC : Nat → ClassId) (dI : Nat → Nat → Nat) (cI cZ : ClassId) (x : Int32) (sz : Nat) : Met l yJ_numberOfLeadingZeros wsJ_numberOfLeadingZeros { frames := 0, cells := 0, slots := 0, locals := 0 } (va_Pc [.int x] (dw_pre (dC, dI) vwCl [] [(cI, .int), (cZ, .boolean)] sz)) (va_Qi (fun (r : Int32) (u : Unit) => r = nI (db_lz x)) (fun u t => dw_post (dC, dI) vwCl [] [(cI, .int), (cZ, .boolean)] (va_A [] sz) t) (va_A [] sz)) 0 0 (va_A [] sz) := by
  by_cases h : x < 0
  · exact jd_lz_n l dC dI cI cZ x sz h
  obtain ⟨a, ha, rfl⟩ := nI_of h
  rcases Nat.eq_zero_or_pos a with e | e
  · subst e; exact jd_lz_0 l dC dI cI cZ sz
  · exact jd_lz_p l dC dI cI cZ a sz e (by omega)

set_option maxRecDepth 100000 in
set_option maxHeartbeats 4000000 in
theorem jd_tz (l : Launch) (dC : Nat → ClassId) (dI : Nat → Nat → Nat) (cI cZ : ClassId) (x : Int32) (sz : Nat)  : Met l yJ_numberOfTrailingZeros wsJ_numberOfTrailingZeros { frames := 0, cells := 0, slots := 0, locals := 0 } (va_Pc [.int (x)] (dw_pre (dC, dI) vwCl [] [(cI, .int), (cZ, .boolean)] sz)) (va_Qi (fun (r : Int32) (u : Unit) => r = nI (db_tz x)) (fun u t => dw_post (dC, dI) vwCl [] [(cI, .int), (cZ, .boolean)] (va_A [] sz) t) (va_A [] sz)) 0 0 (va_A [] sz) := by
  refine Met.ofW (cc := cJ_numberOfTrailingZeros) (maxL := 2) (ret := (some .int)) (by decide) rfl ?_
  intro p e s m args below meth c s₁ B hml hv0
  have hx := B.exec
  have hb := B.bytes
  have hr := B.returns
  have hts := atoms_spec (ws := wsJ_numberOfTrailingZeros) B.pre
  have hown : s.vm.findClass RJ = some m.cls := findClass_of_methodNamed B.named
  have hlocks := B.notSynchronized
  obtain ⟨rfl, hsz, hG⟩ := dw_enter hv0
  generalize va_A [] sz = A at hG ⊢
  have hl := lv_entry ([.int (x)]) (n := 2) (Nat.le_of_ble_eq_true rfl)
  rw [lg_entry_eq]
  generalize (lg_sl ([.int (x)]) ++ List.replicate (2 - (lg_sl ([.int (x)])).length) Slot.unset).toArray = ls at hl ⊢
  have hl : lv_has ls 2 [(0, .int (x))] := hl
  have hw204 := hts _ (List.mem_cons_of_mem _ tw_204)
  refine dw_Q (fun Q hQ => ?_)
  suffices hgo : ∀ (H : Heap) (locs : List Loc), dw_G (dC, dI) vwCl [(cI, .int), (cZ, .boolean)] A s.heap s [] H locs → W p l e (headSpec wsJ_numberOfTrailingZeros { frames := 0, cells := 0, slots := 0, locals := 0 }).room s m [.int (x)].toArray below meth c H locs 0 0 Q (F0 m 0 ls []) from hgo _ _ hG
  clear hG
  intro H locs hG
  refine lv_iload_n hx hb dJ_numberOfTrailingZeros_0 rfl (lv_at hl 0 rfl) ?_
  refine lv_iconst (v := -1) hx hb dJ_numberOfTrailingZeros_1 (by decide) ?_
  refine lv_ixor hx hb dJ_numberOfTrailingZeros_2 ?_
  refine lv_iload_n hx hb dJ_numberOfTrailingZeros_3 rfl (lv_at hl 0 rfl) ?_
  refine lv_iconst (v := 1) hx hb dJ_numberOfTrailingZeros_4 (by decide) ?_
  refine lv_isub hx hb dJ_numberOfTrailingZeros_5 ?_
  refine lv_iand hx hb dJ_numberOfTrailingZeros_6 ?_
  refine lv_istore_n (lv' := [(0, .int (((x) ^^^ (-1)) &&& ((x) - (1))))]) hx hb dJ_numberOfTrailingZeros_7 rfl hl (by decide) rfl (fun ls hl => ?_)
  by_cases hx0 : x = 0
  · have e5 : ((x) ^^^ (-1)) &&& ((x) - (1)) = -1 := by rw [hx0]; decide
    rw [e5] at hl
    refine lv_iload_n hx hb dJ_numberOfTrailingZeros_8 rfl (lv_at hl 0 rfl) ?_
    refine lv_if_gt (tgt := 17) hx hb dJ_numberOfTrailingZeros_9 (by decide) (fun h9 => ?_) (fun h9 => ?_)
    · skip
      exact absurd h9 (by decide)
    refine lv_iload_n hx hb dJ_numberOfTrailingZeros_12 rfl (lv_at hl 0 rfl) ?_
    refine lv_bipush (v := 32) hx hb dJ_numberOfTrailingZeros_13 (by decide) ?_
    refine lv_iand hx hb dJ_numberOfTrailingZeros_15 ?_
    subst hQ
    exact dw_iret hx hb hr hG (()) rfl (by rw [hx0, db_tz_00]; decide) dJ_numberOfTrailingZeros_16 hlocks
  have ht := db_tz_lt32 hx0
  have e5 : ((x) ^^^ (-1)) &&& ((x) - (1)) = nI (2 ^ db_tz x - 1) := db_tz_mask hx0
  rw [e5] at hl
  obtain ⟨a, ea⟩ : ∃ a, a = 2 ^ db_tz x - 1 := ⟨_, rfl⟩
  have ha : a < 4294967296 := by have := Nat.pow_lt_pow_right (a := 2) (by omega) ht; omega
  have ha2 : a < 2147483648 := by have := Nat.pow_le_pow_right (n := 2) (by omega) (show db_tz x ≤ 31 by omega); omega
  rw [← ea] at hl
  refine lv_iload_n hx hb dJ_numberOfTrailingZeros_8 rfl (lv_at hl 0 rfl) ?_
  refine lv_if_gt (tgt := 17) hx hb dJ_numberOfTrailingZeros_9 (by decide) (fun h9 => ?_) (fun h9 => ?_)
  · skip
    replace h9 := (nI_ltI (a := 0) (b := a) (by omega) (by omega)).mp h9
    refine lv_iconst (v := 1) hx hb dJ_numberOfTrailingZeros_17 (by decide) ?_
    refine lv_istore_n (lv' := [(1, .int (1)), (0, .int (nI (a)))]) hx hb dJ_numberOfTrailingZeros_18 rfl hl (by decide) rfl (fun ls hl => ?_)
    refine lv_iload_n hx hb dJ_numberOfTrailingZeros_19 rfl (lv_at hl 1 rfl) ?_
    refine lv_ldcw (v := 65536) hx hb hown hw204 dJ_numberOfTrailingZeros_20 ?_
    refine lv_icmp_le (tgt := 34) hx hb dJ_numberOfTrailingZeros_23 (by decide) (fun h23 => ?_) (fun h23 => ?_)
    · skip
      replace h23 := (nI_leI (a := a) (b := 65536) (by omega) (by omega)).mp h23
      refine lv_iload_n hx hb dJ_numberOfTrailingZeros_34 rfl (lv_at hl 1 rfl) ?_
      refine lv_sipush (v := 256) hx hb dJ_numberOfTrailingZeros_35 (by decide) ?_
      refine lv_icmp_le (tgt := 49) hx hb dJ_numberOfTrailingZeros_38 (by decide) (fun h38 => ?_) (fun h38 => ?_)
      · skip
        replace h38 := (nI_leI (a := a) (b := 256) (by omega) (by omega)).mp h38
        refine lv_iload_n hx hb dJ_numberOfTrailingZeros_49 rfl (lv_at hl 1 rfl) ?_
        refine lv_bipush (v := 16) hx hb dJ_numberOfTrailingZeros_50 (by decide) ?_
        refine lv_icmp_le (tgt := 62) hx hb dJ_numberOfTrailingZeros_52 (by decide) (fun h52 => ?_) (fun h52 => ?_)
        · skip
          replace h52 := (nI_leI (a := a) (b := 16) (by omega) (by omega)).mp h52
          refine lv_iload_n hx hb dJ_numberOfTrailingZeros_62 rfl (lv_at hl 1 rfl) ?_
          refine lv_iconst (v := 4) hx hb dJ_numberOfTrailingZeros_63 (by decide) ?_
          refine lv_icmp_le (tgt := 74) hx hb dJ_numberOfTrailingZeros_64 (by decide) (fun h64 => ?_) (fun h64 => ?_)
          · skip
            replace h64 := (nI_leI (a := a) (b := 4) (by omega) (by omega)).mp h64
            refine lv_iload_n hx hb dJ_numberOfTrailingZeros_74 rfl (lv_at hl 0 rfl) ?_
            refine lv_iload_n hx hb dJ_numberOfTrailingZeros_75 rfl (lv_at hl 1 rfl) ?_
            refine lv_iconst (v := 1) hx hb dJ_numberOfTrailingZeros_76 (by decide) ?_
            refine lv_iushr (v := db_ushr (nI (a)) (1)) hx hb dJ_numberOfTrailingZeros_77 rfl ?_
            refine lv_topi (nm_r (show (db_ushr (nI (a)) (1) : Int32) = nI (a / 2) from (pk_ushrN (n := a) (by omega) 1 1 (by decide))) ?_)
            refine lv_iadd hx hb dJ_numberOfTrailingZeros_78 ?_
            refine lv_topi (nm_r (show ((1) + (nI (a / 2)) : Int32) = nI (1 + (a / 2)) from nI_add (1) (a / 2)) ?_)
            subst hQ
            exact dw_iret hx hb hr hG (()) rfl (by have et : 1 ≤ db_tz x := (by rcases Nat.eq_zero_or_pos (db_tz x) with q | q; rw [q] at ea; omega; exact q); have e9 := db_ctz_eq et ht; rw [← ea] at e9; rw [← e9]; simp only [db_ctz, Nat.not_lt.mpr h23, if_true, if_false, Nat.not_lt.mpr h38, if_true, if_false, Nat.not_lt.mpr h52, if_true, if_false, Nat.not_lt.mpr h64, if_true, if_false]) dJ_numberOfTrailingZeros_79 hlocks
          replace h64 : ¬ a ≤ 4 := fun hq0 => h64 ((nI_leI (a := a) (b := 4) (by omega) (by omega)).mpr hq0)
          refine lv_iinc (v := 3) (lv' := [(1, .int (3)), (0, .int (nI (a)))]) hx hb dJ_numberOfTrailingZeros_67 hl (k := 0) rfl (by decide) (by decide) rfl (fun ls hl => ?_)
          refine lv_iload_n hx hb dJ_numberOfTrailingZeros_70 rfl (lv_at hl 1 rfl) ?_
          refine lv_iconst (v := 2) hx hb dJ_numberOfTrailingZeros_71 (by decide) ?_
          refine lv_iushr (v := db_ushr (nI (a)) (2)) hx hb dJ_numberOfTrailingZeros_72 rfl ?_
          refine lv_topi (nm_r (show (db_ushr (nI (a)) (2) : Int32) = nI (a / 4) from (pk_ushrN (n := a) (by omega) 2 2 (by decide))) ?_)
          refine lv_istore_n (lv' := [(0, .int (nI (a / 4))), (1, .int (3))]) hx hb dJ_numberOfTrailingZeros_73 rfl hl (by decide) rfl (fun ls hl => ?_)
          refine lv_iload_n hx hb dJ_numberOfTrailingZeros_74 rfl (lv_at hl 1 rfl) ?_
          refine lv_iload_n hx hb dJ_numberOfTrailingZeros_75 rfl (lv_at hl 0 rfl) ?_
          refine lv_iconst (v := 1) hx hb dJ_numberOfTrailingZeros_76 (by decide) ?_
          refine lv_iushr (v := db_ushr (nI (a / 4)) (1)) hx hb dJ_numberOfTrailingZeros_77 rfl ?_
          refine lv_topi (nm_r (show (db_ushr (nI (a / 4)) (1) : Int32) = nI ((a / 4) / 2) from (pk_ushrN (n := a / 4) (by omega) 1 1 (by decide))) ?_)
          refine lv_iadd hx hb dJ_numberOfTrailingZeros_78 ?_
          refine lv_topi (nm_r (show ((3) + (nI ((a / 4) / 2)) : Int32) = nI (3 + ((a / 4) / 2)) from nI_add (3) ((a / 4) / 2)) ?_)
          subst hQ
          exact dw_iret hx hb hr hG (()) rfl (by have et : 1 ≤ db_tz x := (by rcases Nat.eq_zero_or_pos (db_tz x) with q | q; rw [q] at ea; omega; exact q); have e9 := db_ctz_eq et ht; rw [← ea] at e9; rw [← e9]; simp only [db_ctz, Nat.not_lt.mpr h23, if_true, if_false, Nat.not_lt.mpr h38, if_true, if_false, Nat.not_lt.mpr h52, if_true, if_false, Nat.not_le.mp h64, if_true, if_false]) dJ_numberOfTrailingZeros_79 hlocks
        replace h52 : ¬ a ≤ 16 := fun hq0 => h52 ((nI_leI (a := a) (b := 16) (by omega) (by omega)).mpr hq0)
        refine lv_iinc (v := 5) (lv' := [(1, .int (5)), (0, .int (nI (a)))]) hx hb dJ_numberOfTrailingZeros_55 hl (k := 0) rfl (by decide) (by decide) rfl (fun ls hl => ?_)
        refine lv_iload_n hx hb dJ_numberOfTrailingZeros_58 rfl (lv_at hl 1 rfl) ?_
        refine lv_iconst (v := 4) hx hb dJ_numberOfTrailingZeros_59 (by decide) ?_
        refine lv_iushr (v := db_ushr (nI (a)) (4)) hx hb dJ_numberOfTrailingZeros_60 rfl ?_
        refine lv_topi (nm_r (show (db_ushr (nI (a)) (4) : Int32) = nI (a / 16) from (pk_ushrN (n := a) (by omega) 4 4 (by decide))) ?_)
        refine lv_istore_n (lv' := [(0, .int (nI (a / 16))), (1, .int (5))]) hx hb dJ_numberOfTrailingZeros_61 rfl hl (by decide) rfl (fun ls hl => ?_)
        refine lv_iload_n hx hb dJ_numberOfTrailingZeros_62 rfl (lv_at hl 0 rfl) ?_
        refine lv_iconst (v := 4) hx hb dJ_numberOfTrailingZeros_63 (by decide) ?_
        refine lv_icmp_le (tgt := 74) hx hb dJ_numberOfTrailingZeros_64 (by decide) (fun h64 => ?_) (fun h64 => ?_)
        · skip
          replace h64 := (nI_leI (a := a / 16) (b := 4) (by omega) (by omega)).mp h64
          refine lv_iload_n hx hb dJ_numberOfTrailingZeros_74 rfl (lv_at hl 1 rfl) ?_
          refine lv_iload_n hx hb dJ_numberOfTrailingZeros_75 rfl (lv_at hl 0 rfl) ?_
          refine lv_iconst (v := 1) hx hb dJ_numberOfTrailingZeros_76 (by decide) ?_
          refine lv_iushr (v := db_ushr (nI (a / 16)) (1)) hx hb dJ_numberOfTrailingZeros_77 rfl ?_
          refine lv_topi (nm_r (show (db_ushr (nI (a / 16)) (1) : Int32) = nI ((a / 16) / 2) from (pk_ushrN (n := a / 16) (by omega) 1 1 (by decide))) ?_)
          refine lv_iadd hx hb dJ_numberOfTrailingZeros_78 ?_
          refine lv_topi (nm_r (show ((5) + (nI ((a / 16) / 2)) : Int32) = nI (5 + ((a / 16) / 2)) from nI_add (5) ((a / 16) / 2)) ?_)
          subst hQ
          exact dw_iret hx hb hr hG (()) rfl (by have et : 1 ≤ db_tz x := (by rcases Nat.eq_zero_or_pos (db_tz x) with q | q; rw [q] at ea; omega; exact q); have e9 := db_ctz_eq et ht; rw [← ea] at e9; rw [← e9]; simp only [db_ctz, Nat.not_lt.mpr h23, if_true, if_false, Nat.not_lt.mpr h38, if_true, if_false, Nat.not_le.mp h52, if_true, if_false, Nat.not_lt.mpr h64, if_true, if_false]) dJ_numberOfTrailingZeros_79 hlocks
        replace h64 : ¬ a / 16 ≤ 4 := fun hq0 => h64 ((nI_leI (a := a / 16) (b := 4) (by omega) (by omega)).mpr hq0)
        refine lv_iinc (v := 7) (lv' := [(1, .int (7)), (0, .int (nI (a / 16)))]) hx hb dJ_numberOfTrailingZeros_67 hl (k := 1) rfl (by decide) (by decide) rfl (fun ls hl => ?_)
        refine lv_iload_n hx hb dJ_numberOfTrailingZeros_70 rfl (lv_at hl 1 rfl) ?_
        refine lv_iconst (v := 2) hx hb dJ_numberOfTrailingZeros_71 (by decide) ?_
        refine lv_iushr (v := db_ushr (nI (a / 16)) (2)) hx hb dJ_numberOfTrailingZeros_72 rfl ?_
        refine lv_topi (nm_r (show (db_ushr (nI (a / 16)) (2) : Int32) = nI ((a / 16) / 4) from (pk_ushrN (n := a / 16) (by omega) 2 2 (by decide))) ?_)
        refine lv_istore_n (lv' := [(0, .int (nI ((a / 16) / 4))), (1, .int (7))]) hx hb dJ_numberOfTrailingZeros_73 rfl hl (by decide) rfl (fun ls hl => ?_)
        refine lv_iload_n hx hb dJ_numberOfTrailingZeros_74 rfl (lv_at hl 1 rfl) ?_
        refine lv_iload_n hx hb dJ_numberOfTrailingZeros_75 rfl (lv_at hl 0 rfl) ?_
        refine lv_iconst (v := 1) hx hb dJ_numberOfTrailingZeros_76 (by decide) ?_
        refine lv_iushr (v := db_ushr (nI ((a / 16) / 4)) (1)) hx hb dJ_numberOfTrailingZeros_77 rfl ?_
        refine lv_topi (nm_r (show (db_ushr (nI ((a / 16) / 4)) (1) : Int32) = nI (((a / 16) / 4) / 2) from (pk_ushrN (n := (a / 16) / 4) (by omega) 1 1 (by decide))) ?_)
        refine lv_iadd hx hb dJ_numberOfTrailingZeros_78 ?_
        refine lv_topi (nm_r (show ((7) + (nI (((a / 16) / 4) / 2)) : Int32) = nI (7 + (((a / 16) / 4) / 2)) from nI_add (7) (((a / 16) / 4) / 2)) ?_)
        subst hQ
        exact dw_iret hx hb hr hG (()) rfl (by have et : 1 ≤ db_tz x := (by rcases Nat.eq_zero_or_pos (db_tz x) with q | q; rw [q] at ea; omega; exact q); have e9 := db_ctz_eq et ht; rw [← ea] at e9; rw [← e9]; simp only [db_ctz, Nat.not_lt.mpr h23, if_true, if_false, Nat.not_lt.mpr h38, if_true, if_false, Nat.not_le.mp h52, if_true, if_false, Nat.not_le.mp h64, if_true, if_false]) dJ_numberOfTrailingZeros_79 hlocks
      replace h38 : ¬ a ≤ 256 := fun hq0 => h38 ((nI_leI (a := a) (b := 256) (by omega) (by omega)).mpr hq0)
      refine lv_iinc (v := 9) (lv' := [(1, .int (9)), (0, .int (nI (a)))]) hx hb dJ_numberOfTrailingZeros_41 hl (k := 0) rfl (by decide) (by decide) rfl (fun ls hl => ?_)
      refine lv_iload_n hx hb dJ_numberOfTrailingZeros_44 rfl (lv_at hl 1 rfl) ?_
      refine lv_bipush (v := 8) hx hb dJ_numberOfTrailingZeros_45 (by decide) ?_
      refine lv_iushr (v := db_ushr (nI (a)) (8)) hx hb dJ_numberOfTrailingZeros_47 rfl ?_
      refine lv_topi (nm_r (show (db_ushr (nI (a)) (8) : Int32) = nI (a / 256) from (pk_ushrN (n := a) (by omega) 8 8 (by decide))) ?_)
      refine lv_istore_n (lv' := [(0, .int (nI (a / 256))), (1, .int (9))]) hx hb dJ_numberOfTrailingZeros_48 rfl hl (by decide) rfl (fun ls hl => ?_)
      refine lv_iload_n hx hb dJ_numberOfTrailingZeros_49 rfl (lv_at hl 0 rfl) ?_
      refine lv_bipush (v := 16) hx hb dJ_numberOfTrailingZeros_50 (by decide) ?_
      refine lv_icmp_le (tgt := 62) hx hb dJ_numberOfTrailingZeros_52 (by decide) (fun h52 => ?_) (fun h52 => ?_)
      · skip
        replace h52 := (nI_leI (a := a / 256) (b := 16) (by omega) (by omega)).mp h52
        refine lv_iload_n hx hb dJ_numberOfTrailingZeros_62 rfl (lv_at hl 0 rfl) ?_
        refine lv_iconst (v := 4) hx hb dJ_numberOfTrailingZeros_63 (by decide) ?_
        refine lv_icmp_le (tgt := 74) hx hb dJ_numberOfTrailingZeros_64 (by decide) (fun h64 => ?_) (fun h64 => ?_)
        · skip
          replace h64 := (nI_leI (a := a / 256) (b := 4) (by omega) (by omega)).mp h64
          refine lv_iload_n hx hb dJ_numberOfTrailingZeros_74 rfl (lv_at hl 1 rfl) ?_
          refine lv_iload_n hx hb dJ_numberOfTrailingZeros_75 rfl (lv_at hl 0 rfl) ?_
          refine lv_iconst (v := 1) hx hb dJ_numberOfTrailingZeros_76 (by decide) ?_
          refine lv_iushr (v := db_ushr (nI (a / 256)) (1)) hx hb dJ_numberOfTrailingZeros_77 rfl ?_
          refine lv_topi (nm_r (show (db_ushr (nI (a / 256)) (1) : Int32) = nI ((a / 256) / 2) from (pk_ushrN (n := a / 256) (by omega) 1 1 (by decide))) ?_)
          refine lv_iadd hx hb dJ_numberOfTrailingZeros_78 ?_
          refine lv_topi (nm_r (show ((9) + (nI ((a / 256) / 2)) : Int32) = nI (9 + ((a / 256) / 2)) from nI_add (9) ((a / 256) / 2)) ?_)
          subst hQ
          exact dw_iret hx hb hr hG (()) rfl (by have et : 1 ≤ db_tz x := (by rcases Nat.eq_zero_or_pos (db_tz x) with q | q; rw [q] at ea; omega; exact q); have e9 := db_ctz_eq et ht; rw [← ea] at e9; rw [← e9]; simp only [db_ctz, Nat.not_lt.mpr h23, if_true, if_false, Nat.not_le.mp h38, if_true, if_false, Nat.not_lt.mpr h52, if_true, if_false, Nat.not_lt.mpr h64, if_true, if_false]) dJ_numberOfTrailingZeros_79 hlocks
        replace h64 : ¬ a / 256 ≤ 4 := fun hq0 => h64 ((nI_leI (a := a / 256) (b := 4) (by omega) (by omega)).mpr hq0)
        refine lv_iinc (v := 11) (lv' := [(1, .int (11)), (0, .int (nI (a / 256)))]) hx hb dJ_numberOfTrailingZeros_67 hl (k := 1) rfl (by decide) (by decide) rfl (fun ls hl => ?_)
        refine lv_iload_n hx hb dJ_numberOfTrailingZeros_70 rfl (lv_at hl 1 rfl) ?_
        refine lv_iconst (v := 2) hx hb dJ_numberOfTrailingZeros_71 (by decide) ?_
        refine lv_iushr (v := db_ushr (nI (a / 256)) (2)) hx hb dJ_numberOfTrailingZeros_72 rfl ?_
        refine lv_topi (nm_r (show (db_ushr (nI (a / 256)) (2) : Int32) = nI ((a / 256) / 4) from (pk_ushrN (n := a / 256) (by omega) 2 2 (by decide))) ?_)
        refine lv_istore_n (lv' := [(0, .int (nI ((a / 256) / 4))), (1, .int (11))]) hx hb dJ_numberOfTrailingZeros_73 rfl hl (by decide) rfl (fun ls hl => ?_)
        refine lv_iload_n hx hb dJ_numberOfTrailingZeros_74 rfl (lv_at hl 1 rfl) ?_
        refine lv_iload_n hx hb dJ_numberOfTrailingZeros_75 rfl (lv_at hl 0 rfl) ?_
        refine lv_iconst (v := 1) hx hb dJ_numberOfTrailingZeros_76 (by decide) ?_
        refine lv_iushr (v := db_ushr (nI ((a / 256) / 4)) (1)) hx hb dJ_numberOfTrailingZeros_77 rfl ?_
        refine lv_topi (nm_r (show (db_ushr (nI ((a / 256) / 4)) (1) : Int32) = nI (((a / 256) / 4) / 2) from (pk_ushrN (n := (a / 256) / 4) (by omega) 1 1 (by decide))) ?_)
        refine lv_iadd hx hb dJ_numberOfTrailingZeros_78 ?_
        refine lv_topi (nm_r (show ((11) + (nI (((a / 256) / 4) / 2)) : Int32) = nI (11 + (((a / 256) / 4) / 2)) from nI_add (11) (((a / 256) / 4) / 2)) ?_)
        subst hQ
        exact dw_iret hx hb hr hG (()) rfl (by have et : 1 ≤ db_tz x := (by rcases Nat.eq_zero_or_pos (db_tz x) with q | q; rw [q] at ea; omega; exact q); have e9 := db_ctz_eq et ht; rw [← ea] at e9; rw [← e9]; simp only [db_ctz, Nat.not_lt.mpr h23, if_true, if_false, Nat.not_le.mp h38, if_true, if_false, Nat.not_lt.mpr h52, if_true, if_false, Nat.not_le.mp h64, if_true, if_false]) dJ_numberOfTrailingZeros_79 hlocks
      replace h52 : ¬ a / 256 ≤ 16 := fun hq0 => h52 ((nI_leI (a := a / 256) (b := 16) (by omega) (by omega)).mpr hq0)
      refine lv_iinc (v := 13) (lv' := [(1, .int (13)), (0, .int (nI (a / 256)))]) hx hb dJ_numberOfTrailingZeros_55 hl (k := 1) rfl (by decide) (by decide) rfl (fun ls hl => ?_)
      refine lv_iload_n hx hb dJ_numberOfTrailingZeros_58 rfl (lv_at hl 1 rfl) ?_
      refine lv_iconst (v := 4) hx hb dJ_numberOfTrailingZeros_59 (by decide) ?_
      refine lv_iushr (v := db_ushr (nI (a / 256)) (4)) hx hb dJ_numberOfTrailingZeros_60 rfl ?_
      refine lv_topi (nm_r (show (db_ushr (nI (a / 256)) (4) : Int32) = nI ((a / 256) / 16) from (pk_ushrN (n := a / 256) (by omega) 4 4 (by decide))) ?_)
      refine lv_istore_n (lv' := [(0, .int (nI ((a / 256) / 16))), (1, .int (13))]) hx hb dJ_numberOfTrailingZeros_61 rfl hl (by decide) rfl (fun ls hl => ?_)
      refine lv_iload_n hx hb dJ_numberOfTrailingZeros_62 rfl (lv_at hl 0 rfl) ?_
      refine lv_iconst (v := 4) hx hb dJ_numberOfTrailingZeros_63 (by decide) ?_
      refine lv_icmp_le (tgt := 74) hx hb dJ_numberOfTrailingZeros_64 (by decide) (fun h64 => ?_) (fun h64 => ?_)
      · skip
        replace h64 := (nI_leI (a := (a / 256) / 16) (b := 4) (by omega) (by omega)).mp h64
        refine lv_iload_n hx hb dJ_numberOfTrailingZeros_74 rfl (lv_at hl 1 rfl) ?_
        refine lv_iload_n hx hb dJ_numberOfTrailingZeros_75 rfl (lv_at hl 0 rfl) ?_
        refine lv_iconst (v := 1) hx hb dJ_numberOfTrailingZeros_76 (by decide) ?_
        refine lv_iushr (v := db_ushr (nI ((a / 256) / 16)) (1)) hx hb dJ_numberOfTrailingZeros_77 rfl ?_
        refine lv_topi (nm_r (show (db_ushr (nI ((a / 256) / 16)) (1) : Int32) = nI (((a / 256) / 16) / 2) from (pk_ushrN (n := (a / 256) / 16) (by omega) 1 1 (by decide))) ?_)
        refine lv_iadd hx hb dJ_numberOfTrailingZeros_78 ?_
        refine lv_topi (nm_r (show ((13) + (nI (((a / 256) / 16) / 2)) : Int32) = nI (13 + (((a / 256) / 16) / 2)) from nI_add (13) (((a / 256) / 16) / 2)) ?_)
        subst hQ
        exact dw_iret hx hb hr hG (()) rfl (by have et : 1 ≤ db_tz x := (by rcases Nat.eq_zero_or_pos (db_tz x) with q | q; rw [q] at ea; omega; exact q); have e9 := db_ctz_eq et ht; rw [← ea] at e9; rw [← e9]; simp only [db_ctz, Nat.not_lt.mpr h23, if_true, if_false, Nat.not_le.mp h38, if_true, if_false, Nat.not_le.mp h52, if_true, if_false, Nat.not_lt.mpr h64, if_true, if_false]) dJ_numberOfTrailingZeros_79 hlocks
      replace h64 : ¬ (a / 256) / 16 ≤ 4 := fun hq0 => h64 ((nI_leI (a := (a / 256) / 16) (b := 4) (by omega) (by omega)).mpr hq0)
      refine lv_iinc (v := 15) (lv' := [(1, .int (15)), (0, .int (nI ((a / 256) / 16)))]) hx hb dJ_numberOfTrailingZeros_67 hl (k := 1) rfl (by decide) (by decide) rfl (fun ls hl => ?_)
      refine lv_iload_n hx hb dJ_numberOfTrailingZeros_70 rfl (lv_at hl 1 rfl) ?_
      refine lv_iconst (v := 2) hx hb dJ_numberOfTrailingZeros_71 (by decide) ?_
      refine lv_iushr (v := db_ushr (nI ((a / 256) / 16)) (2)) hx hb dJ_numberOfTrailingZeros_72 rfl ?_
      refine lv_topi (nm_r (show (db_ushr (nI ((a / 256) / 16)) (2) : Int32) = nI (((a / 256) / 16) / 4) from (pk_ushrN (n := (a / 256) / 16) (by omega) 2 2 (by decide))) ?_)
      refine lv_istore_n (lv' := [(0, .int (nI (((a / 256) / 16) / 4))), (1, .int (15))]) hx hb dJ_numberOfTrailingZeros_73 rfl hl (by decide) rfl (fun ls hl => ?_)
      refine lv_iload_n hx hb dJ_numberOfTrailingZeros_74 rfl (lv_at hl 1 rfl) ?_
      refine lv_iload_n hx hb dJ_numberOfTrailingZeros_75 rfl (lv_at hl 0 rfl) ?_
      refine lv_iconst (v := 1) hx hb dJ_numberOfTrailingZeros_76 (by decide) ?_
      refine lv_iushr (v := db_ushr (nI (((a / 256) / 16) / 4)) (1)) hx hb dJ_numberOfTrailingZeros_77 rfl ?_
      refine lv_topi (nm_r (show (db_ushr (nI (((a / 256) / 16) / 4)) (1) : Int32) = nI ((((a / 256) / 16) / 4) / 2) from (pk_ushrN (n := ((a / 256) / 16) / 4) (by omega) 1 1 (by decide))) ?_)
      refine lv_iadd hx hb dJ_numberOfTrailingZeros_78 ?_
      refine lv_topi (nm_r (show ((15) + (nI ((((a / 256) / 16) / 4) / 2)) : Int32) = nI (15 + ((((a / 256) / 16) / 4) / 2)) from nI_add (15) ((((a / 256) / 16) / 4) / 2)) ?_)
      subst hQ
      exact dw_iret hx hb hr hG (()) rfl (by have et : 1 ≤ db_tz x := (by rcases Nat.eq_zero_or_pos (db_tz x) with q | q; rw [q] at ea; omega; exact q); have e9 := db_ctz_eq et ht; rw [← ea] at e9; rw [← e9]; simp only [db_ctz, Nat.not_lt.mpr h23, if_true, if_false, Nat.not_le.mp h38, if_true, if_false, Nat.not_le.mp h52, if_true, if_false, Nat.not_le.mp h64, if_true, if_false]) dJ_numberOfTrailingZeros_79 hlocks
    replace h23 : ¬ a ≤ 65536 := fun hq0 => h23 ((nI_leI (a := a) (b := 65536) (by omega) (by omega)).mpr hq0)
    refine lv_iinc (v := 17) (lv' := [(1, .int (17)), (0, .int (nI (a)))]) hx hb dJ_numberOfTrailingZeros_26 hl (k := 0) rfl (by decide) (by decide) rfl (fun ls hl => ?_)
    refine lv_iload_n hx hb dJ_numberOfTrailingZeros_29 rfl (lv_at hl 1 rfl) ?_
    refine lv_bipush (v := 16) hx hb dJ_numberOfTrailingZeros_30 (by decide) ?_
    refine lv_iushr (v := db_ushr (nI (a)) (16)) hx hb dJ_numberOfTrailingZeros_32 rfl ?_
    refine lv_topi (nm_r (show (db_ushr (nI (a)) (16) : Int32) = nI (a / 65536) from (pk_ushrN (n := a) (by omega) 16 16 (by decide))) ?_)
    refine lv_istore_n (lv' := [(0, .int (nI (a / 65536))), (1, .int (17))]) hx hb dJ_numberOfTrailingZeros_33 rfl hl (by decide) rfl (fun ls hl => ?_)
    refine lv_iload_n hx hb dJ_numberOfTrailingZeros_34 rfl (lv_at hl 0 rfl) ?_
    refine lv_sipush (v := 256) hx hb dJ_numberOfTrailingZeros_35 (by decide) ?_
    refine lv_icmp_le (tgt := 49) hx hb dJ_numberOfTrailingZeros_38 (by decide) (fun h38 => ?_) (fun h38 => ?_)
    · skip
      replace h38 := (nI_leI (a := a / 65536) (b := 256) (by omega) (by omega)).mp h38
      refine lv_iload_n hx hb dJ_numberOfTrailingZeros_49 rfl (lv_at hl 0 rfl) ?_
      refine lv_bipush (v := 16) hx hb dJ_numberOfTrailingZeros_50 (by decide) ?_
      refine lv_icmp_le (tgt := 62) hx hb dJ_numberOfTrailingZeros_52 (by decide) (fun h52 => ?_) (fun h52 => ?_)
      · skip
        replace h52 := (nI_leI (a := a / 65536) (b := 16) (by omega) (by omega)).mp h52
        refine lv_iload_n hx hb dJ_numberOfTrailingZeros_62 rfl (lv_at hl 0 rfl) ?_
        refine lv_iconst (v := 4) hx hb dJ_numberOfTrailingZeros_63 (by decide) ?_
        refine lv_icmp_le (tgt := 74) hx hb dJ_numberOfTrailingZeros_64 (by decide) (fun h64 => ?_) (fun h64 => ?_)
        · skip
          replace h64 := (nI_leI (a := a / 65536) (b := 4) (by omega) (by omega)).mp h64
          refine lv_iload_n hx hb dJ_numberOfTrailingZeros_74 rfl (lv_at hl 1 rfl) ?_
          refine lv_iload_n hx hb dJ_numberOfTrailingZeros_75 rfl (lv_at hl 0 rfl) ?_
          refine lv_iconst (v := 1) hx hb dJ_numberOfTrailingZeros_76 (by decide) ?_
          refine lv_iushr (v := db_ushr (nI (a / 65536)) (1)) hx hb dJ_numberOfTrailingZeros_77 rfl ?_
          refine lv_topi (nm_r (show (db_ushr (nI (a / 65536)) (1) : Int32) = nI ((a / 65536) / 2) from (pk_ushrN (n := a / 65536) (by omega) 1 1 (by decide))) ?_)
          refine lv_iadd hx hb dJ_numberOfTrailingZeros_78 ?_
          refine lv_topi (nm_r (show ((17) + (nI ((a / 65536) / 2)) : Int32) = nI (17 + ((a / 65536) / 2)) from nI_add (17) ((a / 65536) / 2)) ?_)
          subst hQ
          exact dw_iret hx hb hr hG (()) rfl (by have et : 1 ≤ db_tz x := (by rcases Nat.eq_zero_or_pos (db_tz x) with q | q; rw [q] at ea; omega; exact q); have e9 := db_ctz_eq et ht; rw [← ea] at e9; rw [← e9]; simp only [db_ctz, Nat.not_le.mp h23, if_true, if_false, Nat.not_lt.mpr h38, if_true, if_false, Nat.not_lt.mpr h52, if_true, if_false, Nat.not_lt.mpr h64, if_true, if_false]) dJ_numberOfTrailingZeros_79 hlocks
        replace h64 : ¬ a / 65536 ≤ 4 := fun hq0 => h64 ((nI_leI (a := a / 65536) (b := 4) (by omega) (by omega)).mpr hq0)
        refine lv_iinc (v := 19) (lv' := [(1, .int (19)), (0, .int (nI (a / 65536)))]) hx hb dJ_numberOfTrailingZeros_67 hl (k := 1) rfl (by decide) (by decide) rfl (fun ls hl => ?_)
        refine lv_iload_n hx hb dJ_numberOfTrailingZeros_70 rfl (lv_at hl 1 rfl) ?_
        refine lv_iconst (v := 2) hx hb dJ_numberOfTrailingZeros_71 (by decide) ?_
        refine lv_iushr (v := db_ushr (nI (a / 65536)) (2)) hx hb dJ_numberOfTrailingZeros_72 rfl ?_
        refine lv_topi (nm_r (show (db_ushr (nI (a / 65536)) (2) : Int32) = nI ((a / 65536) / 4) from (pk_ushrN (n := a / 65536) (by omega) 2 2 (by decide))) ?_)
        refine lv_istore_n (lv' := [(0, .int (nI ((a / 65536) / 4))), (1, .int (19))]) hx hb dJ_numberOfTrailingZeros_73 rfl hl (by decide) rfl (fun ls hl => ?_)
        refine lv_iload_n hx hb dJ_numberOfTrailingZeros_74 rfl (lv_at hl 1 rfl) ?_
        refine lv_iload_n hx hb dJ_numberOfTrailingZeros_75 rfl (lv_at hl 0 rfl) ?_
        refine lv_iconst (v := 1) hx hb dJ_numberOfTrailingZeros_76 (by decide) ?_
        refine lv_iushr (v := db_ushr (nI ((a / 65536) / 4)) (1)) hx hb dJ_numberOfTrailingZeros_77 rfl ?_
        refine lv_topi (nm_r (show (db_ushr (nI ((a / 65536) / 4)) (1) : Int32) = nI (((a / 65536) / 4) / 2) from (pk_ushrN (n := (a / 65536) / 4) (by omega) 1 1 (by decide))) ?_)
        refine lv_iadd hx hb dJ_numberOfTrailingZeros_78 ?_
        refine lv_topi (nm_r (show ((19) + (nI (((a / 65536) / 4) / 2)) : Int32) = nI (19 + (((a / 65536) / 4) / 2)) from nI_add (19) (((a / 65536) / 4) / 2)) ?_)
        subst hQ
        exact dw_iret hx hb hr hG (()) rfl (by have et : 1 ≤ db_tz x := (by rcases Nat.eq_zero_or_pos (db_tz x) with q | q; rw [q] at ea; omega; exact q); have e9 := db_ctz_eq et ht; rw [← ea] at e9; rw [← e9]; simp only [db_ctz, Nat.not_le.mp h23, if_true, if_false, Nat.not_lt.mpr h38, if_true, if_false, Nat.not_lt.mpr h52, if_true, if_false, Nat.not_le.mp h64, if_true, if_false]) dJ_numberOfTrailingZeros_79 hlocks
      replace h52 : ¬ a / 65536 ≤ 16 := fun hq0 => h52 ((nI_leI (a := a / 65536) (b := 16) (by omega) (by omega)).mpr hq0)
      refine lv_iinc (v := 21) (lv' := [(1, .int (21)), (0, .int (nI (a / 65536)))]) hx hb dJ_numberOfTrailingZeros_55 hl (k := 1) rfl (by decide) (by decide) rfl (fun ls hl => ?_)
      refine lv_iload_n hx hb dJ_numberOfTrailingZeros_58 rfl (lv_at hl 1 rfl) ?_
      refine lv_iconst (v := 4) hx hb dJ_numberOfTrailingZeros_59 (by decide) ?_
      refine lv_iushr (v := db_ushr (nI (a / 65536)) (4)) hx hb dJ_numberOfTrailingZeros_60 rfl ?_
      refine lv_topi (nm_r (show (db_ushr (nI (a / 65536)) (4) : Int32) = nI ((a / 65536) / 16) from (pk_ushrN (n := a / 65536) (by omega) 4 4 (by decide))) ?_)
      refine lv_istore_n (lv' := [(0, .int (nI ((a / 65536) / 16))), (1, .int (21))]) hx hb dJ_numberOfTrailingZeros_61 rfl hl (by decide) rfl (fun ls hl => ?_)
      refine lv_iload_n hx hb dJ_numberOfTrailingZeros_62 rfl (lv_at hl 0 rfl) ?_
      refine lv_iconst (v := 4) hx hb dJ_numberOfTrailingZeros_63 (by decide) ?_
      refine lv_icmp_le (tgt := 74) hx hb dJ_numberOfTrailingZeros_64 (by decide) (fun h64 => ?_) (fun h64 => ?_)
      · skip
        replace h64 := (nI_leI (a := (a / 65536) / 16) (b := 4) (by omega) (by omega)).mp h64
        refine lv_iload_n hx hb dJ_numberOfTrailingZeros_74 rfl (lv_at hl 1 rfl) ?_
        refine lv_iload_n hx hb dJ_numberOfTrailingZeros_75 rfl (lv_at hl 0 rfl) ?_
        refine lv_iconst (v := 1) hx hb dJ_numberOfTrailingZeros_76 (by decide) ?_
        refine lv_iushr (v := db_ushr (nI ((a / 65536) / 16)) (1)) hx hb dJ_numberOfTrailingZeros_77 rfl ?_
        refine lv_topi (nm_r (show (db_ushr (nI ((a / 65536) / 16)) (1) : Int32) = nI (((a / 65536) / 16) / 2) from (pk_ushrN (n := (a / 65536) / 16) (by omega) 1 1 (by decide))) ?_)
        refine lv_iadd hx hb dJ_numberOfTrailingZeros_78 ?_
        refine lv_topi (nm_r (show ((21) + (nI (((a / 65536) / 16) / 2)) : Int32) = nI (21 + (((a / 65536) / 16) / 2)) from nI_add (21) (((a / 65536) / 16) / 2)) ?_)
        subst hQ
        exact dw_iret hx hb hr hG (()) rfl (by have et : 1 ≤ db_tz x := (by rcases Nat.eq_zero_or_pos (db_tz x) with q | q; rw [q] at ea; omega; exact q); have e9 := db_ctz_eq et ht; rw [← ea] at e9; rw [← e9]; simp only [db_ctz, Nat.not_le.mp h23, if_true, if_false, Nat.not_lt.mpr h38, if_true, if_false, Nat.not_le.mp h52, if_true, if_false, Nat.not_lt.mpr h64, if_true, if_false]) dJ_numberOfTrailingZeros_79 hlocks
      replace h64 : ¬ (a / 65536) / 16 ≤ 4 := fun hq0 => h64 ((nI_leI (a := (a / 65536) / 16) (b := 4) (by omega) (by omega)).mpr hq0)
      refine lv_iinc (v := 23) (lv' := [(1, .int (23)), (0, .int (nI ((a / 65536) / 16)))]) hx hb dJ_numberOfTrailingZeros_67 hl (k := 1) rfl (by decide) (by decide) rfl (fun ls hl => ?_)
      refine lv_iload_n hx hb dJ_numberOfTrailingZeros_70 rfl (lv_at hl 1 rfl) ?_
      refine lv_iconst (v := 2) hx hb dJ_numberOfTrailingZeros_71 (by decide) ?_
      refine lv_iushr (v := db_ushr (nI ((a / 65536) / 16)) (2)) hx hb dJ_numberOfTrailingZeros_72 rfl ?_
      refine lv_topi (nm_r (show (db_ushr (nI ((a / 65536) / 16)) (2) : Int32) = nI (((a / 65536) / 16) / 4) from (pk_ushrN (n := (a / 65536) / 16) (by omega) 2 2 (by decide))) ?_)
      refine lv_istore_n (lv' := [(0, .int (nI (((a / 65536) / 16) / 4))), (1, .int (23))]) hx hb dJ_numberOfTrailingZeros_73 rfl hl (by decide) rfl (fun ls hl => ?_)
      refine lv_iload_n hx hb dJ_numberOfTrailingZeros_74 rfl (lv_at hl 1 rfl) ?_
      refine lv_iload_n hx hb dJ_numberOfTrailingZeros_75 rfl (lv_at hl 0 rfl) ?_
      refine lv_iconst (v := 1) hx hb dJ_numberOfTrailingZeros_76 (by decide) ?_
      refine lv_iushr (v := db_ushr (nI (((a / 65536) / 16) / 4)) (1)) hx hb dJ_numberOfTrailingZeros_77 rfl ?_
      refine lv_topi (nm_r (show (db_ushr (nI (((a / 65536) / 16) / 4)) (1) : Int32) = nI ((((a / 65536) / 16) / 4) / 2) from (pk_ushrN (n := ((a / 65536) / 16) / 4) (by omega) 1 1 (by decide))) ?_)
      refine lv_iadd hx hb dJ_numberOfTrailingZeros_78 ?_
      refine lv_topi (nm_r (show ((23) + (nI ((((a / 65536) / 16) / 4) / 2)) : Int32) = nI (23 + ((((a / 65536) / 16) / 4) / 2)) from nI_add (23) ((((a / 65536) / 16) / 4) / 2)) ?_)
      subst hQ
      exact dw_iret hx hb hr hG (()) rfl (by have et : 1 ≤ db_tz x := (by rcases Nat.eq_zero_or_pos (db_tz x) with q | q; rw [q] at ea; omega; exact q); have e9 := db_ctz_eq et ht; rw [← ea] at e9; rw [← e9]; simp only [db_ctz, Nat.not_le.mp h23, if_true, if_false, Nat.not_lt.mpr h38, if_true, if_false, Nat.not_le.mp h52, if_true, if_false, Nat.not_le.mp h64, if_true, if_false]) dJ_numberOfTrailingZeros_79 hlocks
    replace h38 : ¬ a / 65536 ≤ 256 := fun hq0 => h38 ((nI_leI (a := a / 65536) (b := 256) (by omega) (by omega)).mpr hq0)
    refine lv_iinc (v := 25) (lv' := [(1, .int (25)), (0, .int (nI (a / 65536)))]) hx hb dJ_numberOfTrailingZeros_41 hl (k := 1) rfl (by decide) (by decide) rfl (fun ls hl => ?_)
    refine lv_iload_n hx hb dJ_numberOfTrailingZeros_44 rfl (lv_at hl 1 rfl) ?_
    refine lv_bipush (v := 8) hx hb dJ_numberOfTrailingZeros_45 (by decide) ?_
    refine lv_iushr (v := db_ushr (nI (a / 65536)) (8)) hx hb dJ_numberOfTrailingZeros_47 rfl ?_
    refine lv_topi (nm_r (show (db_ushr (nI (a / 65536)) (8) : Int32) = nI ((a / 65536) / 256) from (pk_ushrN (n := a / 65536) (by omega) 8 8 (by decide))) ?_)
    refine lv_istore_n (lv' := [(0, .int (nI ((a / 65536) / 256))), (1, .int (25))]) hx hb dJ_numberOfTrailingZeros_48 rfl hl (by decide) rfl (fun ls hl => ?_)
    refine lv_iload_n hx hb dJ_numberOfTrailingZeros_49 rfl (lv_at hl 0 rfl) ?_
    refine lv_bipush (v := 16) hx hb dJ_numberOfTrailingZeros_50 (by decide) ?_
    refine lv_icmp_le (tgt := 62) hx hb dJ_numberOfTrailingZeros_52 (by decide) (fun h52 => ?_) (fun h52 => ?_)
    · skip
      replace h52 := (nI_leI (a := (a / 65536) / 256) (b := 16) (by omega) (by omega)).mp h52
      refine lv_iload_n hx hb dJ_numberOfTrailingZeros_62 rfl (lv_at hl 0 rfl) ?_
      refine lv_iconst (v := 4) hx hb dJ_numberOfTrailingZeros_63 (by decide) ?_
      refine lv_icmp_le (tgt := 74) hx hb dJ_numberOfTrailingZeros_64 (by decide) (fun h64 => ?_) (fun h64 => ?_)
      · skip
        replace h64 := (nI_leI (a := (a / 65536) / 256) (b := 4) (by omega) (by omega)).mp h64
        refine lv_iload_n hx hb dJ_numberOfTrailingZeros_74 rfl (lv_at hl 1 rfl) ?_
        refine lv_iload_n hx hb dJ_numberOfTrailingZeros_75 rfl (lv_at hl 0 rfl) ?_
        refine lv_iconst (v := 1) hx hb dJ_numberOfTrailingZeros_76 (by decide) ?_
        refine lv_iushr (v := db_ushr (nI ((a / 65536) / 256)) (1)) hx hb dJ_numberOfTrailingZeros_77 rfl ?_
        refine lv_topi (nm_r (show (db_ushr (nI ((a / 65536) / 256)) (1) : Int32) = nI (((a / 65536) / 256) / 2) from (pk_ushrN (n := (a / 65536) / 256) (by omega) 1 1 (by decide))) ?_)
        refine lv_iadd hx hb dJ_numberOfTrailingZeros_78 ?_
        refine lv_topi (nm_r (show ((25) + (nI (((a / 65536) / 256) / 2)) : Int32) = nI (25 + (((a / 65536) / 256) / 2)) from nI_add (25) (((a / 65536) / 256) / 2)) ?_)
        subst hQ
        exact dw_iret hx hb hr hG (()) rfl (by have et : 1 ≤ db_tz x := (by rcases Nat.eq_zero_or_pos (db_tz x) with q | q; rw [q] at ea; omega; exact q); have e9 := db_ctz_eq et ht; rw [← ea] at e9; rw [← e9]; simp only [db_ctz, Nat.not_le.mp h23, if_true, if_false, Nat.not_le.mp h38, if_true, if_false, Nat.not_lt.mpr h52, if_true, if_false, Nat.not_lt.mpr h64, if_true, if_false]) dJ_numberOfTrailingZeros_79 hlocks
      replace h64 : ¬ (a / 65536) / 256 ≤ 4 := fun hq0 => h64 ((nI_leI (a := (a / 65536) / 256) (b := 4) (by omega) (by omega)).mpr hq0)
      refine lv_iinc (v := 27) (lv' := [(1, .int (27)), (0, .int (nI ((a / 65536) / 256)))]) hx hb dJ_numberOfTrailingZeros_67 hl (k := 1) rfl (by decide) (by decide) rfl (fun ls hl => ?_)
      refine lv_iload_n hx hb dJ_numberOfTrailingZeros_70 rfl (lv_at hl 1 rfl) ?_
      refine lv_iconst (v := 2) hx hb dJ_numberOfTrailingZeros_71 (by decide) ?_
      refine lv_iushr (v := db_ushr (nI ((a / 65536) / 256)) (2)) hx hb dJ_numberOfTrailingZeros_72 rfl ?_
      refine lv_topi (nm_r (show (db_ushr (nI ((a / 65536) / 256)) (2) : Int32) = nI (((a / 65536) / 256) / 4) from (pk_ushrN (n := (a / 65536) / 256) (by omega) 2 2 (by decide))) ?_)
      refine lv_istore_n (lv' := [(0, .int (nI (((a / 65536) / 256) / 4))), (1, .int (27))]) hx hb dJ_numberOfTrailingZeros_73 rfl hl (by decide) rfl (fun ls hl => ?_)
      refine lv_iload_n hx hb dJ_numberOfTrailingZeros_74 rfl (lv_at hl 1 rfl) ?_
      refine lv_iload_n hx hb dJ_numberOfTrailingZeros_75 rfl (lv_at hl 0 rfl) ?_
      refine lv_iconst (v := 1) hx hb dJ_numberOfTrailingZeros_76 (by decide) ?_
      refine lv_iushr (v := db_ushr (nI (((a / 65536) / 256) / 4)) (1)) hx hb dJ_numberOfTrailingZeros_77 rfl ?_
      refine lv_topi (nm_r (show (db_ushr (nI (((a / 65536) / 256) / 4)) (1) : Int32) = nI ((((a / 65536) / 256) / 4) / 2) from (pk_ushrN (n := ((a / 65536) / 256) / 4) (by omega) 1 1 (by decide))) ?_)
      refine lv_iadd hx hb dJ_numberOfTrailingZeros_78 ?_
      refine lv_topi (nm_r (show ((27) + (nI ((((a / 65536) / 256) / 4) / 2)) : Int32) = nI (27 + ((((a / 65536) / 256) / 4) / 2)) from nI_add (27) ((((a / 65536) / 256) / 4) / 2)) ?_)
      subst hQ
      exact dw_iret hx hb hr hG (()) rfl (by have et : 1 ≤ db_tz x := (by rcases Nat.eq_zero_or_pos (db_tz x) with q | q; rw [q] at ea; omega; exact q); have e9 := db_ctz_eq et ht; rw [← ea] at e9; rw [← e9]; simp only [db_ctz, Nat.not_le.mp h23, if_true, if_false, Nat.not_le.mp h38, if_true, if_false, Nat.not_lt.mpr h52, if_true, if_false, Nat.not_le.mp h64, if_true, if_false]) dJ_numberOfTrailingZeros_79 hlocks
    replace h52 : ¬ (a / 65536) / 256 ≤ 16 := fun hq0 => h52 ((nI_leI (a := (a / 65536) / 256) (b := 16) (by omega) (by omega)).mpr hq0)
    refine lv_iinc (v := 29) (lv' := [(1, .int (29)), (0, .int (nI ((a / 65536) / 256)))]) hx hb dJ_numberOfTrailingZeros_55 hl (k := 1) rfl (by decide) (by decide) rfl (fun ls hl => ?_)
    refine lv_iload_n hx hb dJ_numberOfTrailingZeros_58 rfl (lv_at hl 1 rfl) ?_
    refine lv_iconst (v := 4) hx hb dJ_numberOfTrailingZeros_59 (by decide) ?_
    refine lv_iushr (v := db_ushr (nI ((a / 65536) / 256)) (4)) hx hb dJ_numberOfTrailingZeros_60 rfl ?_
    refine lv_topi (nm_r (show (db_ushr (nI ((a / 65536) / 256)) (4) : Int32) = nI (((a / 65536) / 256) / 16) from (pk_ushrN (n := (a / 65536) / 256) (by omega) 4 4 (by decide))) ?_)
    refine lv_istore_n (lv' := [(0, .int (nI (((a / 65536) / 256) / 16))), (1, .int (29))]) hx hb dJ_numberOfTrailingZeros_61 rfl hl (by decide) rfl (fun ls hl => ?_)
    refine lv_iload_n hx hb dJ_numberOfTrailingZeros_62 rfl (lv_at hl 0 rfl) ?_
    refine lv_iconst (v := 4) hx hb dJ_numberOfTrailingZeros_63 (by decide) ?_
    refine lv_icmp_le (tgt := 74) hx hb dJ_numberOfTrailingZeros_64 (by decide) (fun h64 => ?_) (fun h64 => ?_)
    · skip
      replace h64 := (nI_leI (a := ((a / 65536) / 256) / 16) (b := 4) (by omega) (by omega)).mp h64
      refine lv_iload_n hx hb dJ_numberOfTrailingZeros_74 rfl (lv_at hl 1 rfl) ?_
      refine lv_iload_n hx hb dJ_numberOfTrailingZeros_75 rfl (lv_at hl 0 rfl) ?_
      refine lv_iconst (v := 1) hx hb dJ_numberOfTrailingZeros_76 (by decide) ?_
      refine lv_iushr (v := db_ushr (nI (((a / 65536) / 256) / 16)) (1)) hx hb dJ_numberOfTrailingZeros_77 rfl ?_
      refine lv_topi (nm_r (show (db_ushr (nI (((a / 65536) / 256) / 16)) (1) : Int32) = nI ((((a / 65536) / 256) / 16) / 2) from (pk_ushrN (n := ((a / 65536) / 256) / 16) (by omega) 1 1 (by decide))) ?_)
      refine lv_iadd hx hb dJ_numberOfTrailingZeros_78 ?_
      refine lv_topi (nm_r (show ((29) + (nI ((((a / 65536) / 256) / 16) / 2)) : Int32) = nI (29 + ((((a / 65536) / 256) / 16) / 2)) from nI_add (29) ((((a / 65536) / 256) / 16) / 2)) ?_)
      subst hQ
      exact dw_iret hx hb hr hG (()) rfl (by have et : 1 ≤ db_tz x := (by rcases Nat.eq_zero_or_pos (db_tz x) with q | q; rw [q] at ea; omega; exact q); have e9 := db_ctz_eq et ht; rw [← ea] at e9; rw [← e9]; simp only [db_ctz, Nat.not_le.mp h23, if_true, if_false, Nat.not_le.mp h38, if_true, if_false, Nat.not_le.mp h52, if_true, if_false, Nat.not_lt.mpr h64, if_true, if_false]) dJ_numberOfTrailingZeros_79 hlocks
    replace h64 : ¬ ((a / 65536) / 256) / 16 ≤ 4 := fun hq0 => h64 ((nI_leI (a := ((a / 65536) / 256) / 16) (b := 4) (by omega) (by omega)).mpr hq0)
    refine lv_iinc (v := 31) (lv' := [(1, .int (31)), (0, .int (nI (((a / 65536) / 256) / 16)))]) hx hb dJ_numberOfTrailingZeros_67 hl (k := 1) rfl (by decide) (by decide) rfl (fun ls hl => ?_)
    refine lv_iload_n hx hb dJ_numberOfTrailingZeros_70 rfl (lv_at hl 1 rfl) ?_
    refine lv_iconst (v := 2) hx hb dJ_numberOfTrailingZeros_71 (by decide) ?_
    refine lv_iushr (v := db_ushr (nI (((a / 65536) / 256) / 16)) (2)) hx hb dJ_numberOfTrailingZeros_72 rfl ?_
    refine lv_topi (nm_r (show (db_ushr (nI (((a / 65536) / 256) / 16)) (2) : Int32) = nI ((((a / 65536) / 256) / 16) / 4) from (pk_ushrN (n := ((a / 65536) / 256) / 16) (by omega) 2 2 (by decide))) ?_)
    refine lv_istore_n (lv' := [(0, .int (nI ((((a / 65536) / 256) / 16) / 4))), (1, .int (31))]) hx hb dJ_numberOfTrailingZeros_73 rfl hl (by decide) rfl (fun ls hl => ?_)
    refine lv_iload_n hx hb dJ_numberOfTrailingZeros_74 rfl (lv_at hl 1 rfl) ?_
    refine lv_iload_n hx hb dJ_numberOfTrailingZeros_75 rfl (lv_at hl 0 rfl) ?_
    refine lv_iconst (v := 1) hx hb dJ_numberOfTrailingZeros_76 (by decide) ?_
    refine lv_iushr (v := db_ushr (nI ((((a / 65536) / 256) / 16) / 4)) (1)) hx hb dJ_numberOfTrailingZeros_77 rfl ?_
    refine lv_topi (nm_r (show (db_ushr (nI ((((a / 65536) / 256) / 16) / 4)) (1) : Int32) = nI (((((a / 65536) / 256) / 16) / 4) / 2) from (pk_ushrN (n := (((a / 65536) / 256) / 16) / 4) (by omega) 1 1 (by decide))) ?_)
    refine lv_iadd hx hb dJ_numberOfTrailingZeros_78 ?_
    refine lv_topi (nm_r (show ((31) + (nI (((((a / 65536) / 256) / 16) / 4) / 2)) : Int32) = nI (31 + (((((a / 65536) / 256) / 16) / 4) / 2)) from nI_add (31) (((((a / 65536) / 256) / 16) / 4) / 2)) ?_)
    subst hQ
    exact dw_iret hx hb hr hG (()) rfl (by have et : 1 ≤ db_tz x := (by rcases Nat.eq_zero_or_pos (db_tz x) with q | q; rw [q] at ea; omega; exact q); have e9 := db_ctz_eq et ht; rw [← ea] at e9; rw [← e9]; simp only [db_ctz, Nat.not_le.mp h23, if_true, if_false, Nat.not_le.mp h38, if_true, if_false, Nat.not_le.mp h52, if_true, if_false, Nat.not_le.mp h64, if_true, if_false]) dJ_numberOfTrailingZeros_79 hlocks
  replace h9 : ¬ 0 < a := fun hq0 => h9 ((nI_ltI (a := 0) (b := a) (by omega) (by omega)).mpr hq0)
  refine lv_iload_n hx hb dJ_numberOfTrailingZeros_12 rfl (lv_at hl 0 rfl) ?_
  refine lv_bipush (v := 32) hx hb dJ_numberOfTrailingZeros_13 (by decide) ?_
  refine lv_iand hx hb dJ_numberOfTrailingZeros_15 ?_
  subst hQ
  exact dw_iret hx hb hr hG (()) rfl (by have e0 : a = 0 := (by omega); have et : db_tz x = 0 := (by rcases Nat.eq_zero_or_pos (db_tz x) with q | q; exact q; have := Nat.pow_le_pow_right (n := 2) (by omega) q; omega); rw [e0, et]; decide) dJ_numberOfTrailingZeros_16 hlocks

