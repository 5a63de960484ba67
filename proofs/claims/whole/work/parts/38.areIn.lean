set_option maxRecDepth 100000 in
set_option maxHeartbeats 4000000 in
theorem rf_areIn10 (l : Launch) (dC : Nat → ClassId) (dI : Nat → Nat → Nat) (cI cZ : ClassId) (m0 aMd aO1 aT2 aSh aMk aFa aDe aNe aBy aPi aNw aNs aBf : Nat) (ft vl rs pd rn rr : Int32) (v : Nat) (De : Nat → Int32) (c9 d : Int32) (sz : Nat) (hv : v < 24) (hd : db_set De v d) : Met l yM_areIn wsM_areIn { frames := 1, cells := 0, slots := 0, locals := 24 } (va_Pc [.ref m0, .int (nI (v)), .int (c9), .int (1), .int (0)] (dw_pre (dC, dI) vwCl [(m0, .inr (5, [.int (ft), .int (vl), .ref aMd, .ref aO1, .ref aT2, .int (rs), .ref aSh, .ref aMk, .ref aFa, .ref aDe, .ref aNe, .ref aBy, .ref aPi, .int (pd), .ref aNw, .ref aNs, .ref aBf, .int (rn), .int (rr)])), (aDe, .inl (cZ, 768, .inl (De)))] [(cI, .int), (cZ, .boolean)] sz)) (va_Qi (fun (r : Int32) (u : Unit) => r = if d &&& (c9 ^^^ (-1)) = 0 then 1 else 0) (fun u t => dw_post (dC, dI) vwCl [(m0, .inr (5, [.int (ft), .int (vl), .ref aMd, .ref aO1, .ref aT2, .int (rs), .ref aSh, .ref aMk, .ref aFa, .ref aDe, .ref aNe, .ref aBy, .ref aPi, .int (pd), .ref aNw, .ref aNs, .ref aBf, .int (rn), .int (rr)])), (aDe, .inl (cZ, 768, .inl (De)))] [(cI, .int), (cZ, .boolean)] (va_A [(m0, .inr (5, [.int (ft), .int (vl), .ref aMd, .ref aO1, .ref aT2, .int (rs), .ref aSh, .ref aMk, .ref aFa, .ref aDe, .ref aNe, .ref aBy, .ref aPi, .int (pd), .ref aNw, .ref aNs, .ref aBf, .int (rn), .int (rr)])), (aDe, .inl (cZ, 768, .inl (De)))] sz) t) (va_A [(m0, .inr (5, [.int (ft), .int (vl), .ref aMd, .ref aO1, .ref aT2, .int (rs), .ref aSh, .ref aMk, .ref aFa, .ref aDe, .ref aNe, .ref aBy, .ref aPi, .int (pd), .ref aNw, .ref aNs, .ref aBf, .int (rn), .int (rr)])), (aDe, .inl (cZ, 768, .inl (De)))] sz)) 0 0 (va_A [(m0, .inr (5, [.int (ft), .int (vl), .ref aMd, .ref aO1, .ref aT2, .int (rs), .ref aSh, .ref aMk, .ref aFa, .ref aDe, .ref aNe, .ref aBy, .ref aPi, .int (pd), .ref aNw, .ref aNs, .ref aBf, .int (rn), .int (rr)])), (aDe, .inl (cZ, 768, .inl (De)))] sz) := by
  refine Met.ofW (cc := cM_areIn) (maxL := 8) (ret := (some .boolean)) (by decide) rfl ?_
  intro p e s m args below meth c s₁ B hml hv0
  have hx := B.exec
  have hb := B.bytes
  have hr := B.returns
  have hts := atoms_spec (ws := wsM_areIn) B.pre
  have hown : s.vm.findClass RM = some m.cls := findClass_of_methodNamed B.named
  have hlocks := B.notSynchronized
  obtain ⟨rfl, hsz, hG⟩ := dw_enter hv0
  generalize va_A [(m0, .inr (5, [.int (ft), .int (vl), .ref aMd, .ref aO1, .ref aT2, .int (rs), .ref aSh, .ref aMk, .ref aFa, .ref aDe, .ref aNe, .ref aBy, .ref aPi, .int (pd), .ref aNw, .ref aNs, .ref aBf, .int (rn), .int (rr)])), (aDe, .inl (cZ, 768, .inl (De)))] sz = A at hG ⊢
  have hl := lv_entry ([.ref m0, .int (nI (v)), .int (c9), .int (1), .int (0)]) (n := 8) (Nat.le_of_ble_eq_true rfl)
  rw [lg_entry_eq]
  generalize (lg_sl ([.ref m0, .int (nI (v)), .int (c9), .int (1), .int (0)]) ++ List.replicate (8 - (lg_sl ([.ref m0, .int (nI (v)), .int (c9), .int (1), .int (0)])).length) Slot.unset).toArray = ls at hl ⊢
  have hl : lv_has ls 8 [(0, .ref m0), (1, .int (nI (v))), (2, .int (c9)), (3, .int (1)), (4, .int (0))] := hl
  have hw503 := hts _ (List.mem_cons_of_mem _ tw_503)
  refine dw_Q (fun Q hQ => ?_)
  suffices hgo : ∀ (H : Heap) (locs : List Loc), dw_G (dC, dI) vwCl [(cI, .int), (cZ, .boolean)] A s.heap s [(m0, .inr (5, [.int (ft), .int (vl), .ref aMd, .ref aO1, .ref aT2, .int (rs), .ref aSh, .ref aMk, .ref aFa, .ref aDe, .ref aNe, .ref aBy, .ref aPi, .int (pd), .ref aNw, .ref aNs, .ref aBf, .int (rn), .int (rr)])), (aDe, .inl (cZ, 768, .inl (De)))] H locs → W p l e (headSpec wsM_areIn { frames := 1, cells := 0, slots := 0, locals := 24 }).room s m [.ref m0, .int (nI (v)), .int (c9), .int (1), .int (0)].toArray below meth c H locs 0 0 Q (F0 m 0 ls []) from hgo _ _ hG
  clear hG
  intro H locs hG
  refine lv_iconst (v := 1) hx hb dM_areIn_0 (by decide) ?_
  refine lv_istore (lv' := [(5, .int (1)), (0, .ref m0), (1, .int (nI (v))), (2, .int (c9)), (3, .int (1)), (4, .int (0))]) hx hb dM_areIn_1 hl (by decide) rfl (fun ls hl => ?_)
  refine lv_iconst (v := 0) hx hb dM_areIn_3 (by decide) ?_
  refine lv_istore (lv' := [(6, .int (0)), (5, .int (1)), (0, .ref m0), (1, .int (nI (v))), (2, .int (c9)), (3, .int (1)), (4, .int (0))]) hx hb dM_areIn_4 hl (by decide) rfl (fun ls hl => ?_)
  refine lv_bipush (v := 31) hx hb dM_areIn_6 (by decide) ?_
  refine lv_istore (lv' := [(7, .int (31)), (6, .int (0)), (5, .int (1)), (0, .ref m0), (1, .int (nI (v))), (2, .int (c9)), (3, .int (1)), (4, .int (0))]) hx hb dM_areIn_8 hl (by decide) rfl (fun ls hl => ?_)
  have L10 : ∀ (zz : Nat) (i : Nat) (al : Int32) (sm : Int32) (ls : Array Slot) (H : Heap) (locs : List Loc), i < zz → i ≤ 32 → db_allD al (fun i => bt d i = true → bt c9 i = true) i → lv_has ls 8 [(0, .ref m0), (1, .int (nI (v))), (2, .int (c9)), (3, .int (1)), (4, .int (0)), (5, .int (al)), (6, .int (sm)), (7, .int ((nI (i)) + (-1)))] → dw_G (dC, dI) vwCl [(cI, .int), (cZ, .boolean)] A s.heap s [(m0, .inr (5, [.int (ft), .int (vl), .ref aMd, .ref aO1, .ref aT2, .int (rs), .ref aSh, .ref aMk, .ref aFa, .ref aDe, .ref aNe, .ref aBy, .ref aPi, .int (pd), .ref aNw, .ref aNs, .ref aBf, .int (rn), .int (rr)])), (aDe, .inl (cZ, 768, .inl (De)))] H locs → W p l e (headSpec wsM_areIn { frames := 1, cells := 0, slots := 0, locals := 24 }).room s m [.ref m0, .int (nI (v)), .int (c9), .int (1), .int (0)].toArray below meth c H locs 0 0 Q (F0 m 10 ls []) := by
    intro zz
    induction zz with
    | zero => intro i al sm ls H locs hz; exact absurd hz (Nat.not_lt_zero _)
    | succ zz L10_ih =>
      intro i al sm ls H locs hz hi9 hal hl hG
      rcases Nat.eq_zero_or_pos i with hi0 | hi0
      · subst hi0
        have hl : lv_has ls 8 [(0, .ref m0), (1, .int (nI (v))), (2, .int (c9)), (3, .int (1)), (4, .int (0)), (5, .int (al)), (6, .int (sm)), (7, .int (-1))] := hl
        refine lv_iload hx hb dM_areIn_10 (lv_at hl 7 rfl) ?_
        refine lv_if_lt (tgt := 80) hx hb dM_areIn_12 (by decide) (fun h12 => ?_) (fun h12 => ?_)
        · skip
          refine lv_iload hx hb dM_areIn_80 (lv_at hl 5 rfl) ?_
          subst hQ
          exact dw_zret hx hb hr (db_allD_01 hal) hG (()) rfl (db_allD_end hal db_in1.symm) dM_areIn_82 hlocks
        exact absurd (show (-1 : Int32) < 0 by decide) h12
      obtain ⟨k, rfl⟩ : ∃ k, i = k + 1 := ⟨i - 1, by omega⟩
      rw [pk_m1 k] at hl
      refine lv_iload hx hb dM_areIn_10 (lv_at hl 7 rfl) ?_
      refine lv_if_lt (tgt := 80) hx hb dM_areIn_12 (by decide) (fun h12 => ?_) (fun h12 => ?_)
      · skip
        replace h12 := (nI_ltI (a := k) (b := 0) (by omega) (by omega)).mp h12
        (exfalso; omega)
      replace h12 : ¬ k < 0 := fun hq0 => h12 ((nI_ltI (a := k) (b := 0) (by omega) (by omega)).mpr hq0)
      refine lv_aload_n hx hb dM_areIn_15 rfl (lv_at hl 0 rfl) ?_
      refine dw_get hx hb hts inMc hown hG 0 9 rfl rfl (by decide) hw503 rfl rfl dM_areIn_16 ?_
      refine lv_bipush (v := 32) hx hb dM_areIn_19 (by decide) ?_
      refine lv_iload_n hx hb dM_areIn_21 rfl (lv_at hl 1 rfl) ?_
      refine lv_imul hx hb dM_areIn_22 ?_
      refine lv_topi (nm_r (show ((32) * (nI (v)) : Int32) = nI (32 * (v)) from pk_mul (32) (v)) ?_)
      refine lv_iload hx hb dM_areIn_23 (lv_at hl 7 rfl) ?_
      refine lv_iadd hx hb dM_areIn_25 ?_
      refine lv_topi (nm_r (show ((nI (32 * (v))) + (nI (k)) : Int32) = nI (32 * (v) + k) from nI_add (32 * (v)) (k)) ?_)
      refine dw_za (x := (De) (32 * (v) + k)) hx hb hG 1 1 rfl rfl (32 * (v) + k) rfl (by omega) (by decide) rfl dM_areIn_26 ?_
      refine lv_if_ne (tgt := 40) hx hb dM_areIn_27 (by decide) (fun h27 => ?_) (fun h27 => ?_)
      · skip
        refine lv_iconst (v := 1) hx hb dM_areIn_40 (by decide) ?_
        refine lv_goto (tgt := 45) hx hb dM_areIn_41 (by decide) ?_
        refine lv_istore (lv' := [(6, .int (1)), (0, .ref m0), (1, .int (nI (v))), (2, .int (c9)), (3, .int (1)), (4, .int (0)), (5, .int (al)), (7, .int (nI (k)))]) hx hb dM_areIn_45 hl (by decide) rfl (fun ls hl => ?_)
        refine lv_iload hx hb dM_areIn_47 (lv_at hl 6 rfl) ?_
        refine lv_if_eq (tgt := 71) hx hb dM_areIn_49 (by decide) (fun h49 => ?_) (fun h49 => ?_)
        · skip
          refine lv_iconst (v := 0) hx hb dM_areIn_71 (by decide) ?_
          refine lv_istore (lv' := [(5, .int (0)), (6, .int (1)), (0, .ref m0), (1, .int (nI (v))), (2, .int (c9)), (3, .int (1)), (4, .int (0)), (7, .int (nI (k)))]) hx hb dM_areIn_72 hl (by decide) rfl (fun ls hl => ?_)
          refine lv_iinc (v := (nI (k)) + (-1)) (lv' := [(7, .int ((nI (k)) + (-1))), (5, .int (0)), (6, .int (1)), (0, .ref m0), (1, .int (nI (v))), (2, .int (c9)), (3, .int (1)), (4, .int (0))]) hx hb dM_areIn_74 hl (k := 7) rfl rfl (by decide) rfl (fun ls hl => ?_)
          refine lv_goto (tgt := 10) hx hb dM_areIn_77 (by decide) ?_
          exact L10_ih (k) (0) (1) ls H locs (by omega) (by omega) (db_allD_f hal h49) (lv_sub hl [3, 4, 5, 6, 7, 1, 2, 0] rfl) hG
        refine lv_iload hx hb dM_areIn_52 (lv_at hl 0 rfl) ?_
        refine lv_if_eq (tgt := 67) hx hb dM_areIn_54 (by decide) (fun h54 => ?_) (fun h54 => ?_)
        · skip
          replace h54 := (nI_eq (a := 1) (b := 0) (by omega) (by omega)).mp h54
          (exfalso; omega)
        replace h54 : ¬ 1 = 0 := fun hq0 => h54 ((nI_eq (a := 1) (b := 0) (by omega) (by omega)).mpr hq0)
        refine lv_iload_n hx hb dM_areIn_57 rfl (lv_at hl 3 rfl) ?_
        refine lv_iload hx hb dM_areIn_58 (lv_at hl 7 rfl) ?_
        refine dw_calli (wc := []) (wr := [(m0, .inr (5, [.int (ft), .int (vl), .ref aMd, .ref aO1, .ref aT2, .int (rs), .ref aSh, .ref aMk, .ref aFa, .ref aDe, .ref aNe, .ref aBy, .ref aPi, .int (pd), .ref aNw, .ref aNs, .ref aBf, .int (rn), .int (rr)])), (aDe, .inl (cZ, 768, .inl (De)))]) hG [] [0, 1] rfl rfl (by decide) (by decide) (va_runS (As := [.int (c9), .int (nI (k))]) (rest := []) ⟨hx, hb, hml, hown, hts⟩ (rf_bit l dC dI cI cZ (c9) (nI (k)) H.size ) (dc_S 2 hts tw_630 tw_631 tw_7 tw_632 rfl rfl (by decide +kernel) ⟨Nat.le_of_ble_eq_true rfl, Nat.le_of_ble_eq_true rfl⟩) (dw_preS hG [] [0, 1] rfl rfl (by decide) rfl) rfl rfl hl.1 rfl (lv_room (Nat.le_of_ble_eq_true rfl)) dM_areIn_60 ⟨Nat.le_refl _, Nat.le_refl _⟩) (fun r u H locs hp hG => ?_)
        subst hp
        have hG : dw_G (dC, dI) vwCl [(cI, .int), (cZ, .boolean)] A s.heap s [(m0, .inr (5, [.int (ft), .int (vl), .ref aMd, .ref aO1, .ref aT2, .int (rs), .ref aSh, .ref aMk, .ref aFa, .ref aDe, .ref aNe, .ref aBy, .ref aPi, .int (pd), .ref aNw, .ref aNs, .ref aBf, .int (rn), .int (rr)])), (aDe, .inl (cZ, 768, .inl (De)))] H locs := hG
        refine lv_iload_n hx hb dM_areIn_63 rfl (lv_at hl 4 rfl) ?_
        refine lv_icmp_ne (tgt := 71) hx hb dM_areIn_64 (by decide) (fun h64 => ?_) (fun h64 => ?_)
        · skip
          refine lv_iconst (v := 0) hx hb dM_areIn_71 (by decide) ?_
          refine lv_istore (lv' := [(5, .int (0)), (6, .int (1)), (0, .ref m0), (1, .int (nI (v))), (2, .int (c9)), (3, .int (1)), (4, .int (0)), (7, .int (nI (k)))]) hx hb dM_areIn_72 hl (by decide) rfl (fun ls hl => ?_)
          refine lv_iinc (v := (nI (k)) + (-1)) (lv' := [(7, .int ((nI (k)) + (-1))), (5, .int (0)), (6, .int (1)), (0, .ref m0), (1, .int (nI (v))), (2, .int (c9)), (3, .int (1)), (4, .int (0))]) hx hb dM_areIn_74 hl (k := 7) rfl rfl (by decide) rfl (fun ls hl => ?_)
          refine lv_goto (tgt := 10) hx hb dM_areIn_77 (by decide) ?_
          exact L10_ih (k) (0) (1) ls H locs (by omega) (by omega) (db_allD_n hal (by omega) (fun q => h64 ((db_bit1 (by omega)).1.mpr (q (db_set_y hd (by omega) h27))))) (lv_sub hl [3, 4, 5, 6, 7, 1, 2, 0] rfl) hG
        refine lv_iconst (v := 1) hx hb dM_areIn_67 (by decide) ?_
        refine lv_goto (tgt := 72) hx hb dM_areIn_68 (by decide) ?_
        refine lv_istore (lv' := [(5, .int (1)), (6, .int (1)), (0, .ref m0), (1, .int (nI (v))), (2, .int (c9)), (3, .int (1)), (4, .int (0)), (7, .int (nI (k)))]) hx hb dM_areIn_72 hl (by decide) rfl (fun ls hl => ?_)
        refine lv_iinc (v := (nI (k)) + (-1)) (lv' := [(7, .int ((nI (k)) + (-1))), (5, .int (1)), (6, .int (1)), (0, .ref m0), (1, .int (nI (v))), (2, .int (c9)), (3, .int (1)), (4, .int (0))]) hx hb dM_areIn_74 hl (k := 7) rfl rfl (by decide) rfl (fun ls hl => ?_)
        refine lv_goto (tgt := 10) hx hb dM_areIn_77 (by decide) ?_
        exact L10_ih (k) (1) (1) ls H locs (by omega) (by omega) (db_allD_y hal h49 (fun _ => (db_bit1 (by omega)).1.mp h64)) (lv_sub hl [3, 4, 5, 6, 7, 1, 2, 0] rfl) hG
      refine lv_iload hx hb dM_areIn_30 (lv_at hl 4 rfl) ?_
      refine lv_if_eq (tgt := 44) hx hb dM_areIn_32 (by decide) (fun h32 => ?_) (fun h32 => ?_)
      · skip
        replace h32 := (nI_eq (a := 0) (b := 0) (by omega) (by omega)).mp h32
        refine lv_iconst (v := 0) hx hb dM_areIn_44 (by decide) ?_
        refine lv_istore (lv' := [(6, .int (0)), (0, .ref m0), (1, .int (nI (v))), (2, .int (c9)), (3, .int (1)), (4, .int (0)), (5, .int (al)), (7, .int (nI (k)))]) hx hb dM_areIn_45 hl (by decide) rfl (fun ls hl => ?_)
        refine lv_iload hx hb dM_areIn_47 (lv_at hl 6 rfl) ?_
        refine lv_if_eq (tgt := 71) hx hb dM_areIn_49 (by decide) (fun h49 => ?_) (fun h49 => ?_)
        · skip
          refine lv_iconst (v := 0) hx hb dM_areIn_71 (by decide) ?_
          refine lv_istore (lv' := [(5, .int (0)), (6, .int (0)), (0, .ref m0), (1, .int (nI (v))), (2, .int (c9)), (3, .int (1)), (4, .int (0)), (7, .int (nI (k)))]) hx hb dM_areIn_72 hl (by decide) rfl (fun ls hl => ?_)
          refine lv_iinc (v := (nI (k)) + (-1)) (lv' := [(7, .int ((nI (k)) + (-1))), (5, .int (0)), (6, .int (0)), (0, .ref m0), (1, .int (nI (v))), (2, .int (c9)), (3, .int (1)), (4, .int (0))]) hx hb dM_areIn_74 hl (k := 7) rfl rfl (by decide) rfl (fun ls hl => ?_)
          refine lv_goto (tgt := 10) hx hb dM_areIn_77 (by decide) ?_
          exact L10_ih (k) (0) (0) ls H locs (by omega) (by omega) (db_allD_f hal h49) (lv_sub hl [3, 4, 5, 6, 7, 1, 2, 0] rfl) hG
        refine lv_iload hx hb dM_areIn_52 (lv_at hl 0 rfl) ?_
        refine lv_if_eq (tgt := 67) hx hb dM_areIn_54 (by decide) (fun h54 => ?_) (fun h54 => ?_)
        · skip
          replace h54 := (nI_eq (a := 0) (b := 0) (by omega) (by omega)).mp h54
          refine lv_iconst (v := 1) hx hb dM_areIn_67 (by decide) ?_
          refine lv_goto (tgt := 72) hx hb dM_areIn_68 (by decide) ?_
          refine lv_istore (lv' := [(5, .int (1)), (6, .int (0)), (0, .ref m0), (1, .int (nI (v))), (2, .int (c9)), (3, .int (1)), (4, .int (0)), (7, .int (nI (k)))]) hx hb dM_areIn_72 hl (by decide) rfl (fun ls hl => ?_)
          refine lv_iinc (v := (nI (k)) + (-1)) (lv' := [(7, .int ((nI (k)) + (-1))), (5, .int (1)), (6, .int (0)), (0, .ref m0), (1, .int (nI (v))), (2, .int (c9)), (3, .int (1)), (4, .int (0))]) hx hb dM_areIn_74 hl (k := 7) rfl rfl (by decide) rfl (fun ls hl => ?_)
          refine lv_goto (tgt := 10) hx hb dM_areIn_77 (by decide) ?_
          exact L10_ih (k) (1) (0) ls H locs (by omega) (by omega) (db_allD_y hal h49 (fun q => by rw [db_set_n hd (by omega) h27] at q; cases q)) (lv_sub hl [3, 4, 5, 6, 7, 1, 2, 0] rfl) hG
        replace h54 : ¬ 0 = 0 := fun hq0 => h54 ((nI_eq (a := 0) (b := 0) (by omega) (by omega)).mpr hq0)
        (exfalso; omega)
      replace h32 : ¬ 0 = 0 := fun hq0 => h32 ((nI_eq (a := 0) (b := 0) (by omega) (by omega)).mpr hq0)
      (exfalso; omega)
  have hl : lv_has ls 8 [(7, .int ((nI (32)) + (-1))), (6, .int (0)), (5, .int (1)), (0, .ref m0), (1, .int (nI (v))), (2, .int (c9)), (3, .int (1)), (4, .int (0))] := hl
  exact L10 _ (32) (1) (0) ls H locs (Nat.lt_succ_self _) (by omega) (db_allD0 _) (lv_sub hl [3, 4, 5, 6, 7, 2, 1, 0] rfl) hG

set_option maxRecDepth 100000 in
set_option maxHeartbeats 4000000 in
theorem rf_areIn00 (l : Launch) (dC : Nat → ClassId) (dI : Nat → Nat → Nat) (cI cZ : ClassId) (m0 aMd aO1 aT2 aSh aMk aFa aDe aNe aBy aPi aNw aNs aBf : Nat) (ft vl rs pd rn rr : Int32) (v : Nat) (De : Nat → Int32) (c9 d : Int32) (sz : Nat) (hv : v < 24) (hd : db_set De v d) : Met l yM_areIn wsM_areIn { frames := 1, cells := 0, slots := 0, locals := 24 } (va_Pc [.ref m0, .int (nI (v)), .int (c9), .int (0), .int (0)] (dw_pre (dC, dI) vwCl [(m0, .inr (5, [.int (ft), .int (vl), .ref aMd, .ref aO1, .ref aT2, .int (rs), .ref aSh, .ref aMk, .ref aFa, .ref aDe, .ref aNe, .ref aBy, .ref aPi, .int (pd), .ref aNw, .ref aNs, .ref aBf, .int (rn), .int (rr)])), (aDe, .inl (cZ, 768, .inl (De)))] [(cI, .int), (cZ, .boolean)] sz)) (va_Qi (fun (r : Int32) (u : Unit) => r = if d &&& c9 = 0 then 1 else 0) (fun u t => dw_post (dC, dI) vwCl [(m0, .inr (5, [.int (ft), .int (vl), .ref aMd, .ref aO1, .ref aT2, .int (rs), .ref aSh, .ref aMk, .ref aFa, .ref aDe, .ref aNe, .ref aBy, .ref aPi, .int (pd), .ref aNw, .ref aNs, .ref aBf, .int (rn), .int (rr)])), (aDe, .inl (cZ, 768, .inl (De)))] [(cI, .int), (cZ, .boolean)] (va_A [(m0, .inr (5, [.int (ft), .int (vl), .ref aMd, .ref aO1, .ref aT2, .int (rs), .ref aSh, .ref aMk, .ref aFa, .ref aDe, .ref aNe, .ref aBy, .ref aPi, .int (pd), .ref aNw, .ref aNs, .ref aBf, .int (rn), .int (rr)])), (aDe, .inl (cZ, 768, .inl (De)))] sz) t) (va_A [(m0, .inr (5, [.int (ft), .int (vl), .ref aMd, .ref aO1, .ref aT2, .int (rs), .ref aSh, .ref aMk, .ref aFa, .ref aDe, .ref aNe, .ref aBy, .ref aPi, .int (pd), .ref aNw, .ref aNs, .ref aBf, .int (rn), .int (rr)])), (aDe, .inl (cZ, 768, .inl (De)))] sz)) 0 0 (va_A [(m0, .inr (5, [.int (ft), .int (vl), .ref aMd, .ref aO1, .ref aT2, .int (rs), .ref aSh, .ref aMk, .ref aFa, .ref aDe, .ref aNe, .ref aBy, .ref aPi, .int (pd), .ref aNw, .ref aNs, .ref aBf, .int (rn), .int (rr)])), (aDe, .inl (cZ, 768, .inl (De)))] sz) := by
  refine Met.ofW (cc := cM_areIn) (maxL := 8) (ret := (some .boolean)) (by decide) rfl ?_
  intro p e s m args below meth c s₁ B hml hv0
  have hx := B.exec
  have hb := B.bytes
  have hr := B.returns
  have hts := atoms_spec (ws := wsM_areIn) B.pre
  have hown : s.vm.findClass RM = some m.cls := findClass_of_methodNamed B.named
  have hlocks := B.notSynchronized
  obtain ⟨rfl, hsz, hG⟩ := dw_enter hv0
  generalize va_A [(m0, .inr (5, [.int (ft), .int (vl), .ref aMd, .ref aO1, .ref aT2, .int (rs), .ref aSh, .ref aMk, .ref aFa, .ref aDe, .ref aNe, .ref aBy, .ref aPi, .int (pd), .ref aNw, .ref aNs, .ref aBf, .int (rn), .int (rr)])), (aDe, .inl (cZ, 768, .inl (De)))] sz = A at hG ⊢
  have hl := lv_entry ([.ref m0, .int (nI (v)), .int (c9), .int (0), .int (0)]) (n := 8) (Nat.le_of_ble_eq_true rfl)
  rw [lg_entry_eq]
  generalize (lg_sl ([.ref m0, .int (nI (v)), .int (c9), .int (0), .int (0)]) ++ List.replicate (8 - (lg_sl ([.ref m0, .int (nI (v)), .int (c9), .int (0), .int (0)])).length) Slot.unset).toArray = ls at hl ⊢
  have hl : lv_has ls 8 [(0, .ref m0), (1, .int (nI (v))), (2, .int (c9)), (3, .int (0)), (4, .int (0))] := hl
  have hw503 := hts _ (List.mem_cons_of_mem _ tw_503)
  refine dw_Q (fun Q hQ => ?_)
  suffices hgo : ∀ (H : Heap) (locs : List Loc), dw_G (dC, dI) vwCl [(cI, .int), (cZ, .boolean)] A s.heap s [(m0, .inr (5, [.int (ft), .int (vl), .ref aMd, .ref aO1, .ref aT2, .int (rs), .ref aSh, .ref aMk, .ref aFa, .ref aDe, .ref aNe, .ref aBy, .ref aPi, .int (pd), .ref aNw, .ref aNs, .ref aBf, .int (rn), .int (rr)])), (aDe, .inl (cZ, 768, .inl (De)))] H locs → W p l e (headSpec wsM_areIn { frames := 1, cells := 0, slots := 0, locals := 24 }).room s m [.ref m0, .int (nI (v)), .int (c9), .int (0), .int (0)].toArray below meth c H locs 0 0 Q (F0 m 0 ls []) from hgo _ _ hG
  clear hG
  intro H locs hG
  refine lv_iconst (v := 1) hx hb dM_areIn_0 (by decide) ?_
  refine lv_istore (lv' := [(5, .int (1)), (0, .ref m0), (1, .int (nI (v))), (2, .int (c9)), (3, .int (0)), (4, .int (0))]) hx hb dM_areIn_1 hl (by decide) rfl (fun ls hl => ?_)
  refine lv_iconst (v := 0) hx hb dM_areIn_3 (by decide) ?_
  refine lv_istore (lv' := [(6, .int (0)), (5, .int (1)), (0, .ref m0), (1, .int (nI (v))), (2, .int (c9)), (3, .int (0)), (4, .int (0))]) hx hb dM_areIn_4 hl (by decide) rfl (fun ls hl => ?_)
  refine lv_bipush (v := 31) hx hb dM_areIn_6 (by decide) ?_
  refine lv_istore (lv' := [(7, .int (31)), (6, .int (0)), (5, .int (1)), (0, .ref m0), (1, .int (nI (v))), (2, .int (c9)), (3, .int (0)), (4, .int (0))]) hx hb dM_areIn_8 hl (by decide) rfl (fun ls hl => ?_)
  have L10 : ∀ (zz : Nat) (i : Nat) (al : Int32) (sm : Int32) (ls : Array Slot) (H : Heap) (locs : List Loc), i < zz → i ≤ 32 → db_allD al (fun i => bt d i = true → bt c9 i = false) i → lv_has ls 8 [(0, .ref m0), (1, .int (nI (v))), (2, .int (c9)), (3, .int (0)), (4, .int (0)), (5, .int (al)), (6, .int (sm)), (7, .int ((nI (i)) + (-1)))] → dw_G (dC, dI) vwCl [(cI, .int), (cZ, .boolean)] A s.heap s [(m0, .inr (5, [.int (ft), .int (vl), .ref aMd, .ref aO1, .ref aT2, .int (rs), .ref aSh, .ref aMk, .ref aFa, .ref aDe, .ref aNe, .ref aBy, .ref aPi, .int (pd), .ref aNw, .ref aNs, .ref aBf, .int (rn), .int (rr)])), (aDe, .inl (cZ, 768, .inl (De)))] H locs → W p l e (headSpec wsM_areIn { frames := 1, cells := 0, slots := 0, locals := 24 }).room s m [.ref m0, .int (nI (v)), .int (c9), .int (0), .int (0)].toArray below meth c H locs 0 0 Q (F0 m 10 ls []) := by
    intro zz
    induction zz with
    | zero => intro i al sm ls H locs hz; exact absurd hz (Nat.not_lt_zero _)
    | succ zz L10_ih =>
      intro i al sm ls H locs hz hi9 hal hl hG
      rcases Nat.eq_zero_or_pos i with hi0 | hi0
      · subst hi0
        have hl : lv_has ls 8 [(0, .ref m0), (1, .int (nI (v))), (2, .int (c9)), (3, .int (0)), (4, .int (0)), (5, .int (al)), (6, .int (sm)), (7, .int (-1))] := hl
        refine lv_iload hx hb dM_areIn_10 (lv_at hl 7 rfl) ?_
        refine lv_if_lt (tgt := 80) hx hb dM_areIn_12 (by decide) (fun h12 => ?_) (fun h12 => ?_)
        · skip
          refine lv_iload hx hb dM_areIn_80 (lv_at hl 5 rfl) ?_
          subst hQ
          exact dw_zret hx hb hr (db_allD_01 hal) hG (()) rfl (db_allD_end hal db_and0.symm) dM_areIn_82 hlocks
        exact absurd (show (-1 : Int32) < 0 by decide) h12
      obtain ⟨k, rfl⟩ : ∃ k, i = k + 1 := ⟨i - 1, by omega⟩
      rw [pk_m1 k] at hl
      refine lv_iload hx hb dM_areIn_10 (lv_at hl 7 rfl) ?_
      refine lv_if_lt (tgt := 80) hx hb dM_areIn_12 (by decide) (fun h12 => ?_) (fun h12 => ?_)
      · skip
        replace h12 := (nI_ltI (a := k) (b := 0) (by omega) (by omega)).mp h12
        (exfalso; omega)
      replace h12 : ¬ k < 0 := fun hq0 => h12 ((nI_ltI (a := k) (b := 0) (by omega) (by omega)).mpr hq0)
      refine lv_aload_n hx hb dM_areIn_15 rfl (lv_at hl 0 rfl) ?_
      refine dw_get hx hb hts inMc hown hG 0 9 rfl rfl (by decide) hw503 rfl rfl dM_areIn_16 ?_
      refine lv_bipush (v := 32) hx hb dM_areIn_19 (by decide) ?_
      refine lv_iload_n hx hb dM_areIn_21 rfl (lv_at hl 1 rfl) ?_
      refine lv_imul hx hb dM_areIn_22 ?_
      refine lv_topi (nm_r (show ((32) * (nI (v)) : Int32) = nI (32 * (v)) from pk_mul (32) (v)) ?_)
      refine lv_iload hx hb dM_areIn_23 (lv_at hl 7 rfl) ?_
      refine lv_iadd hx hb dM_areIn_25 ?_
      refine lv_topi (nm_r (show ((nI (32 * (v))) + (nI (k)) : Int32) = nI (32 * (v) + k) from nI_add (32 * (v)) (k)) ?_)
      refine dw_za (x := (De) (32 * (v) + k)) hx hb hG 1 1 rfl rfl (32 * (v) + k) rfl (by omega) (by decide) rfl dM_areIn_26 ?_
      refine lv_if_ne (tgt := 40) hx hb dM_areIn_27 (by decide) (fun h27 => ?_) (fun h27 => ?_)
      · skip
        refine lv_iconst (v := 1) hx hb dM_areIn_40 (by decide) ?_
        refine lv_goto (tgt := 45) hx hb dM_areIn_41 (by decide) ?_
        refine lv_istore (lv' := [(6, .int (1)), (0, .ref m0), (1, .int (nI (v))), (2, .int (c9)), (3, .int (0)), (4, .int (0)), (5, .int (al)), (7, .int (nI (k)))]) hx hb dM_areIn_45 hl (by decide) rfl (fun ls hl => ?_)
        refine lv_iload hx hb dM_areIn_47 (lv_at hl 6 rfl) ?_
        refine lv_if_eq (tgt := 71) hx hb dM_areIn_49 (by decide) (fun h49 => ?_) (fun h49 => ?_)
        · skip
          refine lv_iconst (v := 0) hx hb dM_areIn_71 (by decide) ?_
          refine lv_istore (lv' := [(5, .int (0)), (6, .int (1)), (0, .ref m0), (1, .int (nI (v))), (2, .int (c9)), (3, .int (0)), (4, .int (0)), (7, .int (nI (k)))]) hx hb dM_areIn_72 hl (by decide) rfl (fun ls hl => ?_)
          refine lv_iinc (v := (nI (k)) + (-1)) (lv' := [(7, .int ((nI (k)) + (-1))), (5, .int (0)), (6, .int (1)), (0, .ref m0), (1, .int (nI (v))), (2, .int (c9)), (3, .int (0)), (4, .int (0))]) hx hb dM_areIn_74 hl (k := 7) rfl rfl (by decide) rfl (fun ls hl => ?_)
          refine lv_goto (tgt := 10) hx hb dM_areIn_77 (by decide) ?_
          exact L10_ih (k) (0) (1) ls H locs (by omega) (by omega) (db_allD_f hal h49) (lv_sub hl [3, 4, 5, 6, 7, 1, 2, 0] rfl) hG
        refine lv_iload hx hb dM_areIn_52 (lv_at hl 0 rfl) ?_
        refine lv_if_eq (tgt := 67) hx hb dM_areIn_54 (by decide) (fun h54 => ?_) (fun h54 => ?_)
        · skip
          replace h54 := (nI_eq (a := 1) (b := 0) (by omega) (by omega)).mp h54
          (exfalso; omega)
        replace h54 : ¬ 1 = 0 := fun hq0 => h54 ((nI_eq (a := 1) (b := 0) (by omega) (by omega)).mpr hq0)
        refine lv_iload_n hx hb dM_areIn_57 rfl (lv_at hl 3 rfl) ?_
        refine lv_iload hx hb dM_areIn_58 (lv_at hl 7 rfl) ?_
        refine dw_calli (wc := []) (wr := [(m0, .inr (5, [.int (ft), .int (vl), .ref aMd, .ref aO1, .ref aT2, .int (rs), .ref aSh, .ref aMk, .ref aFa, .ref aDe, .ref aNe, .ref aBy, .ref aPi, .int (pd), .ref aNw, .ref aNs, .ref aBf, .int (rn), .int (rr)])), (aDe, .inl (cZ, 768, .inl (De)))]) hG [] [0, 1] rfl rfl (by decide) (by decide) (va_runS (As := [.int (c9), .int (nI (k))]) (rest := []) ⟨hx, hb, hml, hown, hts⟩ (rf_bit l dC dI cI cZ (c9) (nI (k)) H.size ) (dc_S 2 hts tw_630 tw_631 tw_7 tw_632 rfl rfl (by decide +kernel) ⟨Nat.le_of_ble_eq_true rfl, Nat.le_of_ble_eq_true rfl⟩) (dw_preS hG [] [0, 1] rfl rfl (by decide) rfl) rfl rfl hl.1 rfl (lv_room (Nat.le_of_ble_eq_true rfl)) dM_areIn_60 ⟨Nat.le_refl _, Nat.le_refl _⟩) (fun r u H locs hp hG => ?_)
        subst hp
        have hG : dw_G (dC, dI) vwCl [(cI, .int), (cZ, .boolean)] A s.heap s [(m0, .inr (5, [.int (ft), .int (vl), .ref aMd, .ref aO1, .ref aT2, .int (rs), .ref aSh, .ref aMk, .ref aFa, .ref aDe, .ref aNe, .ref aBy, .ref aPi, .int (pd), .ref aNw, .ref aNs, .ref aBf, .int (rn), .int (rr)])), (aDe, .inl (cZ, 768, .inl (De)))] H locs := hG
        refine lv_iload_n hx hb dM_areIn_63 rfl (lv_at hl 4 rfl) ?_
        refine lv_icmp_ne (tgt := 71) hx hb dM_areIn_64 (by decide) (fun h64 => ?_) (fun h64 => ?_)
        · skip
          refine lv_iconst (v := 0) hx hb dM_areIn_71 (by decide) ?_
          refine lv_istore (lv' := [(5, .int (0)), (6, .int (1)), (0, .ref m0), (1, .int (nI (v))), (2, .int (c9)), (3, .int (0)), (4, .int (0)), (7, .int (nI (k)))]) hx hb dM_areIn_72 hl (by decide) rfl (fun ls hl => ?_)
          refine lv_iinc (v := (nI (k)) + (-1)) (lv' := [(7, .int ((nI (k)) + (-1))), (5, .int (0)), (6, .int (1)), (0, .ref m0), (1, .int (nI (v))), (2, .int (c9)), (3, .int (0)), (4, .int (0))]) hx hb dM_areIn_74 hl (k := 7) rfl rfl (by decide) rfl (fun ls hl => ?_)
          refine lv_goto (tgt := 10) hx hb dM_areIn_77 (by decide) ?_
          exact L10_ih (k) (0) (1) ls H locs (by omega) (by omega) (db_allD_n hal (by omega) (fun q => h64 ((db_bit1 (by omega)).2.mpr (q (db_set_y hd (by omega) h27))))) (lv_sub hl [3, 4, 5, 6, 7, 1, 2, 0] rfl) hG
        refine lv_iconst (v := 1) hx hb dM_areIn_67 (by decide) ?_
        refine lv_goto (tgt := 72) hx hb dM_areIn_68 (by decide) ?_
        refine lv_istore (lv' := [(5, .int (1)), (6, .int (1)), (0, .ref m0), (1, .int (nI (v))), (2, .int (c9)), (3, .int (0)), (4, .int (0)), (7, .int (nI (k)))]) hx hb dM_areIn_72 hl (by decide) rfl (fun ls hl => ?_)
        refine lv_iinc (v := (nI (k)) + (-1)) (lv' := [(7, .int ((nI (k)) + (-1))), (5, .int (1)), (6, .int (1)), (0, .ref m0), (1, .int (nI (v))), (2, .int (c9)), (3, .int (0)), (4, .int (0))]) hx hb dM_areIn_74 hl (k := 7) rfl rfl (by decide) rfl (fun ls hl => ?_)
        refine lv_goto (tgt := 10) hx hb dM_areIn_77 (by decide) ?_
        exact L10_ih (k) (1) (1) ls H locs (by omega) (by omega) (db_allD_y hal h49 (fun _ => (db_bit1 (by omega)).2.mp h64)) (lv_sub hl [3, 4, 5, 6, 7, 1, 2, 0] rfl) hG
      refine lv_iload hx hb dM_areIn_30 (lv_at hl 4 rfl) ?_
      refine lv_if_eq (tgt := 44) hx hb dM_areIn_32 (by decide) (fun h32 => ?_) (fun h32 => ?_)
      · skip
        replace h32 := (nI_eq (a := 0) (b := 0) (by omega) (by omega)).mp h32
        refine lv_iconst (v := 0) hx hb dM_areIn_44 (by decide) ?_
        refine lv_istore (lv' := [(6, .int (0)), (0, .ref m0), (1, .int (nI (v))), (2, .int (c9)), (3, .int (0)), (4, .int (0)), (5, .int (al)), (7, .int (nI (k)))]) hx hb dM_areIn_45 hl (by decide) rfl (fun ls hl => ?_)
        refine lv_iload hx hb dM_areIn_47 (lv_at hl 6 rfl) ?_
        refine lv_if_eq (tgt := 71) hx hb dM_areIn_49 (by decide) (fun h49 => ?_) (fun h49 => ?_)
        · skip
          refine lv_iconst (v := 0) hx hb dM_areIn_71 (by decide) ?_
          refine lv_istore (lv' := [(5, .int (0)), (6, .int (0)), (0, .ref m0), (1, .int (nI (v))), (2, .int (c9)), (3, .int (0)), (4, .int (0)), (7, .int (nI (k)))]) hx hb dM_areIn_72 hl (by decide) rfl (fun ls hl => ?_)
          refine lv_iinc (v := (nI (k)) + (-1)) (lv' := [(7, .int ((nI (k)) + (-1))), (5, .int (0)), (6, .int (0)), (0, .ref m0), (1, .int (nI (v))), (2, .int (c9)), (3, .int (0)), (4, .int (0))]) hx hb dM_areIn_74 hl (k := 7) rfl rfl (by decide) rfl (fun ls hl => ?_)
          refine lv_goto (tgt := 10) hx hb dM_areIn_77 (by decide) ?_
          exact L10_ih (k) (0) (0) ls H locs (by omega) (by omega) (db_allD_f hal h49) (lv_sub hl [3, 4, 5, 6, 7, 1, 2, 0] rfl) hG
        refine lv_iload hx hb dM_areIn_52 (lv_at hl 0 rfl) ?_
        refine lv_if_eq (tgt := 67) hx hb dM_areIn_54 (by decide) (fun h54 => ?_) (fun h54 => ?_)
        · skip
          replace h54 := (nI_eq (a := 0) (b := 0) (by omega) (by omega)).mp h54
          refine lv_iconst (v := 1) hx hb dM_areIn_67 (by decide) ?_
          refine lv_goto (tgt := 72) hx hb dM_areIn_68 (by decide) ?_
          refine lv_istore (lv' := [(5, .int (1)), (6, .int (0)), (0, .ref m0), (1, .int (nI (v))), (2, .int (c9)), (3, .int (0)), (4, .int (0)), (7, .int (nI (k)))]) hx hb dM_areIn_72 hl (by decide) rfl (fun ls hl => ?_)
          refine lv_iinc (v := (nI (k)) + (-1)) (lv' := [(7, .int ((nI (k)) + (-1))), (5, .int (1)), (6, .int (0)), (0, .ref m0), (1, .int (nI (v))), (2, .int (c9)), (3, .int (0)), (4, .int (0))]) hx hb dM_areIn_74 hl (k := 7) rfl rfl (by decide) rfl (fun ls hl => ?_)
          refine lv_goto (tgt := 10) hx hb dM_areIn_77 (by decide) ?_
          exact L10_ih (k) (1) (0) ls H locs (by omega) (by omega) (db_allD_y hal h49 (fun q => by rw [db_set_n hd (by omega) h27] at q; cases q)) (lv_sub hl [3, 4, 5, 6, 7, 1, 2, 0] rfl) hG
        replace h54 : ¬ 0 = 0 := fun hq0 => h54 ((nI_eq (a := 0) (b := 0) (by omega) (by omega)).mpr hq0)
        (exfalso; omega)
      replace h32 : ¬ 0 = 0 := fun hq0 => h32 ((nI_eq (a := 0) (b := 0) (by omega) (by omega)).mpr hq0)
      (exfalso; omega)
  have hl : lv_has ls 8 [(7, .int ((nI (32)) + (-1))), (6, .int (0)), (5, .int (1)), (0, .ref m0), (1, .int (nI (v))), (2, .int (c9)), (3, .int (0)), (4, .int (0))] := hl
  exact L10 _ (32) (1) (0) ls H locs (Nat.lt_succ_self _) (by omega) (db_allD0 _) (lv_sub hl [3, 4, 5, 6, 7, 2, 1, 0] rfl) hG

set_option maxRecDepth 100000 in
set_option maxHeartbeats 4000000 in
theorem rf_areIn01 (l : Launch) (dC : Nat → ClassId) (dI : Nat → Nat → Nat) (cI cZ : ClassId) (m0 aMd aO1 aT2 aSh aMk aFa aDe aNe aBy aPi aNw aNs aBf : Nat) (ft vl rs pd rn rr : Int32) (v : Nat) (De : Nat → Int32) (c9 d : Int32) (sz : Nat) (hv : v < 24) (hd : db_set De v d) : Met l yM_areIn wsM_areIn { frames := 1, cells := 0, slots := 0, locals := 24 } (va_Pc [.ref m0, .int (nI (v)), .int (c9), .int (0), .int (1)] (dw_pre (dC, dI) vwCl [(m0, .inr (5, [.int (ft), .int (vl), .ref aMd, .ref aO1, .ref aT2, .int (rs), .ref aSh, .ref aMk, .ref aFa, .ref aDe, .ref aNe, .ref aBy, .ref aPi, .int (pd), .ref aNw, .ref aNs, .ref aBf, .int (rn), .int (rr)])), (aDe, .inl (cZ, 768, .inl (De)))] [(cI, .int), (cZ, .boolean)] sz)) (va_Qi (fun (r : Int32) (u : Unit) => r = if db_upto d &&& c9 = 0 then 1 else 0) (fun u t => dw_post (dC, dI) vwCl [(m0, .inr (5, [.int (ft), .int (vl), .ref aMd, .ref aO1, .ref aT2, .int (rs), .ref aSh, .ref aMk, .ref aFa, .ref aDe, .ref aNe, .ref aBy, .ref aPi, .int (pd), .ref aNw, .ref aNs, .ref aBf, .int (rn), .int (rr)])), (aDe, .inl (cZ, 768, .inl (De)))] [(cI, .int), (cZ, .boolean)] (va_A [(m0, .inr (5, [.int (ft), .int (vl), .ref aMd, .ref aO1, .ref aT2, .int (rs), .ref aSh, .ref aMk, .ref aFa, .ref aDe, .ref aNe, .ref aBy, .ref aPi, .int (pd), .ref aNw, .ref aNs, .ref aBf, .int (rn), .int (rr)])), (aDe, .inl (cZ, 768, .inl (De)))] sz) t) (va_A [(m0, .inr (5, [.int (ft), .int (vl), .ref aMd, .ref aO1, .ref aT2, .int (rs), .ref aSh, .ref aMk, .ref aFa, .ref aDe, .ref aNe, .ref aBy, .ref aPi, .int (pd), .ref aNw, .ref aNs, .ref aBf, .int (rn), .int (rr)])), (aDe, .inl (cZ, 768, .inl (De)))] sz)) 0 0 (va_A [(m0, .inr (5, [.int (ft), .int (vl), .ref aMd, .ref aO1, .ref aT2, .int (rs), .ref aSh, .ref aMk, .ref aFa, .ref aDe, .ref aNe, .ref aBy, .ref aPi, .int (pd), .ref aNw, .ref aNs, .ref aBf, .int (rn), .int (rr)])), (aDe, .inl (cZ, 768, .inl (De)))] sz) := by
  refine Met.ofW (cc := cM_areIn) (maxL := 8) (ret := (some .boolean)) (by decide) rfl ?_
  intro p e s m args below meth c s₁ B hml hv0
  have hx := B.exec
  have hb := B.bytes
  have hr := B.returns
  have hts := atoms_spec (ws := wsM_areIn) B.pre
  have hown : s.vm.findClass RM = some m.cls := findClass_of_methodNamed B.named
  have hlocks := B.notSynchronized
  obtain ⟨rfl, hsz, hG⟩ := dw_enter hv0
  generalize va_A [(m0, .inr (5, [.int (ft), .int (vl), .ref aMd, .ref aO1, .ref aT2, .int (rs), .ref aSh, .ref aMk, .ref aFa, .ref aDe, .ref aNe, .ref aBy, .ref aPi, .int (pd), .ref aNw, .ref aNs, .ref aBf, .int (rn), .int (rr)])), (aDe, .inl (cZ, 768, .inl (De)))] sz = A at hG ⊢
  have hl := lv_entry ([.ref m0, .int (nI (v)), .int (c9), .int (0), .int (1)]) (n := 8) (Nat.le_of_ble_eq_true rfl)
  rw [lg_entry_eq]
  generalize (lg_sl ([.ref m0, .int (nI (v)), .int (c9), .int (0), .int (1)]) ++ List.replicate (8 - (lg_sl ([.ref m0, .int (nI (v)), .int (c9), .int (0), .int (1)])).length) Slot.unset).toArray = ls at hl ⊢
  have hl : lv_has ls 8 [(0, .ref m0), (1, .int (nI (v))), (2, .int (c9)), (3, .int (0)), (4, .int (1))] := hl
  have hw503 := hts _ (List.mem_cons_of_mem _ tw_503)
  refine dw_Q (fun Q hQ => ?_)
  suffices hgo : ∀ (H : Heap) (locs : List Loc), dw_G (dC, dI) vwCl [(cI, .int), (cZ, .boolean)] A s.heap s [(m0, .inr (5, [.int (ft), .int (vl), .ref aMd, .ref aO1, .ref aT2, .int (rs), .ref aSh, .ref aMk, .ref aFa, .ref aDe, .ref aNe, .ref aBy, .ref aPi, .int (pd), .ref aNw, .ref aNs, .ref aBf, .int (rn), .int (rr)])), (aDe, .inl (cZ, 768, .inl (De)))] H locs → W p l e (headSpec wsM_areIn { frames := 1, cells := 0, slots := 0, locals := 24 }).room s m [.ref m0, .int (nI (v)), .int (c9), .int (0), .int (1)].toArray below meth c H locs 0 0 Q (F0 m 0 ls []) from hgo _ _ hG
  clear hG
  intro H locs hG
  refine lv_iconst (v := 1) hx hb dM_areIn_0 (by decide) ?_
  refine lv_istore (lv' := [(5, .int (1)), (0, .ref m0), (1, .int (nI (v))), (2, .int (c9)), (3, .int (0)), (4, .int (1))]) hx hb dM_areIn_1 hl (by decide) rfl (fun ls hl => ?_)
  refine lv_iconst (v := 0) hx hb dM_areIn_3 (by decide) ?_
  refine lv_istore (lv' := [(6, .int (0)), (5, .int (1)), (0, .ref m0), (1, .int (nI (v))), (2, .int (c9)), (3, .int (0)), (4, .int (1))]) hx hb dM_areIn_4 hl (by decide) rfl (fun ls hl => ?_)
  refine lv_bipush (v := 31) hx hb dM_areIn_6 (by decide) ?_
  refine lv_istore (lv' := [(7, .int (31)), (6, .int (0)), (5, .int (1)), (0, .ref m0), (1, .int (nI (v))), (2, .int (c9)), (3, .int (0)), (4, .int (1))]) hx hb dM_areIn_8 hl (by decide) rfl (fun ls hl => ?_)
  have L10 : ∀ (zz : Nat) (i : Nat) (al : Int32) (sm : Int32) (ls : Array Slot) (H : Heap) (locs : List Loc), i < zz → i ≤ 32 → db_allD al (fun i => (∃ k, k < 32 ∧ bt d k = true ∧ i ≤ k) → bt c9 i = false) i → db_smD sm d i → lv_has ls 8 [(0, .ref m0), (1, .int (nI (v))), (2, .int (c9)), (3, .int (0)), (4, .int (1)), (5, .int (al)), (6, .int (sm)), (7, .int ((nI (i)) + (-1)))] → dw_G (dC, dI) vwCl [(cI, .int), (cZ, .boolean)] A s.heap s [(m0, .inr (5, [.int (ft), .int (vl), .ref aMd, .ref aO1, .ref aT2, .int (rs), .ref aSh, .ref aMk, .ref aFa, .ref aDe, .ref aNe, .ref aBy, .ref aPi, .int (pd), .ref aNw, .ref aNs, .ref aBf, .int (rn), .int (rr)])), (aDe, .inl (cZ, 768, .inl (De)))] H locs → W p l e (headSpec wsM_areIn { frames := 1, cells := 0, slots := 0, locals := 24 }).room s m [.ref m0, .int (nI (v)), .int (c9), .int (0), .int (1)].toArray below meth c H locs 0 0 Q (F0 m 10 ls []) := by
    intro zz
    induction zz with
    | zero => intro i al sm ls H locs hz; exact absurd hz (Nat.not_lt_zero _)
    | succ zz L10_ih =>
      intro i al sm ls H locs hz hi9 hal hsm hl hG
      rcases Nat.eq_zero_or_pos i with hi0 | hi0
      · subst hi0
        have hl : lv_has ls 8 [(0, .ref m0), (1, .int (nI (v))), (2, .int (c9)), (3, .int (0)), (4, .int (1)), (5, .int (al)), (6, .int (sm)), (7, .int (-1))] := hl
        refine lv_iload hx hb dM_areIn_10 (lv_at hl 7 rfl) ?_
        refine lv_if_lt (tgt := 80) hx hb dM_areIn_12 (by decide) (fun h12 => ?_) (fun h12 => ?_)
        · skip
          refine lv_iload hx hb dM_areIn_80 (lv_at hl 5 rfl) ?_
          subst hQ
          exact dw_zret hx hb hr (db_allD_01 hal) hG (()) rfl (db_allD_end hal db_in0u.symm) dM_areIn_82 hlocks
        exact absurd (show (-1 : Int32) < 0 by decide) h12
      obtain ⟨k, rfl⟩ : ∃ k, i = k + 1 := ⟨i - 1, by omega⟩
      rw [pk_m1 k] at hl
      refine lv_iload hx hb dM_areIn_10 (lv_at hl 7 rfl) ?_
      refine lv_if_lt (tgt := 80) hx hb dM_areIn_12 (by decide) (fun h12 => ?_) (fun h12 => ?_)
      · skip
        replace h12 := (nI_ltI (a := k) (b := 0) (by omega) (by omega)).mp h12
        (exfalso; omega)
      replace h12 : ¬ k < 0 := fun hq0 => h12 ((nI_ltI (a := k) (b := 0) (by omega) (by omega)).mpr hq0)
      refine lv_aload_n hx hb dM_areIn_15 rfl (lv_at hl 0 rfl) ?_
      refine dw_get hx hb hts inMc hown hG 0 9 rfl rfl (by decide) hw503 rfl rfl dM_areIn_16 ?_
      refine lv_bipush (v := 32) hx hb dM_areIn_19 (by decide) ?_
      refine lv_iload_n hx hb dM_areIn_21 rfl (lv_at hl 1 rfl) ?_
      refine lv_imul hx hb dM_areIn_22 ?_
      refine lv_topi (nm_r (show ((32) * (nI (v)) : Int32) = nI (32 * (v)) from pk_mul (32) (v)) ?_)
      refine lv_iload hx hb dM_areIn_23 (lv_at hl 7 rfl) ?_
      refine lv_iadd hx hb dM_areIn_25 ?_
      refine lv_topi (nm_r (show ((nI (32 * (v))) + (nI (k)) : Int32) = nI (32 * (v) + k) from nI_add (32 * (v)) (k)) ?_)
      refine dw_za (x := (De) (32 * (v) + k)) hx hb hG 1 1 rfl rfl (32 * (v) + k) rfl (by omega) (by decide) rfl dM_areIn_26 ?_
      refine lv_if_ne (tgt := 40) hx hb dM_areIn_27 (by decide) (fun h27 => ?_) (fun h27 => ?_)
      · skip
        refine lv_iconst (v := 1) hx hb dM_areIn_40 (by decide) ?_
        refine lv_goto (tgt := 45) hx hb dM_areIn_41 (by decide) ?_
        refine lv_istore (lv' := [(6, .int (1)), (0, .ref m0), (1, .int (nI (v))), (2, .int (c9)), (3, .int (0)), (4, .int (1)), (5, .int (al)), (7, .int (nI (k)))]) hx hb dM_areIn_45 hl (by decide) rfl (fun ls hl => ?_)
        refine lv_iload hx hb dM_areIn_47 (lv_at hl 6 rfl) ?_
        refine lv_if_eq (tgt := 71) hx hb dM_areIn_49 (by decide) (fun h49 => ?_) (fun h49 => ?_)
        · skip
          refine lv_iconst (v := 0) hx hb dM_areIn_71 (by decide) ?_
          refine lv_istore (lv' := [(5, .int (0)), (6, .int (1)), (0, .ref m0), (1, .int (nI (v))), (2, .int (c9)), (3, .int (0)), (4, .int (1)), (7, .int (nI (k)))]) hx hb dM_areIn_72 hl (by decide) rfl (fun ls hl => ?_)
          refine lv_iinc (v := (nI (k)) + (-1)) (lv' := [(7, .int ((nI (k)) + (-1))), (5, .int (0)), (6, .int (1)), (0, .ref m0), (1, .int (nI (v))), (2, .int (c9)), (3, .int (0)), (4, .int (1))]) hx hb dM_areIn_74 hl (k := 7) rfl rfl (by decide) rfl (fun ls hl => ?_)
          refine lv_goto (tgt := 10) hx hb dM_areIn_77 (by decide) ?_
          have hsn : db_smD 1 d k := (db_smD_y hsm (by omega) (db_set_y hd (by omega) h27))
          exact L10_ih (k) (0) (1) ls H locs (by omega) (by omega) (db_allD_f hal h49) hsn (lv_sub hl [3, 4, 5, 6, 7, 1, 2, 0] rfl) hG
        refine lv_iload hx hb dM_areIn_52 (lv_at hl 0 rfl) ?_
        refine lv_if_eq (tgt := 67) hx hb dM_areIn_54 (by decide) (fun h54 => ?_) (fun h54 => ?_)
        · skip
          replace h54 := (nI_eq (a := 1) (b := 0) (by omega) (by omega)).mp h54
          (exfalso; omega)
        replace h54 : ¬ 1 = 0 := fun hq0 => h54 ((nI_eq (a := 1) (b := 0) (by omega) (by omega)).mpr hq0)
        refine lv_iload_n hx hb dM_areIn_57 rfl (lv_at hl 3 rfl) ?_
        refine lv_iload hx hb dM_areIn_58 (lv_at hl 7 rfl) ?_
        refine dw_calli (wc := []) (wr := [(m0, .inr (5, [.int (ft), .int (vl), .ref aMd, .ref aO1, .ref aT2, .int (rs), .ref aSh, .ref aMk, .ref aFa, .ref aDe, .ref aNe, .ref aBy, .ref aPi, .int (pd), .ref aNw, .ref aNs, .ref aBf, .int (rn), .int (rr)])), (aDe, .inl (cZ, 768, .inl (De)))]) hG [] [0, 1] rfl rfl (by decide) (by decide) (va_runS (As := [.int (c9), .int (nI (k))]) (rest := []) ⟨hx, hb, hml, hown, hts⟩ (rf_bit l dC dI cI cZ (c9) (nI (k)) H.size ) (dc_S 2 hts tw_630 tw_631 tw_7 tw_632 rfl rfl (by decide +kernel) ⟨Nat.le_of_ble_eq_true rfl, Nat.le_of_ble_eq_true rfl⟩) (dw_preS hG [] [0, 1] rfl rfl (by decide) rfl) rfl rfl hl.1 rfl (lv_room (Nat.le_of_ble_eq_true rfl)) dM_areIn_60 ⟨Nat.le_refl _, Nat.le_refl _⟩) (fun r u H locs hp hG => ?_)
        subst hp
        have hG : dw_G (dC, dI) vwCl [(cI, .int), (cZ, .boolean)] A s.heap s [(m0, .inr (5, [.int (ft), .int (vl), .ref aMd, .ref aO1, .ref aT2, .int (rs), .ref aSh, .ref aMk, .ref aFa, .ref aDe, .ref aNe, .ref aBy, .ref aPi, .int (pd), .ref aNw, .ref aNs, .ref aBf, .int (rn), .int (rr)])), (aDe, .inl (cZ, 768, .inl (De)))] H locs := hG
        refine lv_iload_n hx hb dM_areIn_63 rfl (lv_at hl 4 rfl) ?_
        refine lv_icmp_ne (tgt := 71) hx hb dM_areIn_64 (by decide) (fun h64 => ?_) (fun h64 => ?_)
        · skip
          refine lv_iconst (v := 0) hx hb dM_areIn_71 (by decide) ?_
          refine lv_istore (lv' := [(5, .int (0)), (6, .int (1)), (0, .ref m0), (1, .int (nI (v))), (2, .int (c9)), (3, .int (0)), (4, .int (1)), (7, .int (nI (k)))]) hx hb dM_areIn_72 hl (by decide) rfl (fun ls hl => ?_)
          refine lv_iinc (v := (nI (k)) + (-1)) (lv' := [(7, .int ((nI (k)) + (-1))), (5, .int (0)), (6, .int (1)), (0, .ref m0), (1, .int (nI (v))), (2, .int (c9)), (3, .int (0)), (4, .int (1))]) hx hb dM_areIn_74 hl (k := 7) rfl rfl (by decide) rfl (fun ls hl => ?_)
          refine lv_goto (tgt := 10) hx hb dM_areIn_77 (by decide) ?_
          have hsn : db_smD 1 d k := (db_smD_y hsm (by omega) (db_set_y hd (by omega) h27))
          exact L10_ih (k) (0) (1) ls H locs (by omega) (by omega) (db_allD_n hal (by omega) (fun q => h64 ((db_bit1 (by omega)).2.mpr (q (db_smD_yes hsn))))) hsn (lv_sub hl [3, 4, 5, 6, 7, 1, 2, 0] rfl) hG
        refine lv_iconst (v := 1) hx hb dM_areIn_67 (by decide) ?_
        refine lv_goto (tgt := 72) hx hb dM_areIn_68 (by decide) ?_
        refine lv_istore (lv' := [(5, .int (1)), (6, .int (1)), (0, .ref m0), (1, .int (nI (v))), (2, .int (c9)), (3, .int (0)), (4, .int (1)), (7, .int (nI (k)))]) hx hb dM_areIn_72 hl (by decide) rfl (fun ls hl => ?_)
        refine lv_iinc (v := (nI (k)) + (-1)) (lv' := [(7, .int ((nI (k)) + (-1))), (5, .int (1)), (6, .int (1)), (0, .ref m0), (1, .int (nI (v))), (2, .int (c9)), (3, .int (0)), (4, .int (1))]) hx hb dM_areIn_74 hl (k := 7) rfl rfl (by decide) rfl (fun ls hl => ?_)
        refine lv_goto (tgt := 10) hx hb dM_areIn_77 (by decide) ?_
        have hsn : db_smD 1 d k := (db_smD_y hsm (by omega) (db_set_y hd (by omega) h27))
        exact L10_ih (k) (1) (1) ls H locs (by omega) (by omega) (db_allD_y hal h49 (fun _ => (db_bit1 (by omega)).2.mp h64)) hsn (lv_sub hl [3, 4, 5, 6, 7, 1, 2, 0] rfl) hG
      refine lv_iload hx hb dM_areIn_30 (lv_at hl 4 rfl) ?_
      refine lv_if_eq (tgt := 44) hx hb dM_areIn_32 (by decide) (fun h32 => ?_) (fun h32 => ?_)
      · skip
        replace h32 := (nI_eq (a := 1) (b := 0) (by omega) (by omega)).mp h32
        (exfalso; omega)
      replace h32 : ¬ 1 = 0 := fun hq0 => h32 ((nI_eq (a := 1) (b := 0) (by omega) (by omega)).mpr hq0)
      refine lv_iload hx hb dM_areIn_35 (lv_at hl 6 rfl) ?_
      refine lv_if_eq (tgt := 44) hx hb dM_areIn_37 (by decide) (fun h37 => ?_) (fun h37 => ?_)
      · skip
        refine lv_iconst (v := 0) hx hb dM_areIn_44 (by decide) ?_
        refine lv_istore (lv' := [(6, .int (0)), (0, .ref m0), (1, .int (nI (v))), (2, .int (c9)), (3, .int (0)), (4, .int (1)), (5, .int (al)), (7, .int (nI (k)))]) hx hb dM_areIn_45 hl (by decide) rfl (fun ls hl => ?_)
        refine lv_iload hx hb dM_areIn_47 (lv_at hl 6 rfl) ?_
        refine lv_if_eq (tgt := 71) hx hb dM_areIn_49 (by decide) (fun h49 => ?_) (fun h49 => ?_)
        · skip
          refine lv_iconst (v := 0) hx hb dM_areIn_71 (by decide) ?_
          refine lv_istore (lv' := [(5, .int (0)), (6, .int (0)), (0, .ref m0), (1, .int (nI (v))), (2, .int (c9)), (3, .int (0)), (4, .int (1)), (7, .int (nI (k)))]) hx hb dM_areIn_72 hl (by decide) rfl (fun ls hl => ?_)
          refine lv_iinc (v := (nI (k)) + (-1)) (lv' := [(7, .int ((nI (k)) + (-1))), (5, .int (0)), (6, .int (0)), (0, .ref m0), (1, .int (nI (v))), (2, .int (c9)), (3, .int (0)), (4, .int (1))]) hx hb dM_areIn_74 hl (k := 7) rfl rfl (by decide) rfl (fun ls hl => ?_)
          refine lv_goto (tgt := 10) hx hb dM_areIn_77 (by decide) ?_
          have hsn : db_smD 0 d k := (db_smD_0 hsm h37 (db_set_n hd (by omega) h27))
          exact L10_ih (k) (0) (0) ls H locs (by omega) (by omega) (db_allD_f hal h49) hsn (lv_sub hl [3, 4, 5, 6, 7, 1, 2, 0] rfl) hG
        refine lv_iload hx hb dM_areIn_52 (lv_at hl 0 rfl) ?_
        refine lv_if_eq (tgt := 67) hx hb dM_areIn_54 (by decide) (fun h54 => ?_) (fun h54 => ?_)
        · skip
          replace h54 := (nI_eq (a := 0) (b := 0) (by omega) (by omega)).mp h54
          refine lv_iconst (v := 1) hx hb dM_areIn_67 (by decide) ?_
          refine lv_goto (tgt := 72) hx hb dM_areIn_68 (by decide) ?_
          refine lv_istore (lv' := [(5, .int (1)), (6, .int (0)), (0, .ref m0), (1, .int (nI (v))), (2, .int (c9)), (3, .int (0)), (4, .int (1)), (7, .int (nI (k)))]) hx hb dM_areIn_72 hl (by decide) rfl (fun ls hl => ?_)
          refine lv_iinc (v := (nI (k)) + (-1)) (lv' := [(7, .int ((nI (k)) + (-1))), (5, .int (1)), (6, .int (0)), (0, .ref m0), (1, .int (nI (v))), (2, .int (c9)), (3, .int (0)), (4, .int (1))]) hx hb dM_areIn_74 hl (k := 7) rfl rfl (by decide) rfl (fun ls hl => ?_)
          refine lv_goto (tgt := 10) hx hb dM_areIn_77 (by decide) ?_
          have hsn : db_smD 0 d k := (db_smD_0 hsm h37 (db_set_n hd (by omega) h27))
          exact L10_ih (k) (1) (0) ls H locs (by omega) (by omega) (db_allD_y hal h49 (fun q => absurd q (db_smD_no hsn))) hsn (lv_sub hl [3, 4, 5, 6, 7, 1, 2, 0] rfl) hG
        replace h54 : ¬ 0 = 0 := fun hq0 => h54 ((nI_eq (a := 0) (b := 0) (by omega) (by omega)).mpr hq0)
        (exfalso; omega)
      refine lv_iconst (v := 1) hx hb dM_areIn_40 (by decide) ?_
      refine lv_goto (tgt := 45) hx hb dM_areIn_41 (by decide) ?_
      refine lv_istore (lv' := [(6, .int (1)), (0, .ref m0), (1, .int (nI (v))), (2, .int (c9)), (3, .int (0)), (4, .int (1)), (5, .int (al)), (7, .int (nI (k)))]) hx hb dM_areIn_45 hl (by decide) rfl (fun ls hl => ?_)
      refine lv_iload hx hb dM_areIn_47 (lv_at hl 6 rfl) ?_
      refine lv_if_eq (tgt := 71) hx hb dM_areIn_49 (by decide) (fun h49 => ?_) (fun h49 => ?_)
      · skip
        refine lv_iconst (v := 0) hx hb dM_areIn_71 (by decide) ?_
        refine lv_istore (lv' := [(5, .int (0)), (6, .int (1)), (0, .ref m0), (1, .int (nI (v))), (2, .int (c9)), (3, .int (0)), (4, .int (1)), (7, .int (nI (k)))]) hx hb dM_areIn_72 hl (by decide) rfl (fun ls hl => ?_)
        refine lv_iinc (v := (nI (k)) + (-1)) (lv' := [(7, .int ((nI (k)) + (-1))), (5, .int (0)), (6, .int (1)), (0, .ref m0), (1, .int (nI (v))), (2, .int (c9)), (3, .int (0)), (4, .int (1))]) hx hb dM_areIn_74 hl (k := 7) rfl rfl (by decide) rfl (fun ls hl => ?_)
        refine lv_goto (tgt := 10) hx hb dM_areIn_77 (by decide) ?_
        have hsn : db_smD 1 d k := (db_smD_1 hsm h37)
        exact L10_ih (k) (0) (1) ls H locs (by omega) (by omega) (db_allD_f hal h49) hsn (lv_sub hl [3, 4, 5, 6, 7, 1, 2, 0] rfl) hG
      refine lv_iload hx hb dM_areIn_52 (lv_at hl 0 rfl) ?_
      refine lv_if_eq (tgt := 67) hx hb dM_areIn_54 (by decide) (fun h54 => ?_) (fun h54 => ?_)
      · skip
        replace h54 := (nI_eq (a := 1) (b := 0) (by omega) (by omega)).mp h54
        (exfalso; omega)
      replace h54 : ¬ 1 = 0 := fun hq0 => h54 ((nI_eq (a := 1) (b := 0) (by omega) (by omega)).mpr hq0)
      refine lv_iload_n hx hb dM_areIn_57 rfl (lv_at hl 3 rfl) ?_
      refine lv_iload hx hb dM_areIn_58 (lv_at hl 7 rfl) ?_
      refine dw_calli (wc := []) (wr := [(m0, .inr (5, [.int (ft), .int (vl), .ref aMd, .ref aO1, .ref aT2, .int (rs), .ref aSh, .ref aMk, .ref aFa, .ref aDe, .ref aNe, .ref aBy, .ref aPi, .int (pd), .ref aNw, .ref aNs, .ref aBf, .int (rn), .int (rr)])), (aDe, .inl (cZ, 768, .inl (De)))]) hG [] [0, 1] rfl rfl (by decide) (by decide) (va_runS (As := [.int (c9), .int (nI (k))]) (rest := []) ⟨hx, hb, hml, hown, hts⟩ (rf_bit l dC dI cI cZ (c9) (nI (k)) H.size ) (dc_S 2 hts tw_630 tw_631 tw_7 tw_632 rfl rfl (by decide +kernel) ⟨Nat.le_of_ble_eq_true rfl, Nat.le_of_ble_eq_true rfl⟩) (dw_preS hG [] [0, 1] rfl rfl (by decide) rfl) rfl rfl hl.1 rfl (lv_room (Nat.le_of_ble_eq_true rfl)) dM_areIn_60 ⟨Nat.le_refl _, Nat.le_refl _⟩) (fun r u H locs hp hG => ?_)
      subst hp
      have hG : dw_G (dC, dI) vwCl [(cI, .int), (cZ, .boolean)] A s.heap s [(m0, .inr (5, [.int (ft), .int (vl), .ref aMd, .ref aO1, .ref aT2, .int (rs), .ref aSh, .ref aMk, .ref aFa, .ref aDe, .ref aNe, .ref aBy, .ref aPi, .int (pd), .ref aNw, .ref aNs, .ref aBf, .int (rn), .int (rr)])), (aDe, .inl (cZ, 768, .inl (De)))] H locs := hG
      refine lv_iload_n hx hb dM_areIn_63 rfl (lv_at hl 4 rfl) ?_
      refine lv_icmp_ne (tgt := 71) hx hb dM_areIn_64 (by decide) (fun h64 => ?_) (fun h64 => ?_)
      · skip
        refine lv_iconst (v := 0) hx hb dM_areIn_71 (by decide) ?_
        refine lv_istore (lv' := [(5, .int (0)), (6, .int (1)), (0, .ref m0), (1, .int (nI (v))), (2, .int (c9)), (3, .int (0)), (4, .int (1)), (7, .int (nI (k)))]) hx hb dM_areIn_72 hl (by decide) rfl (fun ls hl => ?_)
        refine lv_iinc (v := (nI (k)) + (-1)) (lv' := [(7, .int ((nI (k)) + (-1))), (5, .int (0)), (6, .int (1)), (0, .ref m0), (1, .int (nI (v))), (2, .int (c9)), (3, .int (0)), (4, .int (1))]) hx hb dM_areIn_74 hl (k := 7) rfl rfl (by decide) rfl (fun ls hl => ?_)
        refine lv_goto (tgt := 10) hx hb dM_areIn_77 (by decide) ?_
        have hsn : db_smD 1 d k := (db_smD_1 hsm h37)
        exact L10_ih (k) (0) (1) ls H locs (by omega) (by omega) (db_allD_n hal (by omega) (fun q => h64 ((db_bit1 (by omega)).2.mpr (q (db_smD_yes hsn))))) hsn (lv_sub hl [3, 4, 5, 6, 7, 1, 2, 0] rfl) hG
      refine lv_iconst (v := 1) hx hb dM_areIn_67 (by decide) ?_
      refine lv_goto (tgt := 72) hx hb dM_areIn_68 (by decide) ?_
      refine lv_istore (lv' := [(5, .int (1)), (6, .int (1)), (0, .ref m0), (1, .int (nI (v))), (2, .int (c9)), (3, .int (0)), (4, .int (1)), (7, .int (nI (k)))]) hx hb dM_areIn_72 hl (by decide) rfl (fun ls hl => ?_)
      refine lv_iinc (v := (nI (k)) + (-1)) (lv' := [(7, .int ((nI (k)) + (-1))), (5, .int (1)), (6, .int (1)), (0, .ref m0), (1, .int (nI (v))), (2, .int (c9)), (3, .int (0)), (4, .int (1))]) hx hb dM_areIn_74 hl (k := 7) rfl rfl (by decide) rfl (fun ls hl => ?_)
      refine lv_goto (tgt := 10) hx hb dM_areIn_77 (by decide) ?_
      have hsn : db_smD 1 d k := (db_smD_1 hsm h37)
      exact L10_ih (k) (1) (1) ls H locs (by omega) (by omega) (db_allD_y hal h49 (fun _ => (db_bit1 (by omega)).2.mp h64)) hsn (lv_sub hl [3, 4, 5, 6, 7, 1, 2, 0] rfl) hG
  have hl : lv_has ls 8 [(7, .int ((nI (32)) + (-1))), (6, .int (0)), (5, .int (1)), (0, .ref m0), (1, .int (nI (v))), (2, .int (c9)), (3, .int (0)), (4, .int (1))] := hl
  exact L10 _ (32) (1) (0) ls H locs (Nat.lt_succ_self _) (by omega) (db_allD0 _) (db_smD0 _) (lv_sub hl [3, 4, 5, 6, 7, 2, 1, 0] rfl) hG

