set_option maxRecDepth 100000 in
set_option maxHeartbeats 4000000 in
theorem ce_find (l : Launch) (dC : Nat → ClassId) (dI : Nat → Nat → Nat) (cI cZ : ClassId) (e0 aD : Nat) (ec : Int32) (D : Nat → Int32) (f0 aZ aO : Nat) (ch : Int32) (Zs On : Nat → Int32) (u0 aK aX aY aN aV aM n R : Nat) (K X Y : Nat → Nat) (Nm : Nat → Int32) (RV : Nat → Nat) (Ms : Nat → Int32) (aB : Nat) (Bw : Nat → Int32) (sz : Nat) (hn : n ≤ 24) (hR : R ≤ 4) (hwf : db_wf n K X Y Nm) (hRV : ∀ r, r < R → RV r < n) (hB : ∀ v, v < n → Bw v = -1 ∨ Bw v = -2 ∨ ∃ x, x < n ∧ Bw v = nI x) : Met l yE_find wsE_find { frames := 4, cells := 0, slots := 0, locals := 140 } (va_Pc [.ref e0, .ref u0, .ref f0, .ref aB] (dw_pre (dC, dI) vwCl [(e0, .inr (3, [.ref aD, .int (ec)])), (aD, .inl (cI, 24, .inl (D))), (u0, .inr (1, [.ref aK, .ref aX, .ref aY, .ref aN, .ref aV, .ref aM, .int (nI (n)), .int (nI (R))])), (aK, .inl (cI, 24, .inl (fun w => nI (K w)))), (aX, .inl (cI, 24, .inl (fun w => nI (X w)))), (aY, .inl (cI, 24, .inl (fun w => nI (Y w)))), (aN, .inl (cI, 24, .inl (Nm))), (aV, .inl (cI, 4, .inl (fun r => nI (RV r)))), (aM, .inl (cI, 4, .inl (Ms))), (f0, .inr (2, [.ref aZ, .ref aO, .int (ch)])), (aZ, .inl (cI, 24, .inl (Zs))), (aO, .inl (cI, 24, .inl (On))), (aB, .inl (cI, 24, .inl (Bw)))] [(cI, .int), (cZ, .boolean)] sz)) (va_Qv (fun (u : (Nat → Int32) × Int32) => ∀ v, v < n → u.1 v = db_D n K X Y Nm (Zs, On) Bw R RV Ms v) (fun u t => dw_post (dC, dI) vwCl [(e0, .inr (3, [.ref aD, .int (u.2)])), (aD, .inl (cI, 24, .inl (u.1))), (u0, .inr (1, [.ref aK, .ref aX, .ref aY, .ref aN, .ref aV, .ref aM, .int (nI (n)), .int (nI (R))])), (aK, .inl (cI, 24, .inl (fun w => nI (K w)))), (aX, .inl (cI, 24, .inl (fun w => nI (X w)))), (aY, .inl (cI, 24, .inl (fun w => nI (Y w)))), (aN, .inl (cI, 24, .inl (Nm))), (aV, .inl (cI, 4, .inl (fun r => nI (RV r)))), (aM, .inl (cI, 4, .inl (Ms))), (f0, .inr (2, [.ref aZ, .ref aO, .int (ch)])), (aZ, .inl (cI, 24, .inl (Zs))), (aO, .inl (cI, 24, .inl (On))), (aB, .inl (cI, 24, .inl (Bw)))] [(cI, .int), (cZ, .boolean)] (va_A [(e0, .inr (3, [.ref aD, .int (ec)])), (aD, .inl (cI, 24, .inl (D))), (u0, .inr (1, [.ref aK, .ref aX, .ref aY, .ref aN, .ref aV, .ref aM, .int (nI (n)), .int (nI (R))])), (aK, .inl (cI, 24, .inl (fun w => nI (K w)))), (aX, .inl (cI, 24, .inl (fun w => nI (X w)))), (aY, .inl (cI, 24, .inl (fun w => nI (Y w)))), (aN, .inl (cI, 24, .inl (Nm))), (aV, .inl (cI, 4, .inl (fun r => nI (RV r)))), (aM, .inl (cI, 4, .inl (Ms))), (f0, .inr (2, [.ref aZ, .ref aO, .int (ch)])), (aZ, .inl (cI, 24, .inl (Zs))), (aO, .inl (cI, 24, .inl (On))), (aB, .inl (cI, 24, .inl (Bw)))] sz) t) (va_A [(e0, .inr (3, [.ref aD, .int (ec)])), (aD, .inl (cI, 24, .inl (D))), (u0, .inr (1, [.ref aK, .ref aX, .ref aY, .ref aN, .ref aV, .ref aM, .int (nI (n)), .int (nI (R))])), (aK, .inl (cI, 24, .inl (fun w => nI (K w)))), (aX, .inl (cI, 24, .inl (fun w => nI (X w)))), (aY, .inl (cI, 24, .inl (fun w => nI (Y w)))), (aN, .inl (cI, 24, .inl (Nm))), (aV, .inl (cI, 4, .inl (fun r => nI (RV r)))), (aM, .inl (cI, 4, .inl (Ms))), (f0, .inr (2, [.ref aZ, .ref aO, .int (ch)])), (aZ, .inl (cI, 24, .inl (Zs))), (aO, .inl (cI, 24, .inl (On))), (aB, .inl (cI, 24, .inl (Bw)))] sz)) 0 0 (va_A [(e0, .inr (3, [.ref aD, .int (ec)])), (aD, .inl (cI, 24, .inl (D))), (u0, .inr (1, [.ref aK, .ref aX, .ref aY, .ref aN, .ref aV, .ref aM, .int (nI (n)), .int (nI (R))])), (aK, .inl (cI, 24, .inl (fun w => nI (K w)))), (aX, .inl (cI, 24, .inl (fun w => nI (X w)))), (aY, .inl (cI, 24, .inl (fun w => nI (Y w)))), (aN, .inl (cI, 24, .inl (Nm))), (aV, .inl (cI, 4, .inl (fun r => nI (RV r)))), (aM, .inl (cI, 4, .inl (Ms))), (f0, .inr (2, [.ref aZ, .ref aO, .int (ch)])), (aZ, .inl (cI, 24, .inl (Zs))), (aO, .inl (cI, 24, .inl (On))), (aB, .inl (cI, 24, .inl (Bw)))] sz) := by
  refine Met.ofW (cc := cE_find) (maxL := 6) (ret := none) (by decide) rfl ?_
  intro p e s m args below meth c s₁ B hml hv0
  have hx := B.exec
  have hb := B.bytes
  have hr := B.returns
  have hts := atoms_spec (ws := wsE_find) B.pre
  have hown : s.vm.findClass RE = some m.cls := findClass_of_methodNamed B.named
  have hlocks := B.notSynchronized
  obtain ⟨rfl, hsz, hG⟩ := dw_enter hv0
  generalize va_A [(e0, .inr (3, [.ref aD, .int (ec)])), (aD, .inl (cI, 24, .inl (D))), (u0, .inr (1, [.ref aK, .ref aX, .ref aY, .ref aN, .ref aV, .ref aM, .int (nI (n)), .int (nI (R))])), (aK, .inl (cI, 24, .inl (fun w => nI (K w)))), (aX, .inl (cI, 24, .inl (fun w => nI (X w)))), (aY, .inl (cI, 24, .inl (fun w => nI (Y w)))), (aN, .inl (cI, 24, .inl (Nm))), (aV, .inl (cI, 4, .inl (fun r => nI (RV r)))), (aM, .inl (cI, 4, .inl (Ms))), (f0, .inr (2, [.ref aZ, .ref aO, .int (ch)])), (aZ, .inl (cI, 24, .inl (Zs))), (aO, .inl (cI, 24, .inl (On))), (aB, .inl (cI, 24, .inl (Bw)))] sz = A at hG ⊢
  have hl := lv_entry ([.ref e0, .ref u0, .ref f0, .ref aB]) (n := 6) (Nat.le_of_ble_eq_true rfl)
  rw [lg_entry_eq]
  generalize (lg_sl ([.ref e0, .ref u0, .ref f0, .ref aB]) ++ List.replicate (6 - (lg_sl ([.ref e0, .ref u0, .ref f0, .ref aB])).length) Slot.unset).toArray = ls at hl ⊢
  have hl : lv_has ls 6 [(0, .ref e0), (1, .ref u0), (2, .ref f0), (3, .ref aB)] := hl
  have hw109 := hts _ (List.mem_cons_of_mem _ tw_109)
  have hw61 := hts _ (List.mem_cons_of_mem _ tw_61)
  have hw111 := hts _ (List.mem_cons_of_mem _ tw_111)
  have hw58 := hts _ (List.mem_cons_of_mem _ tw_58)
  have hw51 := hts _ (List.mem_cons_of_mem _ tw_51)
  have hw54 := hts _ (List.mem_cons_of_mem _ tw_54)
  refine dw_Q (fun Q hQ => ?_)
  suffices hgo : ∀ (H : Heap) (locs : List Loc), dw_G (dC, dI) vwCl [(cI, .int), (cZ, .boolean)] A s.heap s [(e0, .inr (3, [.ref aD, .int (ec)])), (aD, .inl (cI, 24, .inl (D))), (u0, .inr (1, [.ref aK, .ref aX, .ref aY, .ref aN, .ref aV, .ref aM, .int (nI (n)), .int (nI (R))])), (aK, .inl (cI, 24, .inl (fun w => nI (K w)))), (aX, .inl (cI, 24, .inl (fun w => nI (X w)))), (aY, .inl (cI, 24, .inl (fun w => nI (Y w)))), (aN, .inl (cI, 24, .inl (Nm))), (aV, .inl (cI, 4, .inl (fun r => nI (RV r)))), (aM, .inl (cI, 4, .inl (Ms))), (f0, .inr (2, [.ref aZ, .ref aO, .int (ch)])), (aZ, .inl (cI, 24, .inl (Zs))), (aO, .inl (cI, 24, .inl (On))), (aB, .inl (cI, 24, .inl (Bw)))] H locs → W p l e (headSpec wsE_find { frames := 4, cells := 0, slots := 0, locals := 140 }).room s m [.ref e0, .ref u0, .ref f0, .ref aB].toArray below meth c H locs 0 0 Q (F0 m 0 ls []) from hgo _ _ hG
  clear hG
  intro H locs hG
  refine lv_aload_n hx hb dE_find_0 rfl (lv_at hl 0 rfl) ?_
  refine dw_get hx hb hts inEc hown hG 0 0 rfl rfl (by decide) hw109 rfl rfl dE_find_1 ?_
  refine lv_iconst (v := 0) hx hb dE_find_4 (by decide) ?_
  refine dw_callv (wc := [(aD, .inl (cI, 24, .inl (D)))]) (wr := [(e0, .inr (3, [.ref aD, .int (ec)])), (u0, .inr (1, [.ref aK, .ref aX, .ref aY, .ref aN, .ref aV, .ref aM, .int (nI (n)), .int (nI (R))])), (aK, .inl (cI, 24, .inl (fun w => nI (K w)))), (aX, .inl (cI, 24, .inl (fun w => nI (X w)))), (aY, .inl (cI, 24, .inl (fun w => nI (Y w)))), (aN, .inl (cI, 24, .inl (Nm))), (aV, .inl (cI, 4, .inl (fun r => nI (RV r)))), (aM, .inl (cI, 4, .inl (Ms))), (f0, .inr (2, [.ref aZ, .ref aO, .int (ch)])), (aZ, .inl (cI, 24, .inl (Zs))), (aO, .inl (cI, 24, .inl (On))), (aB, .inl (cI, 24, .inl (Bw)))]) hG [1] [0, 2, 3, 4, 5, 6, 7, 8, 9, 10, 11, 12] rfl rfl (by decide) (by decide) (va_runS (As := [.ref aD, .int (0)]) (rest := []) ⟨hx, hb, hml, hown, hts⟩ (jd_fill l dC dI cI cZ aD D 0 H.size ) (dc_S 2 hts tw_216 tw_136 tw_6 tw_137 rfl rfl (by decide +kernel) ⟨Nat.le_of_ble_eq_true rfl, Nat.le_of_ble_eq_true rfl⟩) (dw_preS hG [1] [0, 1] rfl rfl (by decide) rfl) rfl rfl hl.1 rfl (lv_room (Nat.le_of_ble_eq_true rfl)) dE_find_5 ⟨Nat.le_refl _, Nat.le_refl _⟩) (fun d0 H locs hd0 hG => ?_)
  have hG : dw_G (dC, dI) vwCl [(cI, .int), (cZ, .boolean)] A s.heap s [(e0, .inr (3, [.ref aD, .int (ec)])), (u0, .inr (1, [.ref aK, .ref aX, .ref aY, .ref aN, .ref aV, .ref aM, .int (nI (n)), .int (nI (R))])), (aK, .inl (cI, 24, .inl (fun w => nI (K w)))), (aX, .inl (cI, 24, .inl (fun w => nI (X w)))), (aY, .inl (cI, 24, .inl (fun w => nI (Y w)))), (aN, .inl (cI, 24, .inl (Nm))), (aV, .inl (cI, 4, .inl (fun r => nI (RV r)))), (aM, .inl (cI, 4, .inl (Ms))), (f0, .inr (2, [.ref aZ, .ref aO, .int (ch)])), (aZ, .inl (cI, 24, .inl (Zs))), (aO, .inl (cI, 24, .inl (On))), (aB, .inl (cI, 24, .inl (Bw))), (aD, .inl (cI, 24, .inl (d0)))] H locs := hG
  have hi0 : db_inB n K X Y Nm (Zs, On) Bw R RV Ms d0 := fun w b hw hb q => by unfold db_T at q; rw [hd0 w (by omega), b_0] at q; cases q
  refine lv_iconst (v := 0) hx hb dE_find_8 (by decide) ?_
  refine lv_istore (lv' := [(4, .int (0)), (0, .ref e0), (1, .ref u0), (2, .ref f0), (3, .ref aB)]) hx hb dE_find_9 hl (by decide) rfl (fun ls hl => ?_)
  have L11 : ∀ (zz : Nat) (r : Nat) (d1 : Nat → Int32) (c1 : Int32) (ls : Array Slot) (H : Heap) (locs : List Loc), R - r < zz → r ≤ R → db_inB n K X Y Nm (Zs, On) Bw R RV Ms d1 → (∀ r2, r2 < r → ∀ b, b < 32 → bt (Ms r2) b = true → db_T d1 (RV r2) b) → lv_has ls 6 [(0, .ref e0), (1, .ref u0), (2, .ref f0), (3, .ref aB), (4, .int (nI (r)))] → dw_G (dC, dI) vwCl [(cI, .int), (cZ, .boolean)] A s.heap s [(e0, .inr (3, [.ref aD, .int (c1)])), (u0, .inr (1, [.ref aK, .ref aX, .ref aY, .ref aN, .ref aV, .ref aM, .int (nI (n)), .int (nI (R))])), (aK, .inl (cI, 24, .inl (fun w => nI (K w)))), (aX, .inl (cI, 24, .inl (fun w => nI (X w)))), (aY, .inl (cI, 24, .inl (fun w => nI (Y w)))), (aN, .inl (cI, 24, .inl (Nm))), (aV, .inl (cI, 4, .inl (fun r => nI (RV r)))), (aM, .inl (cI, 4, .inl (Ms))), (f0, .inr (2, [.ref aZ, .ref aO, .int (ch)])), (aZ, .inl (cI, 24, .inl (Zs))), (aO, .inl (cI, 24, .inl (On))), (aB, .inl (cI, 24, .inl (Bw))), (aD, .inl (cI, 24, .inl (d1)))] H locs → W p l e (headSpec wsE_find { frames := 4, cells := 0, slots := 0, locals := 140 }).room s m [.ref e0, .ref u0, .ref f0, .ref aB].toArray below meth c H locs 0 0 Q (F0 m 11 ls []) := by
    intro zz
    induction zz with
    | zero => intro r d1 c1 ls H locs hz; exact absurd hz (Nat.not_lt_zero _)
    | succ zz L11_ih =>
      intro r d1 c1 ls H locs hz hr9 hin hse hl hG
      refine lv_iload hx hb dE_find_11 (lv_at hl 4 rfl) ?_
      refine lv_aload_n hx hb dE_find_13 rfl (lv_at hl 1 rfl) ?_
      refine dw_get hx hb hts inUc hown hG 1 7 rfl rfl (by decide) hw61 rfl rfl dE_find_14 ?_
      refine lv_icmp_ge (tgt := 44) hx hb dE_find_17 (by decide) (fun h17 => ?_) (fun h17 => ?_)
      · skip
        replace h17 := (nI_leI (a := R) (b := r) (by omega) (by omega)).mp h17
        refine lv_aload_n hx hb dE_find_44 rfl (lv_at hl 0 rfl) ?_
        refine lv_iconst (v := 1) hx hb dE_find_45 (by decide) ?_
        refine dw_put (ws' := [(e0, .inr (3, [.ref aD, .int (1)])), (u0, .inr (1, [.ref aK, .ref aX, .ref aY, .ref aN, .ref aV, .ref aM, .int (nI (n)), .int (nI (R))])), (aK, .inl (cI, 24, .inl (fun w => nI (K w)))), (aX, .inl (cI, 24, .inl (fun w => nI (X w)))), (aY, .inl (cI, 24, .inl (fun w => nI (Y w)))), (aN, .inl (cI, 24, .inl (Nm))), (aV, .inl (cI, 4, .inl (fun r => nI (RV r)))), (aM, .inl (cI, 4, .inl (Ms))), (f0, .inr (2, [.ref aZ, .ref aO, .int (ch)])), (aZ, .inl (cI, 24, .inl (Zs))), (aO, .inl (cI, 24, .inl (On))), (aB, .inl (cI, 24, .inl (Bw))), (aD, .inl (cI, 24, .inl (d1)))]) hx hb hts inEc tyE tyE_ok nmE hown hG 0 1 rfl rfl (by decide) hw111 rfl rfl (ty := .boolean) (by decide +kernel) rfl rfl (Nat.le_of_ble_eq_true rfl) dE_find_46 rfl (fun H locs hG => ?_)
        refine lv_iconst (v := 0) hx hb dE_find_49 (by decide) ?_
        refine lv_istore (lv' := [(4, .int (0)), (0, .ref e0), (1, .ref u0), (2, .ref f0), (3, .ref aB)]) hx hb dE_find_50 hl (by decide) rfl (fun ls hl => ?_)
        have L52 : ∀ (zz : Nat) (i : Nat) (d2 : Nat → Int32) (c2 : Int32) (ls : Array Slot) (H : Heap) (locs : List Loc), 770 - i < zz → i ≤ 769 → db_inB n K X Y Nm (Zs, On) Bw R RV Ms d2 → (∀ r2, r2 < R → ∀ b, b < 32 → bt (Ms r2) b = true → db_T d2 (RV r2) b) → db_dsf c2 n K X Y Nm (Zs, On) Bw d2 i → lv_has ls 6 [(0, .ref e0), (1, .ref u0), (2, .ref f0), (3, .ref aB), (4, .int (nI (i)))] → dw_G (dC, dI) vwCl [(cI, .int), (cZ, .boolean)] A s.heap s [(e0, .inr (3, [.ref aD, .int (c2)])), (u0, .inr (1, [.ref aK, .ref aX, .ref aY, .ref aN, .ref aV, .ref aM, .int (nI (n)), .int (nI (R))])), (aK, .inl (cI, 24, .inl (fun w => nI (K w)))), (aX, .inl (cI, 24, .inl (fun w => nI (X w)))), (aY, .inl (cI, 24, .inl (fun w => nI (Y w)))), (aN, .inl (cI, 24, .inl (Nm))), (aV, .inl (cI, 4, .inl (fun r => nI (RV r)))), (aM, .inl (cI, 4, .inl (Ms))), (f0, .inr (2, [.ref aZ, .ref aO, .int (ch)])), (aZ, .inl (cI, 24, .inl (Zs))), (aO, .inl (cI, 24, .inl (On))), (aB, .inl (cI, 24, .inl (Bw))), (aD, .inl (cI, 24, .inl (d2)))] H locs → W p l e (headSpec wsE_find { frames := 4, cells := 0, slots := 0, locals := 140 }).room s m [.ref e0, .ref u0, .ref f0, .ref aB].toArray below meth c H locs 0 0 Q (F0 m 52 ls []) := by
          intro zz
          induction zz with
          | zero => intro i d2 c2 ls H locs hz; exact absurd hz (Nat.not_lt_zero _)
          | succ zz L52_ih =>
            intro i d2 c2 ls H locs hz hi9 hin hse hsf hl hG
            refine lv_aload_n hx hb dE_find_52 rfl (lv_at hl 0 rfl) ?_
            refine dw_get hx hb hts inEc hown hG 0 1 rfl rfl (by decide) hw111 rfl rfl dE_find_53 ?_
            refine lv_if_eq (tgt := 109) hx hb dE_find_56 (by decide) (fun h56 => ?_) (fun h56 => ?_)
            · skip
              subst hQ
              exact dw_vret hx hb hr (dw_perm hG [0, 12, 1, 2, 3, 4, 5, 6, 7, 8, 9, 10, 11] (by decide) rfl rfl) ((d2, c2)) rfl (fun v hv => db_D_ofB hn hin hse (db_dsf_end hsf h56) v hv) dE_find_109 hlocks
            refine lv_iload hx hb dE_find_59 (lv_at hl 4 rfl) ?_
            refine lv_sipush (v := 769) hx hb dE_find_61 (by decide) ?_
            refine lv_icmp_ge (tgt := 109) hx hb dE_find_64 (by decide) (fun h64 => ?_) (fun h64 => ?_)
            · skip
              replace h64 := (nI_leI (a := 769) (b := i) (by omega) (by omega)).mp h64
              exact absurd (db_dsf_le hsf h56) (by omega)
            replace h64 : ¬ 769 ≤ i := fun hq0 => h64 ((nI_leI (a := 769) (b := i) (by omega) (by omega)).mpr hq0)
            have hi8 : i ≤ 768 := db_dsf_le hsf h56
            refine lv_aload_n hx hb dE_find_67 rfl (lv_at hl 0 rfl) ?_
            refine lv_iconst (v := 0) hx hb dE_find_68 (by decide) ?_
            refine dw_put (ws' := [(e0, .inr (3, [.ref aD, .int (0)])), (u0, .inr (1, [.ref aK, .ref aX, .ref aY, .ref aN, .ref aV, .ref aM, .int (nI (n)), .int (nI (R))])), (aK, .inl (cI, 24, .inl (fun w => nI (K w)))), (aX, .inl (cI, 24, .inl (fun w => nI (X w)))), (aY, .inl (cI, 24, .inl (fun w => nI (Y w)))), (aN, .inl (cI, 24, .inl (Nm))), (aV, .inl (cI, 4, .inl (fun r => nI (RV r)))), (aM, .inl (cI, 4, .inl (Ms))), (f0, .inr (2, [.ref aZ, .ref aO, .int (ch)])), (aZ, .inl (cI, 24, .inl (Zs))), (aO, .inl (cI, 24, .inl (On))), (aB, .inl (cI, 24, .inl (Bw))), (aD, .inl (cI, 24, .inl (d2)))]) hx hb hts inEc tyE tyE_ok nmE hown hG 0 1 rfl rfl (by decide) hw111 rfl rfl (ty := .boolean) (by decide +kernel) rfl rfl (Nat.le_of_ble_eq_true rfl) dE_find_69 rfl (fun H locs hG => ?_)
            refine lv_aload_n hx hb dE_find_72 rfl (lv_at hl 1 rfl) ?_
            refine dw_get hx hb hts inUc hown hG 1 6 rfl rfl (by decide) hw58 rfl rfl dE_find_73 ?_
            refine lv_iconst (v := 1) hx hb dE_find_76 (by decide) ?_
            refine lv_isub hx hb dE_find_77 ?_
            refine lv_topi (nm_r (show ((nI (n)) - (1) : Int32) = (nI (n)) + (-1) from (Int32.sub_eq_add_neg _ _)) ?_)
            refine lv_istore (lv' := [(5, .int ((nI (n)) + (-1))), (0, .ref e0), (1, .ref u0), (2, .ref f0), (3, .ref aB), (4, .int (nI (i)))]) hx hb dE_find_78 hl (by decide) rfl (fun ls hl => ?_)
            have L80 : ∀ (zz : Nat) (k : Nat) (d3 : Nat → Int32) (c3 : Int32) (ls : Array Slot) (H : Heap) (locs : List Loc), k < zz → k ≤ n → db_inB n K X Y Nm (Zs, On) Bw R RV Ms d3 → (∀ w b, b < 32 → db_T d2 w b → db_T d3 w b) → db_dps c3 n K X Y Nm (Zs, On) Bw d2 d3 k → lv_has ls 6 [(0, .ref e0), (1, .ref u0), (2, .ref f0), (3, .ref aB), (4, .int (nI (i))), (5, .int ((nI (k)) + (-1)))] → dw_G (dC, dI) vwCl [(cI, .int), (cZ, .boolean)] A s.heap s [(e0, .inr (3, [.ref aD, .int (c3)])), (u0, .inr (1, [.ref aK, .ref aX, .ref aY, .ref aN, .ref aV, .ref aM, .int (nI (n)), .int (nI (R))])), (aK, .inl (cI, 24, .inl (fun w => nI (K w)))), (aX, .inl (cI, 24, .inl (fun w => nI (X w)))), (aY, .inl (cI, 24, .inl (fun w => nI (Y w)))), (aN, .inl (cI, 24, .inl (Nm))), (aV, .inl (cI, 4, .inl (fun r => nI (RV r)))), (aM, .inl (cI, 4, .inl (Ms))), (f0, .inr (2, [.ref aZ, .ref aO, .int (ch)])), (aZ, .inl (cI, 24, .inl (Zs))), (aO, .inl (cI, 24, .inl (On))), (aB, .inl (cI, 24, .inl (Bw))), (aD, .inl (cI, 24, .inl (d3)))] H locs → W p l e (headSpec wsE_find { frames := 4, cells := 0, slots := 0, locals := 140 }).room s m [.ref e0, .ref u0, .ref f0, .ref aB].toArray below meth c H locs 0 0 Q (F0 m 80 ls []) := by
              intro zz
              induction zz with
              | zero => intro k d3 c3 ls H locs hz; exact absurd hz (Nat.not_lt_zero _)
              | succ zz L80_ih =>
                intro k d3 c3 ls H locs hz hk9 hin3 hmo hps hl hG
                rcases Nat.eq_zero_or_pos k with hk0 | hk0
                · subst hk0
                  have hl : lv_has ls 6 [(0, .ref e0), (1, .ref u0), (2, .ref f0), (3, .ref aB), (4, .int (nI (i))), (5, .int (-1))] := hl
                  refine lv_iload hx hb dE_find_80 (lv_at hl 5 rfl) ?_
                  refine lv_if_lt (tgt := 103) hx hb dE_find_82 (by decide) (fun h82 => ?_) (fun h82 => ?_)
                  · skip
                    refine lv_iinc (v := nI (i + 1)) (lv' := [(4, .int (nI (i + 1))), (0, .ref e0), (1, .ref u0), (2, .ref f0), (3, .ref aB), (5, .int (-1))]) hx hb dE_find_103 hl (k := 4) rfl (dw_inc (i)) (by decide) rfl (fun ls hl => ?_)
                    refine lv_goto (tgt := 52) hx hb dE_find_106 (by decide) ?_
                    exact L52_ih (i + 1) (d3) (c3) ls H locs (by omega) (by omega) hin3 (fun r2 hr2 b hb q => hmo _ b hb (hse r2 hr2 b hb q)) (db_dsf_s hsf h56 hps) (lv_sub hl [1, 2, 3, 4, 0] rfl) hG
                  exact absurd (show (-1 : Int32) < 0 by decide) h82
                obtain ⟨v, rfl⟩ : ∃ v, k = v + 1 := ⟨k - 1, by omega⟩
                rw [pk_m1 v] at hl
                have hvn : v < n := by omega
                refine lv_iload hx hb dE_find_80 (lv_at hl 5 rfl) ?_
                refine lv_if_lt (tgt := 103) hx hb dE_find_82 (by decide) (fun h82 => ?_) (fun h82 => ?_)
                · skip
                  replace h82 := (nI_ltI (a := v) (b := 0) (by omega) (by omega)).mp h82
                  (exfalso; omega)
                replace h82 : ¬ v < 0 := fun hq0 => h82 ((nI_ltI (a := v) (b := 0) (by omega) (by omega)).mpr hq0)
                refine lv_aload_n hx hb dE_find_85 rfl (lv_at hl 0 rfl) ?_
                refine lv_aload_n hx hb dE_find_86 rfl (lv_at hl 1 rfl) ?_
                refine lv_aload_n hx hb dE_find_87 rfl (lv_at hl 2 rfl) ?_
                refine lv_aload_n hx hb dE_find_88 rfl (lv_at hl 3 rfl) ?_
                refine lv_iload hx hb dE_find_89 (lv_at hl 5 rfl) ?_
                refine dw_ia (x := Bw v) hx hb hG 11 0 rfl rfl (v) rfl (by omega) (by decide) rfl dE_find_91 ?_
                refine lv_iload hx hb dE_find_92 (lv_at hl 5 rfl) ?_
                refine dw_callv (wc := [(e0, .inr (3, [.ref aD, .int (c3)])), (aD, .inl (cI, 24, .inl (d3))), (u0, .inr (1, [.ref aK, .ref aX, .ref aY, .ref aN, .ref aV, .ref aM, .int (nI (n)), .int (nI (R))])), (aK, .inl (cI, 24, .inl (fun w => nI (K w)))), (aX, .inl (cI, 24, .inl (fun w => nI (X w)))), (aY, .inl (cI, 24, .inl (fun w => nI (Y w)))), (aN, .inl (cI, 24, .inl (Nm))), (f0, .inr (2, [.ref aZ, .ref aO, .int (ch)])), (aZ, .inl (cI, 24, .inl (Zs))), (aO, .inl (cI, 24, .inl (On)))]) (wr := [(aV, .inl (cI, 4, .inl (fun r => nI (RV r)))), (aM, .inl (cI, 4, .inl (Ms))), (aB, .inl (cI, 24, .inl (Bw)))]) hG [0, 12, 1, 2, 3, 4, 5, 8, 9, 10] [6, 7, 11] rfl rfl (by decide) (by decide) (va_runV (As := [.ref u0, .ref f0, .int (Bw v), .int (nI (v))]) (rest := []) ⟨hx, hb, hml, hown, hts⟩ (ce_ask l dC dI cI cZ e0 aD c3 d3 f0 aZ aO ch Zs On u0 aK aX aY aN aV aM n R K X Y Nm v Bw H.size hn hwf hvn (hB v hvn)) (dc_V 4 hts tw_221 tw_223 tp_E_ask tw_4 tw_224 rfl rfl (by decide +kernel) ⟨Nat.le_of_ble_eq_true rfl, Nat.le_of_ble_eq_true rfl⟩) (dw_preV (ci := 3) hG [0, 12, 1, 2, 3, 4, 5, 8, 9, 10] [0, 1] rfl rfl (by decide) rfl rfl (q0 := 0) rfl) rfl rfl hl.1 rfl (lv_room (Nat.le_of_ble_eq_true rfl)) dE_find_94 ⟨Nat.le_refl _, Nat.le_refl _⟩) (fun u H locs hp hG => ?_)
                have hG : dw_G (dC, dI) vwCl [(cI, .int), (cZ, .boolean)] A s.heap s [(aV, .inl (cI, 4, .inl (fun r => nI (RV r)))), (aM, .inl (cI, 4, .inl (Ms))), (aB, .inl (cI, 24, .inl (Bw))), (e0, .inr (3, [.ref aD, .int (u)])), (aD, .inl (cI, 24, .inl (db_dst K X Y Nm (Zs, On) Bw v d3))), (u0, .inr (1, [.ref aK, .ref aX, .ref aY, .ref aN, .ref aV, .ref aM, .int (nI (n)), .int (nI (R))])), (aK, .inl (cI, 24, .inl (fun w => nI (K w)))), (aX, .inl (cI, 24, .inl (fun w => nI (X w)))), (aY, .inl (cI, 24, .inl (fun w => nI (Y w)))), (aN, .inl (cI, 24, .inl (Nm))), (f0, .inr (2, [.ref aZ, .ref aO, .int (ch)])), (aZ, .inl (cI, 24, .inl (Zs))), (aO, .inl (cI, 24, .inl (On)))] H locs := hG
                refine lv_iinc (v := (nI (v)) + (-1)) (lv' := [(5, .int ((nI (v)) + (-1))), (0, .ref e0), (1, .ref u0), (2, .ref f0), (3, .ref aB), (4, .int (nI (i)))]) hx hb dE_find_97 hl (k := 5) rfl rfl (by decide) rfl (fun ls hl => ?_)
                refine lv_goto (tgt := 80) hx hb dE_find_100 (by decide) ?_
                exact L80_ih (v) (db_dst K X Y Nm (Zs, On) Bw v d3) (u) ls H locs (by omega) (by omega) (db_inB_s hwf hn hvn hin3) (fun w b hb q => db_dst_up hwf hvn _ hb (hmo w b hb q)) (db_dps_s hwf hvn hps hp) (lv_sub hl [1, 2, 3, 4, 5, 0] rfl) (dw_perm hG [3, 5, 6, 7, 8, 9, 0, 1, 10, 11, 12, 2, 4] (by decide) rfl rfl)
            exact L80 _ (n) (d2) (0) ls H locs (Nat.lt_succ_self _) (Nat.le_refl _) hin (fun w b hb q => q) (Or.inl ⟨rfl, rfl, fun v h1 h2 => by omega⟩) (lv_sub hl [1, 2, 3, 4, 5, 0] rfl) hG
        exact L52 _ (0) (d1) (1) ls H locs (Nat.lt_succ_self _) (by omega) hin (fun r2 hr2 => hse r2 (by omega)) (Or.inl ⟨rfl, Nat.zero_le _⟩) (lv_sub hl [1, 2, 3, 4, 0] rfl) hG
      replace h17 : ¬ R ≤ r := fun hq0 => h17 ((nI_leI (a := R) (b := r) (by omega) (by omega)).mpr hq0)
      refine lv_aload_n hx hb dE_find_20 rfl (lv_at hl 0 rfl) ?_
      refine lv_aload_n hx hb dE_find_21 rfl (lv_at hl 1 rfl) ?_
      refine dw_get hx hb hts inUc hown hG 1 4 rfl rfl (by decide) hw51 rfl rfl dE_find_22 ?_
      refine lv_iload hx hb dE_find_25 (lv_at hl 4 rfl) ?_
      refine dw_ia (x := nI (RV r)) hx hb hG 6 0 rfl rfl (r) rfl (by omega) (by decide) rfl dE_find_27 ?_
      refine lv_aload_n hx hb dE_find_28 rfl (lv_at hl 1 rfl) ?_
      refine dw_get hx hb hts inUc hown hG 1 5 rfl rfl (by decide) hw54 rfl rfl dE_find_29 ?_
      refine lv_iload hx hb dE_find_32 (lv_at hl 4 rfl) ?_
      refine dw_ia (x := (Ms) (r)) hx hb hG 7 0 rfl rfl (r) rfl (by omega) (by decide) rfl dE_find_34 ?_
      refine dw_callv (wc := [(e0, .inr (3, [.ref aD, .int (c1)])), (aD, .inl (cI, 24, .inl (d1)))]) (wr := [(u0, .inr (1, [.ref aK, .ref aX, .ref aY, .ref aN, .ref aV, .ref aM, .int (nI (n)), .int (nI (R))])), (aK, .inl (cI, 24, .inl (fun w => nI (K w)))), (aX, .inl (cI, 24, .inl (fun w => nI (X w)))), (aY, .inl (cI, 24, .inl (fun w => nI (Y w)))), (aN, .inl (cI, 24, .inl (Nm))), (aV, .inl (cI, 4, .inl (fun r => nI (RV r)))), (aM, .inl (cI, 4, .inl (Ms))), (f0, .inr (2, [.ref aZ, .ref aO, .int (ch)])), (aZ, .inl (cI, 24, .inl (Zs))), (aO, .inl (cI, 24, .inl (On))), (aB, .inl (cI, 24, .inl (Bw)))]) hG [0, 12] [1, 2, 3, 4, 5, 6, 7, 8, 9, 10, 11] rfl rfl (by decide) (by decide) (va_runV (As := [.int (nI (RV r)), .int ((Ms) (r))]) (rest := []) ⟨hx, hb, hml, hown, hts⟩ (ce_demand l dC dI cI cZ e0 aD c1 d1 (RV r) (Ms r) H.size (by have := hRV r (by omega); omega)) (dc_V 2 hts tw_217 tw_219 tp_E_demand tw_4 tw_220 rfl rfl (by decide +kernel) ⟨Nat.le_of_ble_eq_true rfl, Nat.le_of_ble_eq_true rfl⟩) (dw_preV (ci := 3) hG [0, 12] [0, 1] rfl rfl (by decide) rfl rfl (q0 := 0) rfl) rfl rfl hl.1 rfl (lv_room (Nat.le_of_ble_eq_true rfl)) dE_find_35 ⟨Nat.le_refl _, Nat.le_refl _⟩) (fun u H locs hp hG => ?_)
      have hG : dw_G (dC, dI) vwCl [(cI, .int), (cZ, .boolean)] A s.heap s [(u0, .inr (1, [.ref aK, .ref aX, .ref aY, .ref aN, .ref aV, .ref aM, .int (nI (n)), .int (nI (R))])), (aK, .inl (cI, 24, .inl (fun w => nI (K w)))), (aX, .inl (cI, 24, .inl (fun w => nI (X w)))), (aY, .inl (cI, 24, .inl (fun w => nI (Y w)))), (aN, .inl (cI, 24, .inl (Nm))), (aV, .inl (cI, 4, .inl (fun r => nI (RV r)))), (aM, .inl (cI, 4, .inl (Ms))), (f0, .inr (2, [.ref aZ, .ref aO, .int (ch)])), (aZ, .inl (cI, 24, .inl (Zs))), (aO, .inl (cI, 24, .inl (On))), (aB, .inl (cI, 24, .inl (Bw))), (e0, .inr (3, [.ref aD, .int (u)])), (aD, .inl (cI, 24, .inl (db_dem d1 (RV r) (Ms r))))] H locs := hG
      refine lv_iinc (v := nI (r + 1)) (lv' := [(4, .int (nI (r + 1))), (0, .ref e0), (1, .ref u0), (2, .ref f0), (3, .ref aB)]) hx hb dE_find_38 hl (k := 4) rfl (dw_inc (r)) (by decide) rfl (fun ls hl => ?_)
      refine lv_goto (tgt := 11) hx hb dE_find_41 (by decide) ?_
      exact L11_ih (r + 1) (db_dem d1 (RV r) (Ms r)) (u) ls H locs (by omega) (by omega) (db_dem_inB hin (fun b hb q => db_least_seed (by omega) hb q)) (fun r2 hr2 b hb q => (Decidable.em (r2 = r)).elim (fun e => by rw [e] at q ⊢; exact (db_dem_T _ _ _ _ _).mpr (Or.inr ⟨rfl, q⟩)) (fun e => (db_dem_T _ _ _ _ _).mpr (Or.inl (hse r2 (by omega) b hb q)))) (lv_sub hl [1, 2, 3, 4, 0] rfl) (dw_perm hG [11, 0, 1, 2, 3, 4, 5, 6, 7, 8, 9, 10, 12] (by decide) rfl rfl)
  exact L11 _ (0) (d0) (ec) ls H locs (Nat.lt_succ_self _) (Nat.zero_le _) hi0 (fun r2 hr2 => by omega) (lv_sub hl [1, 2, 3, 4, 0] rfl) hG

