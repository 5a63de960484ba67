set_option maxRecDepth 100000 in
set_option maxHeartbeats 4000000 in
theorem cc_follow (l : Launch) (dC : Nat → ClassId) (dI : Nat → Nat → Nat) (cI cZ : ClassId) (c0 aW aS aBf aB aO aI kr : Nat) (Rd Sn Bef Bw On inp : Nat → Int32) (u0 aK aX aY aN aV aM n R : Nat) (K X Y : Nat → Nat) (Nm : Nat → Int32) (RV : Nat → Nat) (Ms : Nat → Int32) (sz : Nat) (hn : n ≤ 24) (hR : R ≤ 4) (hkr : kr ≤ 50) (hwf : db_wf n K X Y Nm) (hRV : ∀ r, r < R → RV r < n) (hB : ∀ v, v < n → Bw v = -1 ∨ Bw v = -2 ∨ ∃ x, x < n ∧ Bw v = nI x) : Met l yC_follow wsC_follow { frames := 1, cells := 0, slots := 0, locals := 60 } (va_Pc [.ref c0, .ref u0, .ref aB, .ref aO, .ref aI, .int (nI (kr))] (dw_pre (dC, dI) vwCl [(c0, .inr (4, [.ref aW, .ref aS, .ref aBf])), (aW, .inl (cI, 24, .inl (Rd))), (aS, .inl (cI, 4, .inl (Sn))), (aBf, .inl (cI, 24, .inl (Bef))), (u0, .inr (1, [.ref aK, .ref aX, .ref aY, .ref aN, .ref aV, .ref aM, .int (nI (n)), .int (nI (R))])), (aK, .inl (cI, 24, .inl (fun w => nI (K w)))), (aX, .inl (cI, 24, .inl (fun w => nI (X w)))), (aY, .inl (cI, 24, .inl (fun w => nI (Y w)))), (aN, .inl (cI, 24, .inl (Nm))), (aV, .inl (cI, 4, .inl (fun r => nI (RV r)))), (aM, .inl (cI, 4, .inl (Ms))), (aB, .inl (cI, 24, .inl (Bw))), (aO, .inl (cI, 24, .inl (On))), (aI, .inl (cI, 3, .inl (inp)))] [(cI, .int), (cZ, .boolean)] sz)) (va_Qv (fun (u : (Nat → Int32) × (Nat → Int32)) => (∀ r, r < R → u.1 r = db_course n K X Y Nm Bw On inp kr Rd (RV r) &&& Ms r) ∧ ∀ r, R ≤ r → u.1 r = Sn r) (fun u t => dw_post (dC, dI) vwCl [(c0, .inr (4, [.ref aW, .ref aS, .ref aBf])), (aW, .inl (cI, 24, .inl (db_course n K X Y Nm Bw On inp kr Rd))), (aS, .inl (cI, 4, .inl (u.1))), (aBf, .inl (cI, 24, .inl (u.2))), (u0, .inr (1, [.ref aK, .ref aX, .ref aY, .ref aN, .ref aV, .ref aM, .int (nI (n)), .int (nI (R))])), (aK, .inl (cI, 24, .inl (fun w => nI (K w)))), (aX, .inl (cI, 24, .inl (fun w => nI (X w)))), (aY, .inl (cI, 24, .inl (fun w => nI (Y w)))), (aN, .inl (cI, 24, .inl (Nm))), (aV, .inl (cI, 4, .inl (fun r => nI (RV r)))), (aM, .inl (cI, 4, .inl (Ms))), (aB, .inl (cI, 24, .inl (Bw))), (aO, .inl (cI, 24, .inl (On))), (aI, .inl (cI, 3, .inl (inp)))] [(cI, .int), (cZ, .boolean)] (va_A [(c0, .inr (4, [.ref aW, .ref aS, .ref aBf])), (aW, .inl (cI, 24, .inl (Rd))), (aS, .inl (cI, 4, .inl (Sn))), (aBf, .inl (cI, 24, .inl (Bef))), (u0, .inr (1, [.ref aK, .ref aX, .ref aY, .ref aN, .ref aV, .ref aM, .int (nI (n)), .int (nI (R))])), (aK, .inl (cI, 24, .inl (fun w => nI (K w)))), (aX, .inl (cI, 24, .inl (fun w => nI (X w)))), (aY, .inl (cI, 24, .inl (fun w => nI (Y w)))), (aN, .inl (cI, 24, .inl (Nm))), (aV, .inl (cI, 4, .inl (fun r => nI (RV r)))), (aM, .inl (cI, 4, .inl (Ms))), (aB, .inl (cI, 24, .inl (Bw))), (aO, .inl (cI, 24, .inl (On))), (aI, .inl (cI, 3, .inl (inp)))] sz) t) (va_A [(c0, .inr (4, [.ref aW, .ref aS, .ref aBf])), (aW, .inl (cI, 24, .inl (Rd))), (aS, .inl (cI, 4, .inl (Sn))), (aBf, .inl (cI, 24, .inl (Bef))), (u0, .inr (1, [.ref aK, .ref aX, .ref aY, .ref aN, .ref aV, .ref aM, .int (nI (n)), .int (nI (R))])), (aK, .inl (cI, 24, .inl (fun w => nI (K w)))), (aX, .inl (cI, 24, .inl (fun w => nI (X w)))), (aY, .inl (cI, 24, .inl (fun w => nI (Y w)))), (aN, .inl (cI, 24, .inl (Nm))), (aV, .inl (cI, 4, .inl (fun r => nI (RV r)))), (aM, .inl (cI, 4, .inl (Ms))), (aB, .inl (cI, 24, .inl (Bw))), (aO, .inl (cI, 24, .inl (On))), (aI, .inl (cI, 3, .inl (inp)))] sz)) 0 0 (va_A [(c0, .inr (4, [.ref aW, .ref aS, .ref aBf])), (aW, .inl (cI, 24, .inl (Rd))), (aS, .inl (cI, 4, .inl (Sn))), (aBf, .inl (cI, 24, .inl (Bef))), (u0, .inr (1, [.ref aK, .ref aX, .ref aY, .ref aN, .ref aV, .ref aM, .int (nI (n)), .int (nI (R))])), (aK, .inl (cI, 24, .inl (fun w => nI (K w)))), (aX, .inl (cI, 24, .inl (fun w => nI (X w)))), (aY, .inl (cI, 24, .inl (fun w => nI (Y w)))), (aN, .inl (cI, 24, .inl (Nm))), (aV, .inl (cI, 4, .inl (fun r => nI (RV r)))), (aM, .inl (cI, 4, .inl (Ms))), (aB, .inl (cI, 24, .inl (Bw))), (aO, .inl (cI, 24, .inl (On))), (aI, .inl (cI, 3, .inl (inp)))] sz) := by
  refine Met.ofW (cc := cC_follow) (maxL := 8) (ret := none) (by decide) rfl ?_
  intro p e s m args below meth c s₁ B hml hv0
  have hx := B.exec
  have hb := B.bytes
  have hr := B.returns
  have hts := atoms_spec (ws := wsC_follow) B.pre
  have hown : s.vm.findClass RC = some m.cls := findClass_of_methodNamed B.named
  have hlocks := B.notSynchronized
  obtain ⟨rfl, hsz, hG⟩ := dw_enter hv0
  generalize va_A [(c0, .inr (4, [.ref aW, .ref aS, .ref aBf])), (aW, .inl (cI, 24, .inl (Rd))), (aS, .inl (cI, 4, .inl (Sn))), (aBf, .inl (cI, 24, .inl (Bef))), (u0, .inr (1, [.ref aK, .ref aX, .ref aY, .ref aN, .ref aV, .ref aM, .int (nI (n)), .int (nI (R))])), (aK, .inl (cI, 24, .inl (fun w => nI (K w)))), (aX, .inl (cI, 24, .inl (fun w => nI (X w)))), (aY, .inl (cI, 24, .inl (fun w => nI (Y w)))), (aN, .inl (cI, 24, .inl (Nm))), (aV, .inl (cI, 4, .inl (fun r => nI (RV r)))), (aM, .inl (cI, 4, .inl (Ms))), (aB, .inl (cI, 24, .inl (Bw))), (aO, .inl (cI, 24, .inl (On))), (aI, .inl (cI, 3, .inl (inp)))] sz = A at hG ⊢
  have hl := lv_entry ([.ref c0, .ref u0, .ref aB, .ref aO, .ref aI, .int (nI (kr))]) (n := 8) (Nat.le_of_ble_eq_true rfl)
  rw [lg_entry_eq]
  generalize (lg_sl ([.ref c0, .ref u0, .ref aB, .ref aO, .ref aI, .int (nI (kr))]) ++ List.replicate (8 - (lg_sl ([.ref c0, .ref u0, .ref aB, .ref aO, .ref aI, .int (nI (kr))])).length) Slot.unset).toArray = ls at hl ⊢
  have hl : lv_has ls 8 [(0, .ref c0), (1, .ref u0), (2, .ref aB), (3, .ref aO), (4, .ref aI), (5, .int (nI (kr)))] := hl
  have hw62 := hts _ (List.mem_cons_of_mem _ tw_62)
  have hw125 := hts _ (List.mem_cons_of_mem _ tw_125)
  have hw123 := hts _ (List.mem_cons_of_mem _ tw_123)
  have hw52 := hts _ (List.mem_cons_of_mem _ tw_52)
  have hw55 := hts _ (List.mem_cons_of_mem _ tw_55)
  have hw127 := hts _ (List.mem_cons_of_mem _ tw_127)
  have hw57 := hts _ (List.mem_cons_of_mem _ tw_57)
  have hw463 := hts _ (List.mem_cons_of_mem _ tw_463)
  have hw464 := hts _ (List.mem_cons_of_mem _ tw_464)
  have hw15 := hts _ (List.mem_cons_of_mem _ tw_15)
  have hw31 := hts _ (List.mem_cons_of_mem _ tw_31)
  have hw36 := hts _ (List.mem_cons_of_mem _ tw_36)
  have hw41 := hts _ (List.mem_cons_of_mem _ tw_41)
  have hw46 := hts _ (List.mem_cons_of_mem _ tw_46)
  refine dw_Q (fun Q hQ => ?_)
  suffices hgo : ∀ (H : Heap) (locs : List Loc), dw_G (dC, dI) vwCl [(cI, .int), (cZ, .boolean)] A s.heap s [(c0, .inr (4, [.ref aW, .ref aS, .ref aBf])), (aW, .inl (cI, 24, .inl (Rd))), (aS, .inl (cI, 4, .inl (Sn))), (aBf, .inl (cI, 24, .inl (Bef))), (u0, .inr (1, [.ref aK, .ref aX, .ref aY, .ref aN, .ref aV, .ref aM, .int (nI (n)), .int (nI (R))])), (aK, .inl (cI, 24, .inl (fun w => nI (K w)))), (aX, .inl (cI, 24, .inl (fun w => nI (X w)))), (aY, .inl (cI, 24, .inl (fun w => nI (Y w)))), (aN, .inl (cI, 24, .inl (Nm))), (aV, .inl (cI, 4, .inl (fun r => nI (RV r)))), (aM, .inl (cI, 4, .inl (Ms))), (aB, .inl (cI, 24, .inl (Bw))), (aO, .inl (cI, 24, .inl (On))), (aI, .inl (cI, 3, .inl (inp)))] H locs → W p l e (headSpec wsC_follow { frames := 1, cells := 0, slots := 0, locals := 60 }).room s m [.ref c0, .ref u0, .ref aB, .ref aO, .ref aI, .int (nI (kr))].toArray below meth c H locs 0 0 Q (F0 m 0 ls []) from hgo _ _ hG
  clear hG
  intro H locs hG
  refine lv_iconst (v := 0) hx hb dC_follow_0 (by decide) ?_
  refine lv_istore (lv' := [(6, .int (0)), (0, .ref c0), (1, .ref u0), (2, .ref aB), (3, .ref aO), (4, .ref aI), (5, .int (nI (kr)))]) hx hb dC_follow_1 hl (by decide) rfl (fun ls hl => ?_)
  have L3 : ∀ (zz : Nat) (i : Nat) (R1 : Nat → Int32) (bf : Nat → Int32) (ls : Array Slot) (H : Heap) (locs : List Loc), kr - i < zz → i ≤ kr → R1 = db_course n K X Y Nm Bw On inp i Rd → lv_has ls 8 [(0, .ref c0), (1, .ref u0), (2, .ref aB), (3, .ref aO), (4, .ref aI), (5, .int (nI (kr))), (6, .int (nI (i)))] → dw_G (dC, dI) vwCl [(cI, .int), (cZ, .boolean)] A s.heap s [(c0, .inr (4, [.ref aW, .ref aS, .ref aBf])), (aW, .inl (cI, 24, .inl (R1))), (aS, .inl (cI, 4, .inl (Sn))), (aBf, .inl (cI, 24, .inl (bf))), (u0, .inr (1, [.ref aK, .ref aX, .ref aY, .ref aN, .ref aV, .ref aM, .int (nI (n)), .int (nI (R))])), (aK, .inl (cI, 24, .inl (fun w => nI (K w)))), (aX, .inl (cI, 24, .inl (fun w => nI (X w)))), (aY, .inl (cI, 24, .inl (fun w => nI (Y w)))), (aN, .inl (cI, 24, .inl (Nm))), (aV, .inl (cI, 4, .inl (fun r => nI (RV r)))), (aM, .inl (cI, 4, .inl (Ms))), (aB, .inl (cI, 24, .inl (Bw))), (aO, .inl (cI, 24, .inl (On))), (aI, .inl (cI, 3, .inl (inp)))] H locs → W p l e (headSpec wsC_follow { frames := 1, cells := 0, slots := 0, locals := 60 }).room s m [.ref c0, .ref u0, .ref aB, .ref aO, .ref aI, .int (nI (kr))].toArray below meth c H locs 0 0 Q (F0 m 3 ls []) := by
    intro zz
    induction zz with
    | zero => intro i R1 bf ls H locs hz; exact absurd hz (Nat.not_lt_zero _)
    | succ zz L3_ih =>
      intro i R1 bf ls H locs hz hi9 hR1 hl hG
      refine lv_iload hx hb dC_follow_3 (lv_at hl 6 rfl) ?_
      refine lv_iload hx hb dC_follow_5 (lv_at hl 5 rfl) ?_
      refine lv_icmp_ge (tgt := 205) hx hb dC_follow_7 (by decide) (fun h7 => ?_) (fun h7 => ?_)
      · skip
        replace h7 := (nI_leI (a := kr) (b := i) (by omega) (by omega)).mp h7
        refine lv_iconst (v := 0) hx hb dC_follow_205 (by decide) ?_
        refine lv_istore (lv' := [(6, .int (0)), (0, .ref c0), (1, .ref u0), (2, .ref aB), (3, .ref aO), (4, .ref aI), (5, .int (nI (kr)))]) hx hb dC_follow_206 hl (by decide) rfl (fun ls hl => ?_)
        have L208 : ∀ (zz : Nat) (r : Nat) (sn : Nat → Int32) (ls : Array Slot) (H : Heap) (locs : List Loc), R - r < zz → r ≤ R → (∀ q, q < r → sn q = R1 (RV q) &&& Ms q) → (∀ q, r ≤ q → sn q = Sn q) → lv_has ls 8 [(0, .ref c0), (1, .ref u0), (2, .ref aB), (3, .ref aO), (4, .ref aI), (5, .int (nI (kr))), (6, .int (nI (r)))] → dw_G (dC, dI) vwCl [(cI, .int), (cZ, .boolean)] A s.heap s [(c0, .inr (4, [.ref aW, .ref aS, .ref aBf])), (aW, .inl (cI, 24, .inl (R1))), (aS, .inl (cI, 4, .inl (sn))), (aBf, .inl (cI, 24, .inl (bf))), (u0, .inr (1, [.ref aK, .ref aX, .ref aY, .ref aN, .ref aV, .ref aM, .int (nI (n)), .int (nI (R))])), (aK, .inl (cI, 24, .inl (fun w => nI (K w)))), (aX, .inl (cI, 24, .inl (fun w => nI (X w)))), (aY, .inl (cI, 24, .inl (fun w => nI (Y w)))), (aN, .inl (cI, 24, .inl (Nm))), (aV, .inl (cI, 4, .inl (fun r => nI (RV r)))), (aM, .inl (cI, 4, .inl (Ms))), (aB, .inl (cI, 24, .inl (Bw))), (aO, .inl (cI, 24, .inl (On))), (aI, .inl (cI, 3, .inl (inp)))] H locs → W p l e (headSpec wsC_follow { frames := 1, cells := 0, slots := 0, locals := 60 }).room s m [.ref c0, .ref u0, .ref aB, .ref aO, .ref aI, .int (nI (kr))].toArray below meth c H locs 0 0 Q (F0 m 208 ls []) := by
          intro zz
          induction zz with
          | zero => intro r sn ls H locs hz; exact absurd hz (Nat.not_lt_zero _)
          | succ zz L208_ih =>
            intro r sn ls H locs hz hr9 hs1 hs2 hl hG
            refine lv_iload hx hb dC_follow_208 (lv_at hl 6 rfl) ?_
            refine lv_aload_n hx hb dC_follow_210 rfl (lv_at hl 1 rfl) ?_
            refine dw_get hx hb hts inUc hown hG 4 7 rfl rfl (by decide) hw62 rfl rfl dC_follow_211 ?_
            refine lv_icmp_ge (tgt := 250) hx hb dC_follow_214 (by decide) (fun h214 => ?_) (fun h214 => ?_)
            · skip
              replace h214 := (nI_leI (a := R) (b := r) (by omega) (by omega)).mp h214
              subst hQ
              exact dw_vret hx hb hr hG ((sn, bf)) (by rw [hR1, show i = kr by omega] <;> rfl) ⟨fun q hq => by rw [← show R1 = db_course n K X Y Nm Bw On inp kr Rd by rw [hR1, show i = kr by omega]]; exact hs1 q (by omega), fun q hq => hs2 q (by omega)⟩ dC_follow_250 hlocks
            replace h214 : ¬ R ≤ r := fun hq0 => h214 ((nI_leI (a := R) (b := r) (by omega) (by omega)).mpr hq0)
            have hrv := hRV r (by omega)
            refine lv_aload_n hx hb dC_follow_217 rfl (lv_at hl 0 rfl) ?_
            refine dw_get hx hb hts inCc hown hG 0 1 rfl rfl (by decide) hw125 rfl rfl dC_follow_218 ?_
            refine lv_iload hx hb dC_follow_221 (lv_at hl 6 rfl) ?_
            refine lv_aload_n hx hb dC_follow_223 rfl (lv_at hl 0 rfl) ?_
            refine dw_get hx hb hts inCc hown hG 0 0 rfl rfl (by decide) hw123 rfl rfl dC_follow_224 ?_
            refine lv_aload_n hx hb dC_follow_227 rfl (lv_at hl 1 rfl) ?_
            refine dw_get hx hb hts inUc hown hG 4 4 rfl rfl (by decide) hw52 rfl rfl dC_follow_228 ?_
            refine lv_iload hx hb dC_follow_231 (lv_at hl 6 rfl) ?_
            refine dw_ia (x := nI (RV r)) hx hb hG 9 0 rfl rfl (r) rfl (by omega) (by decide) rfl dC_follow_233 ?_
            refine dw_ia (x := (R1) (RV r)) hx hb hG 1 0 rfl rfl (RV r) rfl (by omega) (by decide) rfl dC_follow_234 ?_
            refine lv_aload_n hx hb dC_follow_235 rfl (lv_at hl 1 rfl) ?_
            refine dw_get hx hb hts inUc hown hG 4 5 rfl rfl (by decide) hw55 rfl rfl dC_follow_236 ?_
            refine lv_iload hx hb dC_follow_239 (lv_at hl 6 rfl) ?_
            refine dw_ia (x := (Ms) (r)) hx hb hG 10 0 rfl rfl (r) rfl (by omega) (by decide) rfl dC_follow_241 ?_
            refine lv_iand hx hb dC_follow_242 ?_
            refine dw_is (ws' := [(c0, .inr (4, [.ref aW, .ref aS, .ref aBf])), (aW, .inl (cI, 24, .inl (R1))), (aS, .inl (cI, 4, .inl (upd (sn) (r) (((R1) (RV r)) &&& ((Ms) (r)))))), (aBf, .inl (cI, 24, .inl (bf))), (u0, .inr (1, [.ref aK, .ref aX, .ref aY, .ref aN, .ref aV, .ref aM, .int (nI (n)), .int (nI (R))])), (aK, .inl (cI, 24, .inl (fun w => nI (K w)))), (aX, .inl (cI, 24, .inl (fun w => nI (X w)))), (aY, .inl (cI, 24, .inl (fun w => nI (Y w)))), (aN, .inl (cI, 24, .inl (Nm))), (aV, .inl (cI, 4, .inl (fun r => nI (RV r)))), (aM, .inl (cI, 4, .inl (Ms))), (aB, .inl (cI, 24, .inl (Bw))), (aO, .inl (cI, 24, .inl (On))), (aI, .inl (cI, 3, .inl (inp)))]) hx hb hG 2 0 rfl rfl (r) rfl (by omega) (by decide) dC_follow_243 rfl (fun H locs hG => ?_)
            refine lv_iinc (v := nI (r + 1)) (lv' := [(6, .int (nI (r + 1))), (0, .ref c0), (1, .ref u0), (2, .ref aB), (3, .ref aO), (4, .ref aI), (5, .int (nI (kr)))]) hx hb dC_follow_244 hl (k := 6) rfl (dw_inc (r)) (by decide) rfl (fun ls hl => ?_)
            refine lv_goto (tgt := 208) hx hb dC_follow_247 (by decide) ?_
            exact L208_ih (r + 1) (upd (sn) (r) (((R1) (RV r)) &&& ((Ms) (r)))) ls H locs (by omega) (by omega) (fun q hq => (Decidable.em (q = r)).elim (fun e => by rw [e, pk_us]) (fun e => by rw [pk_un e]; exact hs1 q (by omega))) (fun q hq => by rw [pk_un (by omega)]; exact hs2 q (by omega)) (lv_sub hl [1, 2, 3, 4, 5, 6, 0] rfl) hG
        exact L208 _ (0) (Sn) ls H locs (Nat.lt_succ_self _) (Nat.zero_le _) (fun q hq => by omega) (fun q hq => rfl) (lv_sub hl [1, 2, 3, 4, 5, 6, 0] rfl) hG
      replace h7 : ¬ kr ≤ i := fun hq0 => h7 ((nI_leI (a := kr) (b := i) (by omega) (by omega)).mpr hq0)
      refine lv_aload_n hx hb dC_follow_10 rfl (lv_at hl 0 rfl) ?_
      refine dw_get hx hb hts inCc hown hG 0 0 rfl rfl (by decide) hw123 rfl rfl dC_follow_11 ?_
      refine lv_iconst (v := 0) hx hb dC_follow_14 (by decide) ?_
      refine lv_aload_n hx hb dC_follow_15 rfl (lv_at hl 0 rfl) ?_
      refine dw_get hx hb hts inCc hown hG 0 2 rfl rfl (by decide) hw127 rfl rfl dC_follow_16 ?_
      refine lv_iconst (v := 0) hx hb dC_follow_19 (by decide) ?_
      refine lv_aload_n hx hb dC_follow_20 rfl (lv_at hl 1 rfl) ?_
      refine dw_get hx hb hts inUc hown hG 4 6 rfl rfl (by decide) hw57 rfl rfl dC_follow_21 ?_
      have hcn : (nI n).toNatClampNeg = n := nI_clamp (by omega)
      refine va_copyi (sp := 0) (dp := 0) (n := nI n) hx hb (hml.trans hl.1.symm) hown hw463 (hts _ (List.mem_cons_of_mem _ tn_arraycopy)) hw464 hw15 hG.1 hG.2.1 hG.2.2.1 hG.2.2.2.1 1 3 0 0 rfl rfl rfl rfl rfl (by decide) (by decide) (nI_pos (by omega)) (by rw [hcn, sb_cl0]; omega) (by rw [hcn, sb_cl0]; omega) (fun _ _ => rfl) (by decide) (by decide) dC_follow_24 (fun H locs g1 g2 g3 => ?_)
      rw [hcn] at g1 g2
      have hG : dw_G (dC, dI) vwCl [(cI, .int), (cZ, .boolean)] A s.heap s [(c0, .inr (4, [.ref aW, .ref aS, .ref aBf])), (aW, .inl (cI, 24, .inl (R1))), (aS, .inl (cI, 4, .inl (Sn))), (aBf, .inl (cI, 24, .inl (va_cpy R1 bf 0 0 n))), (u0, .inr (1, [.ref aK, .ref aX, .ref aY, .ref aN, .ref aV, .ref aM, .int (nI (n)), .int (nI (R))])), (aK, .inl (cI, 24, .inl (fun w => nI (K w)))), (aX, .inl (cI, 24, .inl (fun w => nI (X w)))), (aY, .inl (cI, 24, .inl (fun w => nI (Y w)))), (aN, .inl (cI, 24, .inl (Nm))), (aV, .inl (cI, 4, .inl (fun r => nI (RV r)))), (aM, .inl (cI, 4, .inl (Ms))), (aB, .inl (cI, 24, .inl (Bw))), (aO, .inl (cI, 24, .inl (On))), (aI, .inl (cI, 3, .inl (inp)))] H locs := ⟨hG.1, g1, g2, g3, hG.2.2.2.2⟩
      refine lv_iconst (v := 0) hx hb dC_follow_27 (by decide) ?_
      refine lv_istore (lv' := [(7, .int (0)), (0, .ref c0), (1, .ref u0), (2, .ref aB), (3, .ref aO), (4, .ref aI), (5, .int (nI (kr))), (6, .int (nI (i)))]) hx hb dC_follow_28 hl (by decide) rfl (fun ls hl => ?_)
      have L30 : ∀ (zz : Nat) (v : Nat) (R2 : Nat → Int32) (bf2 : Nat → Int32) (ls : Array Slot) (H : Heap) (locs : List Loc), n - v < zz → v ≤ n → R2 = db_it (db_rs K X Y Nm Bw On (i = 0) R1 inp) v R1 → (∀ w, w < n → bf2 w = R1 w) → lv_has ls 8 [(0, .ref c0), (1, .ref u0), (2, .ref aB), (3, .ref aO), (4, .ref aI), (5, .int (nI (kr))), (6, .int (nI (i))), (7, .int (nI (v)))] → dw_G (dC, dI) vwCl [(cI, .int), (cZ, .boolean)] A s.heap s [(c0, .inr (4, [.ref aW, .ref aS, .ref aBf])), (aW, .inl (cI, 24, .inl (R2))), (aS, .inl (cI, 4, .inl (Sn))), (aBf, .inl (cI, 24, .inl (bf2))), (u0, .inr (1, [.ref aK, .ref aX, .ref aY, .ref aN, .ref aV, .ref aM, .int (nI (n)), .int (nI (R))])), (aK, .inl (cI, 24, .inl (fun w => nI (K w)))), (aX, .inl (cI, 24, .inl (fun w => nI (X w)))), (aY, .inl (cI, 24, .inl (fun w => nI (Y w)))), (aN, .inl (cI, 24, .inl (Nm))), (aV, .inl (cI, 4, .inl (fun r => nI (RV r)))), (aM, .inl (cI, 4, .inl (Ms))), (aB, .inl (cI, 24, .inl (Bw))), (aO, .inl (cI, 24, .inl (On))), (aI, .inl (cI, 3, .inl (inp)))] H locs → W p l e (headSpec wsC_follow { frames := 1, cells := 0, slots := 0, locals := 60 }).room s m [.ref c0, .ref u0, .ref aB, .ref aO, .ref aI, .int (nI (kr))].toArray below meth c H locs 0 0 Q (F0 m 30 ls []) := by
        intro zz
        induction zz with
        | zero => intro v R2 bf2 ls H locs hz; exact absurd hz (Nat.not_lt_zero _)
        | succ zz L30_ih =>
          intro v R2 bf2 ls H locs hz hv9 hR2 hb2 hl hG
          refine lv_iload hx hb dC_follow_30 (lv_at hl 7 rfl) ?_
          refine lv_aload_n hx hb dC_follow_32 rfl (lv_at hl 1 rfl) ?_
          refine dw_get hx hb hts inUc hown hG 4 6 rfl rfl (by decide) hw57 rfl rfl dC_follow_33 ?_
          refine lv_icmp_ge (tgt := 199) hx hb dC_follow_36 (by decide) (fun h36 => ?_) (fun h36 => ?_)
          · skip
            replace h36 := (nI_leI (a := n) (b := v) (by omega) (by omega)).mp h36
            refine lv_iinc (v := nI (i + 1)) (lv' := [(6, .int (nI (i + 1))), (0, .ref c0), (1, .ref u0), (2, .ref aB), (3, .ref aO), (4, .ref aI), (5, .int (nI (kr))), (7, .int (nI (v)))]) hx hb dC_follow_199 hl (k := 6) rfl (dw_inc (i)) (by decide) rfl (fun ls hl => ?_)
            refine lv_goto (tgt := 3) hx hb dC_follow_202 (by decide) ?_
            exact L3_ih (i + 1) (R2) (bf2) ls H locs (by omega) (by omega) (by have e : v = n := (by omega); rw [hR2, e, hR1]; rfl) (lv_sub hl [1, 2, 3, 4, 5, 6, 0] rfl) hG
          replace h36 : ¬ n ≤ v := fun hq0 => h36 ((nI_leI (a := n) (b := v) (by omega) (by omega)).mpr hq0)
          have hvn : v < n := by omega
          have hw1 : K v ≤ 13 := (hwf v hvn).1
          have hw2 := (hwf v hvn).2.1
          have hw3 := (hwf v hvn).2.2.1
          refine lv_aload_n hx hb dC_follow_39 rfl (lv_at hl 2 rfl) ?_
          refine lv_iload hx hb dC_follow_40 (lv_at hl 7 rfl) ?_
          refine dw_ia (x := Bw v) hx hb hG 11 0 rfl rfl (v) rfl (by omega) (by decide) rfl dC_follow_42 ?_
          refine lv_bipush (v := -2) hx hb dC_follow_43 (by decide) ?_
          refine lv_icmp_ne (tgt := 62) hx hb dC_follow_45 (by decide) (fun h45 => ?_) (fun h45 => ?_)
          · skip
            refine lv_aload_n hx hb dC_follow_62 rfl (lv_at hl 2 rfl) ?_
            refine lv_iload hx hb dC_follow_63 (lv_at hl 7 rfl) ?_
            refine dw_ia (x := Bw v) hx hb hG 11 0 rfl rfl (v) rfl (by omega) (by decide) rfl dC_follow_65 ?_
            refine lv_iconst (v := -1) hx hb dC_follow_66 (by decide) ?_
            refine lv_icmp_eq (tgt := 89) hx hb dC_follow_67 (by decide) (fun h67 => ?_) (fun h67 => ?_)
            · skip
              refine lv_aload_n hx hb dC_follow_89 rfl (lv_at hl 1 rfl) ?_
              refine dw_get hx hb hts inUc hown hG 4 0 rfl rfl (by decide) hw31 rfl rfl dC_follow_90 ?_
              refine lv_iload hx hb dC_follow_93 (lv_at hl 7 rfl) ?_
              refine dw_ia (x := nI (K v)) hx hb hG 5 0 rfl rfl (v) rfl (by omega) (by decide) rfl dC_follow_95 ?_
              refine lv_bipush (v := 13) hx hb dC_follow_96 (by decide) ?_
              refine lv_icmp_ne (tgt := 143) hx hb dC_follow_98 (by decide) (fun h98 => ?_) (fun h98 => ?_)
              · skip
                replace h98 : ¬ K v = 13 := fun hq0 => h98 ((nI_eq (a := K v) (b := 13) (by omega) (by omega)).mpr hq0)
                refine lv_aload_n hx hb dC_follow_143 rfl (lv_at hl 0 rfl) ?_
                refine dw_get hx hb hts inCc hown hG 0 0 rfl rfl (by decide) hw123 rfl rfl dC_follow_144 ?_
                refine lv_iload hx hb dC_follow_147 (lv_at hl 7 rfl) ?_
                refine lv_aload_n hx hb dC_follow_149 rfl (lv_at hl 1 rfl) ?_
                refine dw_get hx hb hts inUc hown hG 4 0 rfl rfl (by decide) hw31 rfl rfl dC_follow_150 ?_
                refine lv_iload hx hb dC_follow_153 (lv_at hl 7 rfl) ?_
                refine dw_ia (x := nI (K v)) hx hb hG 5 0 rfl rfl (v) rfl (by omega) (by decide) rfl dC_follow_155 ?_
                refine lv_aload_n hx hb dC_follow_156 rfl (lv_at hl 0 rfl) ?_
                refine dw_get hx hb hts inCc hown hG 0 0 rfl rfl (by decide) hw123 rfl rfl dC_follow_157 ?_
                refine lv_aload_n hx hb dC_follow_160 rfl (lv_at hl 1 rfl) ?_
                refine dw_get hx hb hts inUc hown hG 4 1 rfl rfl (by decide) hw36 rfl rfl dC_follow_161 ?_
                refine lv_iload hx hb dC_follow_164 (lv_at hl 7 rfl) ?_
                refine dw_ia (x := nI (X v)) hx hb hG 6 0 rfl rfl (v) rfl (by omega) (by decide) rfl dC_follow_166 ?_
                refine dw_ia (x := (R2) (X v)) hx hb hG 1 0 rfl rfl (X v) rfl (by omega) (by decide) rfl dC_follow_167 ?_
                refine lv_aload_n hx hb dC_follow_168 rfl (lv_at hl 0 rfl) ?_
                refine dw_get hx hb hts inCc hown hG 0 0 rfl rfl (by decide) hw123 rfl rfl dC_follow_169 ?_
                refine lv_aload_n hx hb dC_follow_172 rfl (lv_at hl 1 rfl) ?_
                refine dw_get hx hb hts inUc hown hG 4 2 rfl rfl (by decide) hw41 rfl rfl dC_follow_173 ?_
                refine lv_iload hx hb dC_follow_176 (lv_at hl 7 rfl) ?_
                refine dw_ia (x := nI (Y v)) hx hb hG 7 0 rfl rfl (v) rfl (by omega) (by decide) rfl dC_follow_178 ?_
                refine dw_ia (x := (R2) (Y v)) hx hb hG 1 0 rfl rfl (Y v) rfl (by omega) (by decide) rfl dC_follow_179 ?_
                refine lv_aload_n hx hb dC_follow_180 rfl (lv_at hl 1 rfl) ?_
                refine dw_get hx hb hts inUc hown hG 4 3 rfl rfl (by decide) hw46 rfl rfl dC_follow_181 ?_
                refine lv_iload hx hb dC_follow_184 (lv_at hl 7 rfl) ?_
                refine dw_ia (x := (Nm) (v)) hx hb hG 8 0 rfl rfl (v) rfl (by omega) (by decide) rfl dC_follow_186 ?_
                refine lv_aload hx hb dC_follow_187 (lv_at hl 4 rfl) ?_
                refine dw_calli (wc := [(aI, .inl (cI, 3, .inl (inp)))]) (wr := [(c0, .inr (4, [.ref aW, .ref aS, .ref aBf])), (aW, .inl (cI, 24, .inl (R2))), (aS, .inl (cI, 4, .inl (Sn))), (aBf, .inl (cI, 24, .inl (bf2))), (u0, .inr (1, [.ref aK, .ref aX, .ref aY, .ref aN, .ref aV, .ref aM, .int (nI (n)), .int (nI (R))])), (aK, .inl (cI, 24, .inl (fun w => nI (K w)))), (aX, .inl (cI, 24, .inl (fun w => nI (X w)))), (aY, .inl (cI, 24, .inl (fun w => nI (Y w)))), (aN, .inl (cI, 24, .inl (Nm))), (aV, .inl (cI, 4, .inl (fun r => nI (RV r)))), (aM, .inl (cI, 4, .inl (Ms))), (aB, .inl (cI, 24, .inl (Bw))), (aO, .inl (cI, 24, .inl (On)))]) hG [13] [0, 1, 2, 3, 4, 5, 6, 7, 8, 9, 10, 11, 12] rfl rfl (by decide) (by decide) (va_runS (As := [.int (nI (K v)), .int ((R2) (X v)), .int ((R2) (Y v)), .int ((Nm) (v)), .ref aI]) (rest := [.int (nI (v)), .ref aW]) ⟨hx, hb, hml, hown, hts⟩ (cc_workOut l dC dI cI cZ aI ((R2) (X v)) ((R2) (Y v)) inp ((Nm) (v)) (K v) H.size (by omega) (fun z => (hwf v hvn).2.2.2.2.2.2 z)) (dc_S 5 hts tw_466 tw_467 tw_5 tw_468 rfl rfl (by decide +kernel) ⟨Nat.le_of_ble_eq_true rfl, Nat.le_of_ble_eq_true rfl⟩) (dw_preS hG [13] [0, 1] rfl rfl (by decide) rfl) rfl rfl hl.1 rfl (lv_room (Nat.le_of_ble_eq_true rfl)) dC_follow_189 ⟨Nat.le_refl _, Nat.le_refl _⟩) (fun r u H locs hp hG => ?_)
                subst hp
                have hG : dw_G (dC, dI) vwCl [(cI, .int), (cZ, .boolean)] A s.heap s [(c0, .inr (4, [.ref aW, .ref aS, .ref aBf])), (aW, .inl (cI, 24, .inl (R2))), (aS, .inl (cI, 4, .inl (Sn))), (aBf, .inl (cI, 24, .inl (bf2))), (u0, .inr (1, [.ref aK, .ref aX, .ref aY, .ref aN, .ref aV, .ref aM, .int (nI (n)), .int (nI (R))])), (aK, .inl (cI, 24, .inl (fun w => nI (K w)))), (aX, .inl (cI, 24, .inl (fun w => nI (X w)))), (aY, .inl (cI, 24, .inl (fun w => nI (Y w)))), (aN, .inl (cI, 24, .inl (Nm))), (aV, .inl (cI, 4, .inl (fun r => nI (RV r)))), (aM, .inl (cI, 4, .inl (Ms))), (aB, .inl (cI, 24, .inl (Bw))), (aO, .inl (cI, 24, .inl (On))), (aI, .inl (cI, 3, .inl (inp)))] H locs := hG
                refine dw_is (ws' := [(c0, .inr (4, [.ref aW, .ref aS, .ref aBf])), (aW, .inl (cI, 24, .inl (upd (R2) (v) (db_op (K v) ((R2) (X v)) ((R2) (Y v)) ((Nm) (v)) inp)))), (aS, .inl (cI, 4, .inl (Sn))), (aBf, .inl (cI, 24, .inl (bf2))), (u0, .inr (1, [.ref aK, .ref aX, .ref aY, .ref aN, .ref aV, .ref aM, .int (nI (n)), .int (nI (R))])), (aK, .inl (cI, 24, .inl (fun w => nI (K w)))), (aX, .inl (cI, 24, .inl (fun w => nI (X w)))), (aY, .inl (cI, 24, .inl (fun w => nI (Y w)))), (aN, .inl (cI, 24, .inl (Nm))), (aV, .inl (cI, 4, .inl (fun r => nI (RV r)))), (aM, .inl (cI, 4, .inl (Ms))), (aB, .inl (cI, 24, .inl (Bw))), (aO, .inl (cI, 24, .inl (On))), (aI, .inl (cI, 3, .inl (inp)))]) hx hb hG 1 0 rfl rfl (v) rfl (by omega) (by decide) dC_follow_192 rfl (fun H locs hG => ?_)
                refine lv_iinc (v := nI (v + 1)) (lv' := [(7, .int (nI (v + 1))), (0, .ref c0), (1, .ref u0), (2, .ref aB), (3, .ref aO), (4, .ref aI), (5, .int (nI (kr))), (6, .int (nI (i)))]) hx hb dC_follow_193 hl (k := 7) rfl (dw_inc (v)) (by decide) rfl (fun ls hl => ?_)
                refine lv_goto (tgt := 30) hx hb dC_follow_196 (by decide) ?_
                exact L30_ih (v + 1) (upd (R2) (v) (db_op (K v) ((R2) (X v)) ((R2) (Y v)) ((Nm) (v)) inp)) (bf2) ls H locs (by omega) (by omega) (by rw [db_rs_of (first := i = 0) (bef := R1) (B := Bw) (K := K) (X := X) (Y := Y) (Nm := Nm) (fx := On) (inp := inp) (db_rv_O h67 h98), hR2]; rfl) hb2 (lv_sub hl [1, 2, 3, 4, 5, 6, 7, 0] rfl) hG
              replace h98 := (nI_eq (a := K v) (b := 13) (by omega) (by omega)).mp h98
              refine lv_aload_n hx hb dC_follow_101 rfl (lv_at hl 0 rfl) ?_
              refine dw_get hx hb hts inCc hown hG 0 0 rfl rfl (by decide) hw123 rfl rfl dC_follow_102 ?_
              refine lv_iload hx hb dC_follow_105 (lv_at hl 7 rfl) ?_
              refine lv_iload hx hb dC_follow_107 (lv_at hl 6 rfl) ?_
              refine lv_if_ne (tgt := 127) hx hb dC_follow_109 (by decide) (fun h109 => ?_) (fun h109 => ?_)
              · skip
                replace h109 : ¬ i = 0 := fun hq0 => h109 ((nI_eq (a := i) (b := 0) (by omega) (by omega)).mpr hq0)
                refine lv_aload_n hx hb dC_follow_127 rfl (lv_at hl 0 rfl) ?_
                refine dw_get hx hb hts inCc hown hG 0 2 rfl rfl (by decide) hw127 rfl rfl dC_follow_128 ?_
                refine lv_aload_n hx hb dC_follow_131 rfl (lv_at hl 1 rfl) ?_
                refine dw_get hx hb hts inUc hown hG 4 2 rfl rfl (by decide) hw41 rfl rfl dC_follow_132 ?_
                refine lv_iload hx hb dC_follow_135 (lv_at hl 7 rfl) ?_
                refine dw_ia (x := nI (Y v)) hx hb hG 7 0 rfl rfl (v) rfl (by omega) (by decide) rfl dC_follow_137 ?_
                refine dw_ia (x := (bf2) (Y v)) hx hb hG 3 0 rfl rfl (Y v) rfl (by omega) (by decide) rfl dC_follow_138 ?_
                refine dw_is (ws' := [(c0, .inr (4, [.ref aW, .ref aS, .ref aBf])), (aW, .inl (cI, 24, .inl (upd (R2) (v) ((bf2) (Y v))))), (aS, .inl (cI, 4, .inl (Sn))), (aBf, .inl (cI, 24, .inl (bf2))), (u0, .inr (1, [.ref aK, .ref aX, .ref aY, .ref aN, .ref aV, .ref aM, .int (nI (n)), .int (nI (R))])), (aK, .inl (cI, 24, .inl (fun w => nI (K w)))), (aX, .inl (cI, 24, .inl (fun w => nI (X w)))), (aY, .inl (cI, 24, .inl (fun w => nI (Y w)))), (aN, .inl (cI, 24, .inl (Nm))), (aV, .inl (cI, 4, .inl (fun r => nI (RV r)))), (aM, .inl (cI, 4, .inl (Ms))), (aB, .inl (cI, 24, .inl (Bw))), (aO, .inl (cI, 24, .inl (On))), (aI, .inl (cI, 3, .inl (inp)))]) hx hb hG 1 0 rfl rfl (v) rfl (by omega) (by decide) dC_follow_139 rfl (fun H locs hG => ?_)
                refine lv_goto (tgt := 193) hx hb dC_follow_140 (by decide) ?_
                refine lv_iinc (v := nI (v + 1)) (lv' := [(7, .int (nI (v + 1))), (0, .ref c0), (1, .ref u0), (2, .ref aB), (3, .ref aO), (4, .ref aI), (5, .int (nI (kr))), (6, .int (nI (i)))]) hx hb dC_follow_193 hl (k := 7) rfl (dw_inc (v)) (by decide) rfl (fun ls hl => ?_)
                refine lv_goto (tgt := 30) hx hb dC_follow_196 (by decide) ?_
                exact L30_ih (v + 1) (upd (R2) (v) ((bf2) (Y v))) (bf2) ls H locs (by omega) (by omega) (by rw [db_rs_of (first := i = 0) (bef := R1) (B := Bw) (K := K) (X := X) (Y := Y) (Nm := Nm) (fx := On) (inp := inp) ((hb2 (Y v) (hwf v hvn).2.2.1).trans (db_rv_L2 h67 h98 h109)), hR2]; rfl) hb2 (lv_sub hl [1, 2, 3, 4, 5, 6, 7, 0] rfl) hG
              replace h109 := (nI_eq (a := i) (b := 0) (by omega) (by omega)).mp h109
              refine lv_aload_n hx hb dC_follow_112 rfl (lv_at hl 0 rfl) ?_
              refine dw_get hx hb hts inCc hown hG 0 0 rfl rfl (by decide) hw123 rfl rfl dC_follow_113 ?_
              refine lv_aload_n hx hb dC_follow_116 rfl (lv_at hl 1 rfl) ?_
              refine dw_get hx hb hts inUc hown hG 4 1 rfl rfl (by decide) hw36 rfl rfl dC_follow_117 ?_
              refine lv_iload hx hb dC_follow_120 (lv_at hl 7 rfl) ?_
              refine dw_ia (x := nI (X v)) hx hb hG 6 0 rfl rfl (v) rfl (by omega) (by decide) rfl dC_follow_122 ?_
              refine dw_ia (x := (R2) (X v)) hx hb hG 1 0 rfl rfl (X v) rfl (by omega) (by decide) rfl dC_follow_123 ?_
              refine lv_goto (tgt := 139) hx hb dC_follow_124 (by decide) ?_
              refine dw_is (ws' := [(c0, .inr (4, [.ref aW, .ref aS, .ref aBf])), (aW, .inl (cI, 24, .inl (upd (R2) (v) ((R2) (X v))))), (aS, .inl (cI, 4, .inl (Sn))), (aBf, .inl (cI, 24, .inl (bf2))), (u0, .inr (1, [.ref aK, .ref aX, .ref aY, .ref aN, .ref aV, .ref aM, .int (nI (n)), .int (nI (R))])), (aK, .inl (cI, 24, .inl (fun w => nI (K w)))), (aX, .inl (cI, 24, .inl (fun w => nI (X w)))), (aY, .inl (cI, 24, .inl (fun w => nI (Y w)))), (aN, .inl (cI, 24, .inl (Nm))), (aV, .inl (cI, 4, .inl (fun r => nI (RV r)))), (aM, .inl (cI, 4, .inl (Ms))), (aB, .inl (cI, 24, .inl (Bw))), (aO, .inl (cI, 24, .inl (On))), (aI, .inl (cI, 3, .inl (inp)))]) hx hb hG 1 0 rfl rfl (v) rfl (by omega) (by decide) dC_follow_139 rfl (fun H locs hG => ?_)
              refine lv_goto (tgt := 193) hx hb dC_follow_140 (by decide) ?_
              refine lv_iinc (v := nI (v + 1)) (lv' := [(7, .int (nI (v + 1))), (0, .ref c0), (1, .ref u0), (2, .ref aB), (3, .ref aO), (4, .ref aI), (5, .int (nI (kr))), (6, .int (nI (i)))]) hx hb dC_follow_193 hl (k := 7) rfl (dw_inc (v)) (by decide) rfl (fun ls hl => ?_)
              refine lv_goto (tgt := 30) hx hb dC_follow_196 (by decide) ?_
              exact L30_ih (v + 1) (upd (R2) (v) ((R2) (X v))) (bf2) ls H locs (by omega) (by omega) (by rw [db_rs_of (first := i = 0) (bef := R1) (B := Bw) (K := K) (X := X) (Y := Y) (Nm := Nm) (fx := On) (inp := inp) (db_rv_L1 h67 h98 h109), hR2]; rfl) hb2 (lv_sub hl [1, 2, 3, 4, 5, 6, 7, 0] rfl) hG
            obtain ⟨x9, hx9, ex9⟩ : ∃ x, x < n ∧ Bw v = nI x := by
              rcases hB v hvn with e | e | e
              · exact absurd e h67
              · exact absurd e h45
              · exact e
            refine lv_aload_n hx hb dC_follow_70 rfl (lv_at hl 0 rfl) ?_
            refine dw_get hx hb hts inCc hown hG 0 0 rfl rfl (by decide) hw123 rfl rfl dC_follow_71 ?_
            refine lv_iload hx hb dC_follow_74 (lv_at hl 7 rfl) ?_
            refine lv_aload_n hx hb dC_follow_76 rfl (lv_at hl 0 rfl) ?_
            refine dw_get hx hb hts inCc hown hG 0 0 rfl rfl (by decide) hw123 rfl rfl dC_follow_77 ?_
            refine lv_aload_n hx hb dC_follow_80 rfl (lv_at hl 2 rfl) ?_
            refine lv_iload hx hb dC_follow_81 (lv_at hl 7 rfl) ?_
            refine dw_ia (x := nI (x9)) hx hb hG 11 0 rfl rfl (v) rfl (by omega) (by decide) ex9 dC_follow_83 ?_
            refine dw_ia (x := (R2) (x9)) hx hb hG 1 0 rfl rfl (x9) rfl (by omega) (by decide) rfl dC_follow_84 ?_
            refine dw_is (ws' := [(c0, .inr (4, [.ref aW, .ref aS, .ref aBf])), (aW, .inl (cI, 24, .inl (upd (R2) (v) ((R2) (x9))))), (aS, .inl (cI, 4, .inl (Sn))), (aBf, .inl (cI, 24, .inl (bf2))), (u0, .inr (1, [.ref aK, .ref aX, .ref aY, .ref aN, .ref aV, .ref aM, .int (nI (n)), .int (nI (R))])), (aK, .inl (cI, 24, .inl (fun w => nI (K w)))), (aX, .inl (cI, 24, .inl (fun w => nI (X w)))), (aY, .inl (cI, 24, .inl (fun w => nI (Y w)))), (aN, .inl (cI, 24, .inl (Nm))), (aV, .inl (cI, 4, .inl (fun r => nI (RV r)))), (aM, .inl (cI, 4, .inl (Ms))), (aB, .inl (cI, 24, .inl (Bw))), (aO, .inl (cI, 24, .inl (On))), (aI, .inl (cI, 3, .inl (inp)))]) hx hb hG 1 0 rfl rfl (v) rfl (by omega) (by decide) dC_follow_85 rfl (fun H locs hG => ?_)
            refine lv_goto (tgt := 193) hx hb dC_follow_86 (by decide) ?_
            refine lv_iinc (v := nI (v + 1)) (lv' := [(7, .int (nI (v + 1))), (0, .ref c0), (1, .ref u0), (2, .ref aB), (3, .ref aO), (4, .ref aI), (5, .int (nI (kr))), (6, .int (nI (i)))]) hx hb dC_follow_193 hl (k := 7) rfl (dw_inc (v)) (by decide) rfl (fun ls hl => ?_)
            refine lv_goto (tgt := 30) hx hb dC_follow_196 (by decide) ?_
            exact L30_ih (v + 1) (upd (R2) (v) ((R2) (x9))) (bf2) ls H locs (by omega) (by omega) (by rw [db_rs_of (first := i = 0) (bef := R1) (B := Bw) (K := K) (X := X) (Y := Y) (Nm := Nm) (fx := On) (inp := inp) (db_rv_X (by omega) ex9), hR2]; rfl) hb2 (lv_sub hl [1, 2, 3, 4, 5, 6, 7, 0] rfl) hG
          refine lv_aload_n hx hb dC_follow_48 rfl (lv_at hl 0 rfl) ?_
          refine dw_get hx hb hts inCc hown hG 0 0 rfl rfl (by decide) hw123 rfl rfl dC_follow_49 ?_
          refine lv_iload hx hb dC_follow_52 (lv_at hl 7 rfl) ?_
          refine lv_aload_n hx hb dC_follow_54 rfl (lv_at hl 3 rfl) ?_
          refine lv_iload hx hb dC_follow_55 (lv_at hl 7 rfl) ?_
          refine dw_ia (x := (On) (v)) hx hb hG 12 0 rfl rfl (v) rfl (by omega) (by decide) rfl dC_follow_57 ?_
          refine dw_is (ws' := [(c0, .inr (4, [.ref aW, .ref aS, .ref aBf])), (aW, .inl (cI, 24, .inl (upd (R2) (v) ((On) (v))))), (aS, .inl (cI, 4, .inl (Sn))), (aBf, .inl (cI, 24, .inl (bf2))), (u0, .inr (1, [.ref aK, .ref aX, .ref aY, .ref aN, .ref aV, .ref aM, .int (nI (n)), .int (nI (R))])), (aK, .inl (cI, 24, .inl (fun w => nI (K w)))), (aX, .inl (cI, 24, .inl (fun w => nI (X w)))), (aY, .inl (cI, 24, .inl (fun w => nI (Y w)))), (aN, .inl (cI, 24, .inl (Nm))), (aV, .inl (cI, 4, .inl (fun r => nI (RV r)))), (aM, .inl (cI, 4, .inl (Ms))), (aB, .inl (cI, 24, .inl (Bw))), (aO, .inl (cI, 24, .inl (On))), (aI, .inl (cI, 3, .inl (inp)))]) hx hb hG 1 0 rfl rfl (v) rfl (by omega) (by decide) dC_follow_58 rfl (fun H locs hG => ?_)
          refine lv_goto (tgt := 193) hx hb dC_follow_59 (by decide) ?_
          refine lv_iinc (v := nI (v + 1)) (lv' := [(7, .int (nI (v + 1))), (0, .ref c0), (1, .ref u0), (2, .ref aB), (3, .ref aO), (4, .ref aI), (5, .int (nI (kr))), (6, .int (nI (i)))]) hx hb dC_follow_193 hl (k := 7) rfl (dw_inc (v)) (by decide) rfl (fun ls hl => ?_)
          refine lv_goto (tgt := 30) hx hb dC_follow_196 (by decide) ?_
          exact L30_ih (v + 1) (upd (R2) (v) ((On) (v))) (bf2) ls H locs (by omega) (by omega) (by rw [db_rs_of (first := i = 0) (bef := R1) (B := Bw) (K := K) (X := X) (Y := Y) (Nm := Nm) (fx := On) (inp := inp) (db_rv_F (fx := On) h45), hR2]; rfl) hb2 (lv_sub hl [1, 2, 3, 4, 5, 6, 7, 0] rfl) hG
      exact L30 _ (0) (R1) (va_cpy R1 bf 0 0 n) ls H locs (Nat.lt_succ_self _) (Nat.zero_le _) rfl (fun w hw => sb_cpy0 hw) (lv_sub hl [1, 2, 3, 4, 5, 6, 7, 0] rfl) hG
  exact L3 _ (0) (Rd) (Bef) ls H locs (Nat.lt_succ_self _) (Nat.zero_le _) rfl (lv_sub hl [1, 2, 3, 4, 5, 6, 0] rfl) hG

