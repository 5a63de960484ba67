set_option maxRecDepth 100000 in
set_option maxHeartbeats 4000000 in
theorem rf_multiply (l : Launch) (dC : Nat → ClassId) (dI : Nat → Nat → Nat) (cI cZ : ClassId) (m0 aMd aO1 aT2 aSh aMk aFa aDe aNe aBy aPi aNw aNs aBf : Nat) (ft vl rs pd rn rr : Int32) (v x y : Nat) (O1 T2 Fa : Nat → Int32) (zx ox zy oy : Int32) (sz : Nat) (hv : v < 24) (hxv : x < v) (hyv : y < v) (e1 : O1 v = nI x) (e2 : T2 v = nI y) (hfx : db_rep Fa x zx ox) (hfy : db_rep Fa y zy oy) (hax : db_ap zx ox) (hay : db_ap zy oy) : Met l yM_multiply wsM_multiply { frames := 1, cells := 0, slots := 0, locals := 24 } (va_Pc [.ref m0, .int (nI (v))] (dw_pre (dC, dI) vwCl [(m0, .inr (5, [.int (ft), .int (vl), .ref aMd, .ref aO1, .ref aT2, .int (rs), .ref aSh, .ref aMk, .ref aFa, .ref aDe, .ref aNe, .ref aBy, .ref aPi, .int (pd), .ref aNw, .ref aNs, .ref aBf, .int (rn), .int (rr)])), (aO1, .inl (cI, 24, .inl (O1))), (aT2, .inl (cI, 24, .inl (T2))), (aFa, .inl (cI, 768, .inl (Fa)))] [(cI, .int), (cZ, .boolean)] sz)) (va_Qv (fun (u : Nat → Int32) => db_out Fa u v ∧ db_rep u v (db_mulZ zx ox zy oy) (db_mulO zx ox zy oy)) (fun u t => dw_post (dC, dI) vwCl [(m0, .inr (5, [.int (ft), .int (vl), .ref aMd, .ref aO1, .ref aT2, .int (rs), .ref aSh, .ref aMk, .ref aFa, .ref aDe, .ref aNe, .ref aBy, .ref aPi, .int (pd), .ref aNw, .ref aNs, .ref aBf, .int (rn), .int (rr)])), (aO1, .inl (cI, 24, .inl (O1))), (aT2, .inl (cI, 24, .inl (T2))), (aFa, .inl (cI, 768, .inl (u)))] [(cI, .int), (cZ, .boolean)] (va_A [(m0, .inr (5, [.int (ft), .int (vl), .ref aMd, .ref aO1, .ref aT2, .int (rs), .ref aSh, .ref aMk, .ref aFa, .ref aDe, .ref aNe, .ref aBy, .ref aPi, .int (pd), .ref aNw, .ref aNs, .ref aBf, .int (rn), .int (rr)])), (aO1, .inl (cI, 24, .inl (O1))), (aT2, .inl (cI, 24, .inl (T2))), (aFa, .inl (cI, 768, .inl (Fa)))] sz) t) (va_A [(m0, .inr (5, [.int (ft), .int (vl), .ref aMd, .ref aO1, .ref aT2, .int (rs), .ref aSh, .ref aMk, .ref aFa, .ref aDe, .ref aNe, .ref aBy, .ref aPi, .int (pd), .ref aNw, .ref aNs, .ref aBf, .int (rn), .int (rr)])), (aO1, .inl (cI, 24, .inl (O1))), (aT2, .inl (cI, 24, .inl (T2))), (aFa, .inl (cI, 768, .inl (Fa)))] sz)) 0 0 (va_A [(m0, .inr (5, [.int (ft), .int (vl), .ref aMd, .ref aO1, .ref aT2, .int (rs), .ref aSh, .ref aMk, .ref aFa, .ref aDe, .ref aNe, .ref aBy, .ref aPi, .int (pd), .ref aNw, .ref aNs, .ref aBf, .int (rn), .int (rr)])), (aO1, .inl (cI, 24, .inl (O1))), (aT2, .inl (cI, 24, .inl (T2))), (aFa, .inl (cI, 768, .inl (Fa)))] sz) := by
  refine Met.ofW (cc := cM_multiply) (maxL := 9) (ret := none) (by decide) rfl ?_
  intro p e s m args below meth c s₁ B hml hv0
  have hx := B.exec
  have hb := B.bytes
  have hr := B.returns
  have hts := atoms_spec (ws := wsM_multiply) B.pre
  have hown : s.vm.findClass RM = some m.cls := findClass_of_methodNamed B.named
  have hlocks := B.notSynchronized
  obtain ⟨rfl, hsz, hG⟩ := dw_enter hv0
  generalize va_A [(m0, .inr (5, [.int (ft), .int (vl), .ref aMd, .ref aO1, .ref aT2, .int (rs), .ref aSh, .ref aMk, .ref aFa, .ref aDe, .ref aNe, .ref aBy, .ref aPi, .int (pd), .ref aNw, .ref aNs, .ref aBf, .int (rn), .int (rr)])), (aO1, .inl (cI, 24, .inl (O1))), (aT2, .inl (cI, 24, .inl (T2))), (aFa, .inl (cI, 768, .inl (Fa)))] sz = A at hG ⊢
  have hl := lv_entry ([.ref m0, .int (nI (v))]) (n := 9) (Nat.le_of_ble_eq_true rfl)
  rw [lg_entry_eq]
  generalize (lg_sl ([.ref m0, .int (nI (v))]) ++ List.replicate (9 - (lg_sl ([.ref m0, .int (nI (v))])).length) Slot.unset).toArray = ls at hl ⊢
  have hl : lv_has ls 9 [(0, .ref m0), (1, .int (nI (v)))] := hl
  have hw502 := hts _ (List.mem_cons_of_mem _ tw_502)
  have hw497 := hts _ (List.mem_cons_of_mem _ tw_497)
  have hw498 := hts _ (List.mem_cons_of_mem _ tw_498)
  refine dw_Q (fun Q hQ => ?_)
  suffices hgo : ∀ (H : Heap) (locs : List Loc), dw_G (dC, dI) vwCl [(cI, .int), (cZ, .boolean)] A s.heap s [(m0, .inr (5, [.int (ft), .int (vl), .ref aMd, .ref aO1, .ref aT2, .int (rs), .ref aSh, .ref aMk, .ref aFa, .ref aDe, .ref aNe, .ref aBy, .ref aPi, .int (pd), .ref aNw, .ref aNs, .ref aBf, .int (rn), .int (rr)])), (aO1, .inl (cI, 24, .inl (O1))), (aT2, .inl (cI, 24, .inl (T2))), (aFa, .inl (cI, 768, .inl (Fa)))] H locs → W p l e (headSpec wsM_multiply { frames := 1, cells := 0, slots := 0, locals := 24 }).room s m [.ref m0, .int (nI (v))].toArray below meth c H locs 0 0 Q (F0 m 0 ls []) from hgo _ _ hG
  clear hG
  intro H locs hG
  have J201 : ∀ (zz : Nat) (kn : Nat) (pr : Int32) (zs : Nat) (mo : Nat) (ls : Array Slot) (H : Heap) (locs : List Loc), 0 < zz → db_kn zx ox zy oy kn → kn = db_tz (((zx ||| ox) &&& (zy ||| oy)) ^^^ (-1)) → (∀ i, i < kn → i < 32 → bt pr i = bt (ox * oy) i) → db_zs zx zs → zs = db_tz (zx ^^^ (-1)) → db_zs zy mo → mo = db_tz (zy ^^^ (-1)) → lv_has ls 9 [(0, .ref m0), (1, .int (nI (v))), (2, .int (nI (32 * (x)))), (3, .int (nI (32 * (y)))), (4, .int (nI (kn))), (5, .int (pr)), (6, .int (nI (zs))), (7, .int (nI (mo)))] → dw_G (dC, dI) vwCl [(cI, .int), (cZ, .boolean)] A s.heap s [(m0, .inr (5, [.int (ft), .int (vl), .ref aMd, .ref aO1, .ref aT2, .int (rs), .ref aSh, .ref aMk, .ref aFa, .ref aDe, .ref aNe, .ref aBy, .ref aPi, .int (pd), .ref aNw, .ref aNs, .ref aBf, .int (rn), .int (rr)])), (aO1, .inl (cI, 24, .inl (O1))), (aT2, .inl (cI, 24, .inl (T2))), (aFa, .inl (cI, 768, .inl (Fa)))] H locs → W p l e (headSpec wsM_multiply { frames := 1, cells := 0, slots := 0, locals := 24 }).room s m [.ref m0, .int (nI (v))].toArray below meth c H locs 0 0 Q (F0 m 201 ls []) := by
    intro zz
    induction zz with
    | zero => intro kn pr zs mo ls H locs hz; exact absurd hz (Nat.not_lt_zero _)
    | succ zz J201_ih =>
      intro kn pr zs mo ls H locs hz hkn etz hpr hzs ezs hmo emo hl hG
      refine lv_iconst (v := 0) hx hb dM_multiply_201 (by decide) ?_
      refine lv_istore (lv' := [(8, .int (0)), (0, .ref m0), (1, .int (nI (v))), (2, .int (nI (32 * (x)))), (3, .int (nI (32 * (y)))), (4, .int (nI (kn))), (5, .int (pr)), (6, .int (nI (zs))), (7, .int (nI (mo)))]) hx hb dM_multiply_202 hl (by decide) rfl (fun ls hl => ?_)
      have L204 : ∀ (zz : Nat) (k : Nat) (G : Nat → Int32) (ls : Array Slot) (H : Heap) (locs : List Loc), 32 - k < zz → k ≤ 32 → db_out Fa G v → db_part G v k (db_mulZ zx ox zy oy) (db_mulO zx ox zy oy) → lv_has ls 9 [(0, .ref m0), (1, .int (nI (v))), (2, .int (nI (32 * (x)))), (3, .int (nI (32 * (y)))), (4, .int (nI (kn))), (5, .int (pr)), (6, .int (nI (zs))), (7, .int (nI (mo))), (8, .int (nI (k)))] → dw_G (dC, dI) vwCl [(cI, .int), (cZ, .boolean)] A s.heap s [(m0, .inr (5, [.int (ft), .int (vl), .ref aMd, .ref aO1, .ref aT2, .int (rs), .ref aSh, .ref aMk, .ref aFa, .ref aDe, .ref aNe, .ref aBy, .ref aPi, .int (pd), .ref aNw, .ref aNs, .ref aBf, .int (rn), .int (rr)])), (aO1, .inl (cI, 24, .inl (O1))), (aT2, .inl (cI, 24, .inl (T2))), (aFa, .inl (cI, 768, .inl (G)))] H locs → W p l e (headSpec wsM_multiply { frames := 1, cells := 0, slots := 0, locals := 24 }).room s m [.ref m0, .int (nI (v))].toArray below meth c H locs 0 0 Q (F0 m 204 ls []) := by
        intro zz
        induction zz with
        | zero => intro k G ls H locs hz; exact absurd hz (Nat.not_lt_zero _)
        | succ zz L204_ih =>
          intro k G ls H locs hz hk ho hp9 hl hG
          have hz32 : zs ≤ 32 := hzs.1
          have hm32 : mo ≤ 32 := hmo.1
          have hk32 : kn ≤ 32 := hkn.1
          refine lv_iload hx hb dM_multiply_204 (lv_at hl 8 rfl) ?_
          refine lv_bipush (v := 32) hx hb dM_multiply_206 (by decide) ?_
          refine lv_icmp_ge (tgt := 261) hx hb dM_multiply_208 (by decide) (fun h208 => ?_) (fun h208 => ?_)
          · skip
            replace h208 := (nI_leI (a := 32) (b := k) (by omega) (by omega)).mp h208
            subst hQ
            exact dw_vret hx hb hr hG (G) rfl ⟨ho, by rw [show k = 32 by omega] at hp9; exact hp9⟩ dM_multiply_261 hlocks
          replace h208 : ¬ 32 ≤ k := fun q => h208 ((nI_leI (a := 32) (b := k) (by omega) (by omega)).mpr q)
          refine lv_aload_n hx hb dM_multiply_211 rfl (lv_at hl 0 rfl) ?_
          refine dw_get hx hb hts inMc hown hG 0 8 rfl rfl (by decide) hw502 rfl rfl dM_multiply_212 ?_
          refine lv_bipush (v := 32) hx hb dM_multiply_215 (by decide) ?_
          refine lv_iload_n hx hb dM_multiply_217 rfl (lv_at hl 1 rfl) ?_
          refine lv_imul hx hb dM_multiply_218 ?_
          refine lv_topi (nm_r (pk_mul (32) (v)) ?_)
          refine lv_iload hx hb dM_multiply_219 (lv_at hl 8 rfl) ?_
          refine lv_iadd hx hb dM_multiply_221 ?_
          refine lv_topi (nm_r (nI_add (32 * (v)) (k)) ?_)
          refine lv_iload hx hb dM_multiply_222 (lv_at hl 8 rfl) ?_
          refine lv_iload hx hb dM_multiply_224 (lv_at hl 4 rfl) ?_
          refine lv_icmp_ge (tgt := 239) hx hb dM_multiply_226 (by decide) (fun h226 => ?_) (fun h226 => ?_)
          · skip
            replace h226 := (nI_leI (a := kn) (b := k) (by omega) (by omega)).mp h226
            refine lv_iload hx hb dM_multiply_239 (lv_at hl 8 rfl) ?_
            refine lv_iload hx hb dM_multiply_241 (lv_at hl 6 rfl) ?_
            refine lv_iload hx hb dM_multiply_243 (lv_at hl 7 rfl) ?_
            refine lv_iadd hx hb dM_multiply_245 ?_
            refine lv_topi (nm_r (nI_add (zs) (mo)) ?_)
            refine lv_icmp_ge (tgt := 253) hx hb dM_multiply_246 (by decide) (fun h246 => ?_) (fun h246 => ?_)
            · skip
              replace h246 := (nI_leI (a := zs + mo) (b := k) (by omega) (by omega)).mp h246
              refine lv_iconst (v := 2) hx hb dM_multiply_253 (by decide) ?_
              refine dw_is (ws' := [(m0, .inr (5, [.int (ft), .int (vl), .ref aMd, .ref aO1, .ref aT2, .int (rs), .ref aSh, .ref aMk, .ref aFa, .ref aDe, .ref aNe, .ref aBy, .ref aPi, .int (pd), .ref aNw, .ref aNs, .ref aBf, .int (rn), .int (rr)])), (aO1, .inl (cI, 24, .inl (O1))), (aT2, .inl (cI, 24, .inl (T2))), (aFa, .inl (cI, 768, .inl (upd (G) (32 * (v) + k) (2))))]) hx hb hG 3 0 rfl rfl (32 * (v) + k) rfl (by omega) (by decide) dM_multiply_254 rfl (fun H locs hG => ?_)
              refine lv_iinc (v := nI (k + 1)) (lv' := [(8, .int (nI (k + 1))), (0, .ref m0), (1, .int (nI (v))), (2, .int (nI (32 * (x)))), (3, .int (nI (32 * (y)))), (4, .int (nI (kn))), (5, .int (pr)), (6, .int (nI (zs))), (7, .int (nI (mo)))]) hx hb dM_multiply_255 hl (k := 8) rfl (dw_inc (k)) (by decide) rfl (fun ls hl => ?_)
              refine lv_goto (tgt := 204) hx hb dM_multiply_258 (by decide) ?_
              exact L204_ih (k + 1) (upd (G) (32 * (v) + k) (2)) ls H locs (by omega) (by omega) (db_out_upd _ ho (by omega)) (db_part_s hp9 (by rw [← db_mul_bit hax hay (by omega), ← etz, ← ezs, ← emo]; exact ((if_neg (by omega)).trans (if_neg (by omega))).symm)) (lv_sub hl [1, 2, 3, 4, 5, 6, 7, 8, 0] rfl) hG
            replace h246 : ¬ zs + mo ≤ k := fun q => h246 ((nI_leI (a := zs + mo) (b := k) (by omega) (by omega)).mpr q)
            refine lv_iconst (v := 0) hx hb dM_multiply_249 (by decide) ?_
            refine lv_goto (tgt := 254) hx hb dM_multiply_250 (by decide) ?_
            refine dw_is (ws' := [(m0, .inr (5, [.int (ft), .int (vl), .ref aMd, .ref aO1, .ref aT2, .int (rs), .ref aSh, .ref aMk, .ref aFa, .ref aDe, .ref aNe, .ref aBy, .ref aPi, .int (pd), .ref aNw, .ref aNs, .ref aBf, .int (rn), .int (rr)])), (aO1, .inl (cI, 24, .inl (O1))), (aT2, .inl (cI, 24, .inl (T2))), (aFa, .inl (cI, 768, .inl (upd (G) (32 * (v) + k) (0))))]) hx hb hG 3 0 rfl rfl (32 * (v) + k) rfl (by omega) (by decide) dM_multiply_254 rfl (fun H locs hG => ?_)
            refine lv_iinc (v := nI (k + 1)) (lv' := [(8, .int (nI (k + 1))), (0, .ref m0), (1, .int (nI (v))), (2, .int (nI (32 * (x)))), (3, .int (nI (32 * (y)))), (4, .int (nI (kn))), (5, .int (pr)), (6, .int (nI (zs))), (7, .int (nI (mo)))]) hx hb dM_multiply_255 hl (k := 8) rfl (dw_inc (k)) (by decide) rfl (fun ls hl => ?_)
            refine lv_goto (tgt := 204) hx hb dM_multiply_258 (by decide) ?_
            exact L204_ih (k + 1) (upd (G) (32 * (v) + k) (0)) ls H locs (by omega) (by omega) (db_out_upd _ ho (by omega)) (db_part_s hp9 (by rw [← db_mul_bit hax hay (by omega), ← etz, ← ezs, ← emo]; exact ((if_neg (by omega)).trans (if_pos (by omega))).symm)) (lv_sub hl [1, 2, 3, 4, 5, 6, 7, 8, 0] rfl) hG
          replace h226 : ¬ kn ≤ k := fun q => h226 ((nI_leI (a := kn) (b := k) (by omega) (by omega)).mpr q)
          refine lv_iload hx hb dM_multiply_229 (lv_at hl 5 rfl) ?_
          refine lv_iload hx hb dM_multiply_231 (lv_at hl 8 rfl) ?_
          refine dw_calli (wc := []) (wr := [(m0, .inr (5, [.int (ft), .int (vl), .ref aMd, .ref aO1, .ref aT2, .int (rs), .ref aSh, .ref aMk, .ref aFa, .ref aDe, .ref aNe, .ref aBy, .ref aPi, .int (pd), .ref aNw, .ref aNs, .ref aBf, .int (rn), .int (rr)])), (aO1, .inl (cI, 24, .inl (O1))), (aT2, .inl (cI, 24, .inl (T2))), (aFa, .inl (cI, 768, .inl (G)))]) hG [] [0, 1, 2, 3] rfl rfl (by decide) (by decide) (va_runS (As := [.int (pr), .int (nI (k))]) (rest := [.int (nI (32 * (v) + k)), .ref aFa]) ⟨hx, hb, hml, hown, hts⟩ (rf_bit l dC dI cI cZ (pr) (nI (k)) H.size ) (dc_S 2 hts tw_630 tw_631 tw_7 tw_632 rfl rfl (by decide +kernel) ⟨Nat.le_of_ble_eq_true rfl, Nat.le_of_ble_eq_true rfl⟩) (dw_preS hG [] [0, 1] rfl rfl (by decide) rfl) rfl rfl hl.1 rfl (lv_room (Nat.le_of_ble_eq_true rfl)) dM_multiply_233 ⟨Nat.le_refl _, Nat.le_refl _⟩) (fun r u H locs hp hG => ?_)
          subst hp
          have hG : dw_G (dC, dI) vwCl [(cI, .int), (cZ, .boolean)] A s.heap s [(m0, .inr (5, [.int (ft), .int (vl), .ref aMd, .ref aO1, .ref aT2, .int (rs), .ref aSh, .ref aMk, .ref aFa, .ref aDe, .ref aNe, .ref aBy, .ref aPi, .int (pd), .ref aNw, .ref aNs, .ref aBf, .int (rn), .int (rr)])), (aO1, .inl (cI, 24, .inl (O1))), (aT2, .inl (cI, 24, .inl (T2))), (aFa, .inl (cI, 768, .inl (G)))] H locs := hG
          refine lv_goto (tgt := 254) hx hb dM_multiply_236 (by decide) ?_
          refine dw_is (ws' := [(m0, .inr (5, [.int (ft), .int (vl), .ref aMd, .ref aO1, .ref aT2, .int (rs), .ref aSh, .ref aMk, .ref aFa, .ref aDe, .ref aNe, .ref aBy, .ref aPi, .int (pd), .ref aNw, .ref aNs, .ref aBf, .int (rn), .int (rr)])), (aO1, .inl (cI, 24, .inl (O1))), (aT2, .inl (cI, 24, .inl (T2))), (aFa, .inl (cI, 768, .inl (upd (G) (32 * (v) + k) (((pr) >>> ((nI (k)) &&& 31)) &&& 1))))]) hx hb hG 3 0 rfl rfl (32 * (v) + k) rfl (by omega) (by decide) dM_multiply_254 rfl (fun H locs hG => ?_)
          refine lv_iinc (v := nI (k + 1)) (lv' := [(8, .int (nI (k + 1))), (0, .ref m0), (1, .int (nI (v))), (2, .int (nI (32 * (x)))), (3, .int (nI (32 * (y)))), (4, .int (nI (kn))), (5, .int (pr)), (6, .int (nI (zs))), (7, .int (nI (mo)))]) hx hb dM_multiply_255 hl (k := 8) rfl (dw_inc (k)) (by decide) rfl (fun ls hl => ?_)
          refine lv_goto (tgt := 204) hx hb dM_multiply_258 (by decide) ?_
          exact L204_ih (k + 1) (upd (G) (32 * (v) + k) (((pr) >>> ((nI (k)) &&& 31)) &&& 1)) ls H locs (by omega) (by omega) (db_out_upd _ ho (by omega)) (db_part_s hp9 (by rw [db_bit_ones _ (by omega), hpr k (by omega) (by omega), ← db_mul_bit hax hay (by omega), ← etz]; exact (if_pos (by omega)).symm)) (lv_sub hl [1, 2, 3, 4, 5, 6, 7, 8, 0] rfl) hG
      exact L204 _ (0) (Fa) ls H locs (Nat.lt_succ_self _) (by omega) (db_out_rfl _ _) (db_part0 _ _ _ _) (lv_sub hl [1, 2, 3, 4, 5, 6, 7, 8, 0] rfl) hG
  have L176 : ∀ (zz : Nat) (kn : Nat) (pr : Int32) (zs : Nat) (mo : Nat) (ls : Array Slot) (H : Heap) (locs : List Loc), 32 - mo < zz → db_kn zx ox zy oy kn → kn = db_tz (((zx ||| ox) &&& (zy ||| oy)) ^^^ (-1)) → (∀ i, i < kn → i < 32 → bt pr i = bt (ox * oy) i) → db_zs zx zs → zs = db_tz (zx ^^^ (-1)) → db_zs zy mo → lv_has ls 9 [(0, .ref m0), (1, .int (nI (v))), (2, .int (nI (32 * (x)))), (3, .int (nI (32 * (y)))), (4, .int (nI (kn))), (5, .int (pr)), (6, .int (nI (zs))), (7, .int (nI (mo)))] → dw_G (dC, dI) vwCl [(cI, .int), (cZ, .boolean)] A s.heap s [(m0, .inr (5, [.int (ft), .int (vl), .ref aMd, .ref aO1, .ref aT2, .int (rs), .ref aSh, .ref aMk, .ref aFa, .ref aDe, .ref aNe, .ref aBy, .ref aPi, .int (pd), .ref aNw, .ref aNs, .ref aBf, .int (rn), .int (rr)])), (aO1, .inl (cI, 24, .inl (O1))), (aT2, .inl (cI, 24, .inl (T2))), (aFa, .inl (cI, 768, .inl (Fa)))] H locs → W p l e (headSpec wsM_multiply { frames := 1, cells := 0, slots := 0, locals := 24 }).room s m [.ref m0, .int (nI (v))].toArray below meth c H locs 0 0 Q (F0 m 176 ls []) := by
    intro zz
    induction zz with
    | zero => intro kn pr zs mo ls H locs hz; exact absurd hz (Nat.not_lt_zero _)
    | succ zz L176_ih =>
      intro kn pr zs mo ls H locs hz hkn etz hpr hzs ezs hmo hl hG
      have hz32 : zs ≤ 32 := hzs.1
      have hm32 : mo ≤ 32 := hmo.1
      have hk32 : kn ≤ 32 := hkn.1
      refine lv_iload hx hb dM_multiply_176 (lv_at hl 7 rfl) ?_
      refine lv_bipush (v := 32) hx hb dM_multiply_178 (by decide) ?_
      refine lv_icmp_ge (tgt := 201) hx hb dM_multiply_180 (by decide) (fun h180 => ?_) (fun h180 => ?_)
      · skip
        replace h180 := (nI_leI (a := 32) (b := mo) (by omega) (by omega)).mp h180
        exact J201 _ (kn) (pr) (zs) (mo) ls H locs (Nat.lt_succ_self _) hkn etz hpr hzs ezs hmo (db_zs_tz hmo (fun q => by omega)) hl hG
      replace h180 : ¬ 32 ≤ mo := fun q => h180 ((nI_leI (a := 32) (b := mo) (by omega) (by omega)).mpr q)
      refine lv_aload_n hx hb dM_multiply_183 rfl (lv_at hl 0 rfl) ?_
      refine dw_get hx hb hts inMc hown hG 0 8 rfl rfl (by decide) hw502 rfl rfl dM_multiply_184 ?_
      refine lv_iload_n hx hb dM_multiply_187 rfl (lv_at hl 3 rfl) ?_
      refine lv_iload hx hb dM_multiply_188 (lv_at hl 7 rfl) ?_
      refine lv_iadd hx hb dM_multiply_190 ?_
      refine lv_topi (nm_r (nI_add (32 * (y)) (mo)) ?_)
      refine dw_ia (x := db_tri (bt zy mo) (bt oy mo)) hx hb hG 3 0 rfl rfl (32 * (y) + mo) rfl (by omega) (by decide) (hfy mo (by omega)) dM_multiply_191 ?_
      refine lv_if_ne (tgt := 201) hx hb dM_multiply_192 (by decide) (fun h192 => ?_) (fun h192 => ?_)
      · skip
        exact J201 _ (kn) (pr) (zs) (mo) ls H locs (Nat.lt_succ_self _) hkn etz hpr hzs ezs hmo (db_zs_tz hmo (fun _ => db_tri_n0 h192)) hl hG
      refine lv_iinc (v := nI (mo + 1)) (lv' := [(7, .int (nI (mo + 1))), (0, .ref m0), (1, .int (nI (v))), (2, .int (nI (32 * (x)))), (3, .int (nI (32 * (y)))), (4, .int (nI (kn))), (5, .int (pr)), (6, .int (nI (zs)))]) hx hb dM_multiply_195 hl (k := 7) rfl (dw_inc (mo)) (by decide) rfl (fun ls hl => ?_)
      refine lv_goto (tgt := 176) hx hb dM_multiply_198 (by decide) ?_
      exact L176_ih (kn) (pr) (zs) (mo + 1) ls H locs (by omega) hkn etz hpr hzs ezs (db_zs_s hmo (by omega) h192) (lv_sub hl [1, 2, 3, 4, 5, 6, 7, 0] rfl) hG
  have J65 : ∀ (zz : Nat) (kn : Nat) (ls : Array Slot) (H : Heap) (locs : List Loc), 0 < zz → db_kn zx ox zy oy kn → kn = db_tz (((zx ||| ox) &&& (zy ||| oy)) ^^^ (-1)) → lv_has ls 9 [(0, .ref m0), (1, .int (nI (v))), (2, .int (nI (32 * (x)))), (3, .int (nI (32 * (y)))), (4, .int (nI (kn))), (5, .int (0))] → dw_G (dC, dI) vwCl [(cI, .int), (cZ, .boolean)] A s.heap s [(m0, .inr (5, [.int (ft), .int (vl), .ref aMd, .ref aO1, .ref aT2, .int (rs), .ref aSh, .ref aMk, .ref aFa, .ref aDe, .ref aNe, .ref aBy, .ref aPi, .int (pd), .ref aNw, .ref aNs, .ref aBf, .int (rn), .int (rr)])), (aO1, .inl (cI, 24, .inl (O1))), (aT2, .inl (cI, 24, .inl (T2))), (aFa, .inl (cI, 768, .inl (Fa)))] H locs → W p l e (headSpec wsM_multiply { frames := 1, cells := 0, slots := 0, locals := 24 }).room s m [.ref m0, .int (nI (v))].toArray below meth c H locs 0 0 Q (F0 m 65 ls []) := by
    intro zz
    induction zz with
    | zero => intro kn ls H locs hz; exact absurd hz (Nat.not_lt_zero _)
    | succ zz J65_ih =>
      intro kn ls H locs hz hkn etz hl hG
      refine lv_iconst (v := 0) hx hb dM_multiply_65 (by decide) ?_
      refine lv_istore (lv' := [(6, .int (0)), (0, .ref m0), (1, .int (nI (v))), (2, .int (nI (32 * (x)))), (3, .int (nI (32 * (y)))), (4, .int (nI (kn))), (5, .int (0))]) hx hb dM_multiply_66 hl (by decide) rfl (fun ls hl => ?_)
      have L68 : ∀ (zz : Nat) (k : Nat) (ls : Array Slot) (H : Heap) (locs : List Loc), kn - k < zz → k ≤ kn → lv_has ls 9 [(0, .ref m0), (1, .int (nI (v))), (2, .int (nI (32 * (x)))), (3, .int (nI (32 * (y)))), (4, .int (nI (kn))), (5, .int (nI (db_n ox % 2 ^ (k) * (db_n oy % 2 ^ kn)))), (6, .int (nI (k)))] → dw_G (dC, dI) vwCl [(cI, .int), (cZ, .boolean)] A s.heap s [(m0, .inr (5, [.int (ft), .int (vl), .ref aMd, .ref aO1, .ref aT2, .int (rs), .ref aSh, .ref aMk, .ref aFa, .ref aDe, .ref aNe, .ref aBy, .ref aPi, .int (pd), .ref aNw, .ref aNs, .ref aBf, .int (rn), .int (rr)])), (aO1, .inl (cI, 24, .inl (O1))), (aT2, .inl (cI, 24, .inl (T2))), (aFa, .inl (cI, 768, .inl (Fa)))] H locs → W p l e (headSpec wsM_multiply { frames := 1, cells := 0, slots := 0, locals := 24 }).room s m [.ref m0, .int (nI (v))].toArray below meth c H locs 0 0 Q (F0 m 68 ls []) := by
        intro zz
        induction zz with
        | zero => intro k ls H locs hz; exact absurd hz (Nat.not_lt_zero _)
        | succ zz L68_ih =>
          intro k ls H locs hz hk hl hG
          have hk32 : kn ≤ 32 := hkn.1
          refine lv_iload hx hb dM_multiply_68 (lv_at hl 6 rfl) ?_
          refine lv_iload hx hb dM_multiply_70 (lv_at hl 4 rfl) ?_
          refine lv_icmp_ge (tgt := 145) hx hb dM_multiply_72 (by decide) (fun h72 => ?_) (fun h72 => ?_)
          · skip
            replace h72 := (nI_leI (a := kn) (b := k) (by omega) (by omega)).mp h72
            have ekn : k = kn := by omega
            have hpr : ∀ i, i < kn → i < 32 → bt (nI (db_n ox % 2 ^ (k) * (db_n oy % 2 ^ kn))) i = bt (ox * oy) i := fun i h8 h9 => by rw [ekn]; exact db_mul_low ox oy kn h8 h9
            generalize nI (db_n ox % 2 ^ (k) * (db_n oy % 2 ^ kn)) = pr at hl hpr
            refine lv_iconst (v := 0) hx hb dM_multiply_145 (by decide) ?_
            refine lv_istore (lv' := [(6, .int (0)), (0, .ref m0), (1, .int (nI (v))), (2, .int (nI (32 * (x)))), (3, .int (nI (32 * (y)))), (4, .int (nI (kn))), (5, .int (pr))]) hx hb dM_multiply_146 hl (by decide) rfl (fun ls hl => ?_)
            refine lv_iconst (v := 0) hx hb dM_multiply_148 (by decide) ?_
            refine lv_istore (lv' := [(7, .int (0)), (6, .int (0)), (0, .ref m0), (1, .int (nI (v))), (2, .int (nI (32 * (x)))), (3, .int (nI (32 * (y)))), (4, .int (nI (kn))), (5, .int (pr))]) hx hb dM_multiply_149 hl (by decide) rfl (fun ls hl => ?_)
            have L151 : ∀ (zz : Nat) (zs : Nat) (ls : Array Slot) (H : Heap) (locs : List Loc), 32 - zs < zz → db_zs zx zs → lv_has ls 9 [(0, .ref m0), (1, .int (nI (v))), (2, .int (nI (32 * (x)))), (3, .int (nI (32 * (y)))), (4, .int (nI (kn))), (5, .int (pr)), (6, .int (nI (zs))), (7, .int (0))] → dw_G (dC, dI) vwCl [(cI, .int), (cZ, .boolean)] A s.heap s [(m0, .inr (5, [.int (ft), .int (vl), .ref aMd, .ref aO1, .ref aT2, .int (rs), .ref aSh, .ref aMk, .ref aFa, .ref aDe, .ref aNe, .ref aBy, .ref aPi, .int (pd), .ref aNw, .ref aNs, .ref aBf, .int (rn), .int (rr)])), (aO1, .inl (cI, 24, .inl (O1))), (aT2, .inl (cI, 24, .inl (T2))), (aFa, .inl (cI, 768, .inl (Fa)))] H locs → W p l e (headSpec wsM_multiply { frames := 1, cells := 0, slots := 0, locals := 24 }).room s m [.ref m0, .int (nI (v))].toArray below meth c H locs 0 0 Q (F0 m 151 ls []) := by
              intro zz
              induction zz with
              | zero => intro zs ls H locs hz; exact absurd hz (Nat.not_lt_zero _)
              | succ zz L151_ih =>
                intro zs ls H locs hz hzs hl hG
                have hz32 : zs ≤ 32 := hzs.1
                have hk32 : kn ≤ 32 := hkn.1
                refine lv_iload hx hb dM_multiply_151 (lv_at hl 6 rfl) ?_
                refine lv_bipush (v := 32) hx hb dM_multiply_153 (by decide) ?_
                refine lv_icmp_ge (tgt := 176) hx hb dM_multiply_155 (by decide) (fun h155 => ?_) (fun h155 => ?_)
                · skip
                  replace h155 := (nI_leI (a := 32) (b := zs) (by omega) (by omega)).mp h155
                  exact L176 _ (kn) (pr) (zs) (0) ls H locs (Nat.lt_succ_self _) hkn etz hpr hzs (db_zs_tz hzs (fun q => by omega)) (db_zs0 _) hl hG
                replace h155 : ¬ 32 ≤ zs := fun q => h155 ((nI_leI (a := 32) (b := zs) (by omega) (by omega)).mpr q)
                refine lv_aload_n hx hb dM_multiply_158 rfl (lv_at hl 0 rfl) ?_
                refine dw_get hx hb hts inMc hown hG 0 8 rfl rfl (by decide) hw502 rfl rfl dM_multiply_159 ?_
                refine lv_iload_n hx hb dM_multiply_162 rfl (lv_at hl 2 rfl) ?_
                refine lv_iload hx hb dM_multiply_163 (lv_at hl 6 rfl) ?_
                refine lv_iadd hx hb dM_multiply_165 ?_
                refine lv_topi (nm_r (nI_add (32 * (x)) (zs)) ?_)
                refine dw_ia (x := db_tri (bt zx zs) (bt ox zs)) hx hb hG 3 0 rfl rfl (32 * (x) + zs) rfl (by omega) (by decide) (hfx zs (by omega)) dM_multiply_166 ?_
                refine lv_if_ne (tgt := 176) hx hb dM_multiply_167 (by decide) (fun h167 => ?_) (fun h167 => ?_)
                · skip
                  exact L176 _ (kn) (pr) (zs) (0) ls H locs (Nat.lt_succ_self _) hkn etz hpr hzs (db_zs_tz hzs (fun _ => db_tri_n0 h167)) (db_zs0 _) hl hG
                refine lv_iinc (v := nI (zs + 1)) (lv' := [(6, .int (nI (zs + 1))), (0, .ref m0), (1, .int (nI (v))), (2, .int (nI (32 * (x)))), (3, .int (nI (32 * (y)))), (4, .int (nI (kn))), (5, .int (pr)), (7, .int (0))]) hx hb dM_multiply_170 hl (k := 6) rfl (dw_inc (zs)) (by decide) rfl (fun ls hl => ?_)
                refine lv_goto (tgt := 151) hx hb dM_multiply_173 (by decide) ?_
                exact L151_ih (zs + 1) ls H locs (by omega) (db_zs_s hzs (by omega) h167) (lv_sub hl [1, 2, 3, 4, 5, 6, 0, 7] rfl) hG
            exact L151 _ (0) ls H locs (Nat.lt_succ_self _) (db_zs0 _) (lv_sub hl [2, 3, 4, 5, 6, 7, 1, 0] rfl) hG
          replace h72 : ¬ kn ≤ k := fun q => h72 ((nI_leI (a := kn) (b := k) (by omega) (by omega)).mpr q)
          refine lv_iconst (v := 0) hx hb dM_multiply_75 (by decide) ?_
          refine lv_istore (lv' := [(7, .int (0)), (0, .ref m0), (1, .int (nI (v))), (2, .int (nI (32 * (x)))), (3, .int (nI (32 * (y)))), (4, .int (nI (kn))), (5, .int (nI (db_n ox % 2 ^ (k) * (db_n oy % 2 ^ kn)))), (6, .int (nI (k)))]) hx hb dM_multiply_76 hl (by decide) rfl (fun ls hl => ?_)
          have L78 : ∀ (zz : Nat) (j : Nat) (ls : Array Slot) (H : Heap) (locs : List Loc), kn - j < zz → j ≤ kn → j = 0 ∨ bt ox k = true → lv_has ls 9 [(0, .ref m0), (1, .int (nI (v))), (2, .int (nI (32 * (x)))), (3, .int (nI (32 * (y)))), (4, .int (nI (kn))), (5, .int (nI (db_n ox % 2 ^ k * (db_n oy % 2 ^ kn) + 2 ^ k * (db_n oy % 2 ^ j)))), (6, .int (nI (k))), (7, .int (nI (j)))] → dw_G (dC, dI) vwCl [(cI, .int), (cZ, .boolean)] A s.heap s [(m0, .inr (5, [.int (ft), .int (vl), .ref aMd, .ref aO1, .ref aT2, .int (rs), .ref aSh, .ref aMk, .ref aFa, .ref aDe, .ref aNe, .ref aBy, .ref aPi, .int (pd), .ref aNw, .ref aNs, .ref aBf, .int (rn), .int (rr)])), (aO1, .inl (cI, 24, .inl (O1))), (aT2, .inl (cI, 24, .inl (T2))), (aFa, .inl (cI, 768, .inl (Fa)))] H locs → W p l e (headSpec wsM_multiply { frames := 1, cells := 0, slots := 0, locals := 24 }).room s m [.ref m0, .int (nI (v))].toArray below meth c H locs 0 0 Q (F0 m 78 ls []) := by
            intro zz
            induction zz with
            | zero => intro j ls H locs hz; exact absurd hz (Nat.not_lt_zero _)
            | succ zz L78_ih =>
              intro j ls H locs hz hj hb1 hl hG
              refine lv_iload hx hb dM_multiply_78 (lv_at hl 7 rfl) ?_
              refine lv_iload hx hb dM_multiply_80 (lv_at hl 4 rfl) ?_
              refine lv_icmp_ge (tgt := 139) hx hb dM_multiply_82 (by decide) (fun h82 => ?_) (fun h82 => ?_)
              · skip
                replace h82 := (nI_leI (a := kn) (b := j) (by omega) (by omega)).mp h82
                have e5 : nI (db_n ox % 2 ^ k * (db_n oy % 2 ^ kn) + 2 ^ k * (db_n oy % 2 ^ j)) = nI (db_n ox % 2 ^ (k + 1) * (db_n oy % 2 ^ kn)) := by
                  have ejk : j = kn := by omega
                  rw [ejk]
                  rcases hb1 with q | q
                  · have z : kn = 0 := by omega
                    rw [z, Nat.pow_zero, Nat.mod_one, Nat.mul_zero, Nat.mul_zero, Nat.mul_zero]
                  · exact db_row1 ox oy kn k q
                rw [e5] at hl
                refine lv_iinc (v := nI (k + 1)) (lv' := [(6, .int (nI (k + 1))), (0, .ref m0), (1, .int (nI (v))), (2, .int (nI (32 * (x)))), (3, .int (nI (32 * (y)))), (4, .int (nI (kn))), (5, .int (nI (db_n ox % 2 ^ (k + 1) * (db_n oy % 2 ^ kn)))), (7, .int (nI (j)))]) hx hb dM_multiply_139 hl (k := 6) rfl (dw_inc (k)) (by decide) rfl (fun ls hl => ?_)
                refine lv_goto (tgt := 68) hx hb dM_multiply_142 (by decide) ?_
                exact L68_ih (k + 1) ls H locs (by omega) (by omega) (lv_sub hl [1, 2, 3, 4, 5, 6, 0] rfl) hG
              replace h82 : ¬ kn ≤ j := fun q => h82 ((nI_leI (a := kn) (b := j) (by omega) (by omega)).mpr q)
              refine lv_aload_n hx hb dM_multiply_85 rfl (lv_at hl 0 rfl) ?_
              refine dw_get hx hb hts inMc hown hG 0 8 rfl rfl (by decide) hw502 rfl rfl dM_multiply_86 ?_
              refine lv_iload_n hx hb dM_multiply_89 rfl (lv_at hl 2 rfl) ?_
              refine lv_iload hx hb dM_multiply_90 (lv_at hl 6 rfl) ?_
              refine lv_iadd hx hb dM_multiply_92 ?_
              refine lv_topi (nm_r (nI_add (32 * (x)) (k)) ?_)
              refine dw_ia (x := db_tri (bt zx k) (bt ox k)) hx hb hG 3 0 rfl rfl (32 * (x) + k) rfl (by omega) (by decide) (hfx k (by omega)) dM_multiply_93 ?_
              refine lv_iconst (v := 1) hx hb dM_multiply_94 (by decide) ?_
              refine lv_icmp_ne (tgt := 139) hx hb dM_multiply_95 (by decide) (fun h95 => ?_) (fun h95 => ?_)
              · skip
                have e5 : nI (db_n ox % 2 ^ k * (db_n oy % 2 ^ kn) + 2 ^ k * (db_n oy % 2 ^ j)) = nI (db_n ox % 2 ^ (k + 1) * (db_n oy % 2 ^ kn)) := by
                  have hb0 : bt ox k = false := db_tri_n1 (hax k (by omega)) h95
                  rcases hb1 with q | q
                  · rw [q, Nat.pow_zero, Nat.mod_one, Nat.mul_zero, Nat.add_zero]
                    exact db_row0 ox oy kn k hb0
                  · rw [hb0] at q; cases q
                rw [e5] at hl
                refine lv_iinc (v := nI (k + 1)) (lv' := [(6, .int (nI (k + 1))), (0, .ref m0), (1, .int (nI (v))), (2, .int (nI (32 * (x)))), (3, .int (nI (32 * (y)))), (4, .int (nI (kn))), (5, .int (nI (db_n ox % 2 ^ (k + 1) * (db_n oy % 2 ^ kn)))), (7, .int (nI (j)))]) hx hb dM_multiply_139 hl (k := 6) rfl (dw_inc (k)) (by decide) rfl (fun ls hl => ?_)
                refine lv_goto (tgt := 68) hx hb dM_multiply_142 (by decide) ?_
                exact L68_ih (k + 1) ls H locs (by omega) (by omega) (lv_sub hl [1, 2, 3, 4, 5, 6, 0] rfl) hG
              refine lv_iload hx hb dM_multiply_98 (lv_at hl 6 rfl) ?_
              refine lv_iload hx hb dM_multiply_100 (lv_at hl 7 rfl) ?_
              refine lv_iadd hx hb dM_multiply_102 ?_
              refine lv_topi (nm_r (nI_add (k) (j)) ?_)
              refine lv_bipush (v := 32) hx hb dM_multiply_103 (by decide) ?_
              refine lv_icmp_ge (tgt := 129) hx hb dM_multiply_105 (by decide) (fun h105 => ?_) (fun h105 => ?_)
              · skip
                replace h105 := (nI_leI (a := 32) (b := k + j) (by omega) (by omega)).mp h105
                refine lv_iload hx hb dM_multiply_129 (lv_at hl 5 rfl) ?_
                refine lv_topi (nm_r (db_prod_out oy (by omega)) ?_)
                refine lv_istore (lv' := [(5, .int (nI (db_n ox % 2 ^ k * (db_n oy % 2 ^ kn) + 2 ^ k * (db_n oy % 2 ^ (j + 1))))), (0, .ref m0), (1, .int (nI (v))), (2, .int (nI (32 * (x)))), (3, .int (nI (32 * (y)))), (4, .int (nI (kn))), (6, .int (nI (k))), (7, .int (nI (j)))]) hx hb dM_multiply_131 hl (by decide) rfl (fun ls hl => ?_)
                refine lv_iinc (v := nI (j + 1)) (lv' := [(7, .int (nI (j + 1))), (5, .int (nI (db_n ox % 2 ^ k * (db_n oy % 2 ^ kn) + 2 ^ k * (db_n oy % 2 ^ (j + 1))))), (0, .ref m0), (1, .int (nI (v))), (2, .int (nI (32 * (x)))), (3, .int (nI (32 * (y)))), (4, .int (nI (kn))), (6, .int (nI (k)))]) hx hb dM_multiply_133 hl (k := 7) rfl (dw_inc (j)) (by decide) rfl (fun ls hl => ?_)
                refine lv_goto (tgt := 78) hx hb dM_multiply_136 (by decide) ?_
                exact L78_ih (j + 1) ls H locs (by omega) (by omega) (Or.inr (db_tri_1 h95)) (lv_sub hl [2, 3, 4, 5, 6, 1, 7, 0] rfl) hG
              replace h105 : ¬ 32 ≤ k + j := fun q => h105 ((nI_leI (a := 32) (b := k + j) (by omega) (by omega)).mpr q)
              refine lv_iload hx hb dM_multiply_108 (lv_at hl 5 rfl) ?_
              refine lv_aload_n hx hb dM_multiply_110 rfl (lv_at hl 0 rfl) ?_
              refine dw_get hx hb hts inMc hown hG 0 8 rfl rfl (by decide) hw502 rfl rfl dM_multiply_111 ?_
              refine lv_iload_n hx hb dM_multiply_114 rfl (lv_at hl 3 rfl) ?_
              refine lv_iload hx hb dM_multiply_115 (lv_at hl 7 rfl) ?_
              refine lv_iadd hx hb dM_multiply_117 ?_
              refine lv_topi (nm_r (nI_add (32 * (y)) (j)) ?_)
              refine dw_ia (x := db_tri (bt zy j) (bt oy j)) hx hb hG 3 0 rfl rfl (32 * (y) + j) rfl (by omega) (by decide) (hfy j (by omega)) dM_multiply_118 ?_
              refine lv_topi (nm_r (db_kn_o hkn hay (by omega)) ?_)
              refine lv_iload hx hb dM_multiply_119 (lv_at hl 6 rfl) ?_
              refine lv_iload hx hb dM_multiply_121 (lv_at hl 7 rfl) ?_
              refine lv_iadd hx hb dM_multiply_123 ?_
              refine lv_topi (nm_r (nI_add (k) (j)) ?_)
              refine lv_ishl hx hb dM_multiply_124 ?_
              refine lv_iadd hx hb dM_multiply_125 ?_
              refine lv_topi (nm_r (db_prod_in oy (by omega)) ?_)
              refine lv_goto (tgt := 131) hx hb dM_multiply_126 (by decide) ?_
              refine lv_istore (lv' := [(5, .int (nI (db_n ox % 2 ^ k * (db_n oy % 2 ^ kn) + 2 ^ k * (db_n oy % 2 ^ (j + 1))))), (0, .ref m0), (1, .int (nI (v))), (2, .int (nI (32 * (x)))), (3, .int (nI (32 * (y)))), (4, .int (nI (kn))), (6, .int (nI (k))), (7, .int (nI (j)))]) hx hb dM_multiply_131 hl (by decide) rfl (fun ls hl => ?_)
              refine lv_iinc (v := nI (j + 1)) (lv' := [(7, .int (nI (j + 1))), (5, .int (nI (db_n ox % 2 ^ k * (db_n oy % 2 ^ kn) + 2 ^ k * (db_n oy % 2 ^ (j + 1))))), (0, .ref m0), (1, .int (nI (v))), (2, .int (nI (32 * (x)))), (3, .int (nI (32 * (y)))), (4, .int (nI (kn))), (6, .int (nI (k)))]) hx hb dM_multiply_133 hl (k := 7) rfl (dw_inc (j)) (by decide) rfl (fun ls hl => ?_)
              refine lv_goto (tgt := 78) hx hb dM_multiply_136 (by decide) ?_
              exact L78_ih (j + 1) ls H locs (by omega) (by omega) (Or.inr (db_tri_1 h95)) (lv_sub hl [2, 3, 4, 5, 6, 1, 7, 0] rfl) hG
          have e5 : nI (db_n ox % 2 ^ k * (db_n oy % 2 ^ kn) + 2 ^ k * (db_n oy % 2 ^ 0)) = nI (db_n ox % 2 ^ (k) * (db_n oy % 2 ^ kn)) := by rw [Nat.pow_zero, Nat.mod_one, Nat.mul_zero, Nat.add_zero]
          have hl : lv_has ls 9 [(7, .int (0)), (0, .ref m0), (1, .int (nI (v))), (2, .int (nI (32 * (x)))), (3, .int (nI (32 * (y)))), (4, .int (nI (kn))), (5, .int (nI (db_n ox % 2 ^ k * (db_n oy % 2 ^ kn) + 2 ^ k * (db_n oy % 2 ^ 0)))), (6, .int (nI (k)))] := by rw [e5]; exact hl
          exact L78 _ (0) ls H locs (Nat.lt_succ_self _) (Nat.zero_le _) (Or.inl rfl) (lv_sub hl [1, 2, 3, 4, 5, 6, 7, 0] rfl) hG
      have e5 : nI (db_n ox % 2 ^ (0) * (db_n oy % 2 ^ kn)) = 0 := by rw [Nat.pow_zero, Nat.mod_one, Nat.zero_mul]; rfl
      have hl : lv_has ls 9 [(6, .int (0)), (0, .ref m0), (1, .int (nI (v))), (2, .int (nI (32 * (x)))), (3, .int (nI (32 * (y)))), (4, .int (nI (kn))), (5, .int (nI (db_n ox % 2 ^ (0) * (db_n oy % 2 ^ kn))))] := by rw [e5]; exact hl
      exact L68 _ (0) ls H locs (Nat.lt_succ_self _) (Nat.zero_le _) (lv_sub hl [1, 2, 3, 4, 5, 6, 0] rfl) hG
  refine lv_bipush (v := 32) hx hb dM_multiply_0 (by decide) ?_
  refine lv_aload_n hx hb dM_multiply_2 rfl (lv_at hl 0 rfl) ?_
  refine dw_get hx hb hts inMc hown hG 0 3 rfl rfl (by decide) hw497 rfl rfl dM_multiply_3 ?_
  refine lv_iload_n hx hb dM_multiply_6 rfl (lv_at hl 1 rfl) ?_
  refine dw_ia (x := nI (x)) hx hb hG 1 0 rfl rfl (v) rfl (by omega) (by decide) e1 dM_multiply_7 ?_
  refine lv_imul hx hb dM_multiply_8 ?_
  refine lv_topi (nm_r (pk_mul (32) (x)) ?_)
  refine lv_istore_n (lv' := [(2, .int (nI (32 * (x)))), (0, .ref m0), (1, .int (nI (v)))]) hx hb dM_multiply_9 rfl hl (by decide) rfl (fun ls hl => ?_)
  refine lv_bipush (v := 32) hx hb dM_multiply_10 (by decide) ?_
  refine lv_aload_n hx hb dM_multiply_12 rfl (lv_at hl 1 rfl) ?_
  refine dw_get hx hb hts inMc hown hG 0 4 rfl rfl (by decide) hw498 rfl rfl dM_multiply_13 ?_
  refine lv_iload_n hx hb dM_multiply_16 rfl (lv_at hl 2 rfl) ?_
  refine dw_ia (x := nI (y)) hx hb hG 2 0 rfl rfl (v) rfl (by omega) (by decide) e2 dM_multiply_17 ?_
  refine lv_imul hx hb dM_multiply_18 ?_
  refine lv_topi (nm_r (pk_mul (32) (y)) ?_)
  refine lv_istore_n (lv' := [(3, .int (nI (32 * (y)))), (2, .int (nI (32 * (x)))), (0, .ref m0), (1, .int (nI (v)))]) hx hb dM_multiply_19 rfl hl (by decide) rfl (fun ls hl => ?_)
  refine lv_iconst (v := 0) hx hb dM_multiply_20 (by decide) ?_
  refine lv_istore (lv' := [(4, .int (0)), (3, .int (nI (32 * (y)))), (2, .int (nI (32 * (x)))), (0, .ref m0), (1, .int (nI (v)))]) hx hb dM_multiply_21 hl (by decide) rfl (fun ls hl => ?_)
  refine lv_iconst (v := 0) hx hb dM_multiply_23 (by decide) ?_
  refine lv_istore (lv' := [(5, .int (0)), (4, .int (0)), (3, .int (nI (32 * (y)))), (2, .int (nI (32 * (x)))), (0, .ref m0), (1, .int (nI (v)))]) hx hb dM_multiply_24 hl (by decide) rfl (fun ls hl => ?_)
  have L26 : ∀ (zz : Nat) (kn : Nat) (ls : Array Slot) (H : Heap) (locs : List Loc), 32 - kn < zz → db_kn zx ox zy oy kn → lv_has ls 9 [(0, .ref m0), (1, .int (nI (v))), (2, .int (nI (32 * (x)))), (3, .int (nI (32 * (y)))), (4, .int (nI (kn))), (5, .int (0))] → dw_G (dC, dI) vwCl [(cI, .int), (cZ, .boolean)] A s.heap s [(m0, .inr (5, [.int (ft), .int (vl), .ref aMd, .ref aO1, .ref aT2, .int (rs), .ref aSh, .ref aMk, .ref aFa, .ref aDe, .ref aNe, .ref aBy, .ref aPi, .int (pd), .ref aNw, .ref aNs, .ref aBf, .int (rn), .int (rr)])), (aO1, .inl (cI, 24, .inl (O1))), (aT2, .inl (cI, 24, .inl (T2))), (aFa, .inl (cI, 768, .inl (Fa)))] H locs → W p l e (headSpec wsM_multiply { frames := 1, cells := 0, slots := 0, locals := 24 }).room s m [.ref m0, .int (nI (v))].toArray below meth c H locs 0 0 Q (F0 m 26 ls []) := by
    intro zz
    induction zz with
    | zero => intro kn ls H locs hz; exact absurd hz (Nat.not_lt_zero _)
    | succ zz L26_ih =>
      intro kn ls H locs hz hkn hl hG
      have hk32 : kn ≤ 32 := hkn.1
      refine lv_iload hx hb dM_multiply_26 (lv_at hl 4 rfl) ?_
      refine lv_bipush (v := 32) hx hb dM_multiply_28 (by decide) ?_
      refine lv_icmp_ge (tgt := 65) hx hb dM_multiply_30 (by decide) (fun h30 => ?_) (fun h30 => ?_)
      · skip
        replace h30 := (nI_leI (a := 32) (b := kn) (by omega) (by omega)).mp h30
        exact J65 _ (kn) ls H locs (Nat.lt_succ_self _) hkn (db_kn_tz hkn (fun q => by omega)) hl hG
      replace h30 : ¬ 32 ≤ kn := fun q => h30 ((nI_leI (a := 32) (b := kn) (by omega) (by omega)).mpr q)
      refine lv_aload_n hx hb dM_multiply_33 rfl (lv_at hl 0 rfl) ?_
      refine dw_get hx hb hts inMc hown hG 0 8 rfl rfl (by decide) hw502 rfl rfl dM_multiply_34 ?_
      refine lv_iload_n hx hb dM_multiply_37 rfl (lv_at hl 2 rfl) ?_
      refine lv_iload hx hb dM_multiply_38 (lv_at hl 4 rfl) ?_
      refine lv_iadd hx hb dM_multiply_40 ?_
      refine lv_topi (nm_r (nI_add (32 * (x)) (kn)) ?_)
      refine dw_ia (x := db_tri (bt zx kn) (bt ox kn)) hx hb hG 3 0 rfl rfl (32 * (x) + kn) rfl (by omega) (by decide) (hfx kn (by omega)) dM_multiply_41 ?_
      refine lv_iconst (v := 2) hx hb dM_multiply_42 (by decide) ?_
      refine lv_icmp_eq (tgt := 65) hx hb dM_multiply_43 (by decide) (fun h43 => ?_) (fun h43 => ?_)
      · skip
        exact J65 _ (kn) ls H locs (Nat.lt_succ_self _) hkn (db_kn_tz hkn (fun _ => db_open_x h43)) hl hG
      refine lv_aload_n hx hb dM_multiply_46 rfl (lv_at hl 0 rfl) ?_
      refine dw_get hx hb hts inMc hown hG 0 8 rfl rfl (by decide) hw502 rfl rfl dM_multiply_47 ?_
      refine lv_iload_n hx hb dM_multiply_50 rfl (lv_at hl 3 rfl) ?_
      refine lv_iload hx hb dM_multiply_51 (lv_at hl 4 rfl) ?_
      refine lv_iadd hx hb dM_multiply_53 ?_
      refine lv_topi (nm_r (nI_add (32 * (y)) (kn)) ?_)
      refine dw_ia (x := db_tri (bt zy kn) (bt oy kn)) hx hb hG 3 0 rfl rfl (32 * (y) + kn) rfl (by omega) (by decide) (hfy kn (by omega)) dM_multiply_54 ?_
      refine lv_iconst (v := 2) hx hb dM_multiply_55 (by decide) ?_
      refine lv_icmp_eq (tgt := 65) hx hb dM_multiply_56 (by decide) (fun h56 => ?_) (fun h56 => ?_)
      · skip
        exact J65 _ (kn) ls H locs (Nat.lt_succ_self _) hkn (db_kn_tz hkn (fun _ => db_open_y h56)) hl hG
      refine lv_iinc (v := nI (kn + 1)) (lv' := [(4, .int (nI (kn + 1))), (0, .ref m0), (1, .int (nI (v))), (2, .int (nI (32 * (x)))), (3, .int (nI (32 * (y)))), (5, .int (0))]) hx hb dM_multiply_59 hl (k := 4) rfl (dw_inc (kn)) (by decide) rfl (fun ls hl => ?_)
      refine lv_goto (tgt := 26) hx hb dM_multiply_62 (by decide) ?_
      exact L26_ih (kn + 1) ls H locs (by omega) (db_kn_s hkn (by omega) h43 h56) (lv_sub hl [1, 2, 3, 4, 0, 5] rfl) hG
  exact L26 _ (0) ls H locs (Nat.lt_succ_self _) (db_kn0 _ _ _ _) (lv_sub hl [4, 5, 3, 2, 1, 0] rfl) hG

