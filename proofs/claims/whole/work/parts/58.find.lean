set_option maxRecDepth 100000 in
set_option maxHeartbeats 4000000 in
theorem cf_find (l : Launch) (dC : Nat → ClassId) (dI : Nat → Nat → Nat) (cI cZ : ClassId) (f0 aZ aO : Nat) (ch : Int32) (Zs On : Nat → Int32) (u0 aK aX aY aN aV aM n R : Nat) (K X Y : Nat → Nat) (Nm : Nat → Int32) (sz : Nat) (hn : n ≤ 24) (hwf : db_wf n K X Y Nm) : Met l yF_find wsF_find { frames := 3, cells := 0, slots := 0, locals := 100 } (va_Pc [.ref f0, .ref u0] (dw_pre (dC, dI) vwCl [(f0, .inr (2, [.ref aZ, .ref aO, .int (ch)])), (aZ, .inl (cI, 24, .inl (Zs))), (aO, .inl (cI, 24, .inl (On))), (u0, .inr (1, [.ref aK, .ref aX, .ref aY, .ref aN, .ref aV, .ref aM, .int (nI (n)), .int (nI (R))])), (aK, .inl (cI, 24, .inl (fun w => nI (K w)))), (aX, .inl (cI, 24, .inl (fun w => nI (X w)))), (aY, .inl (cI, 24, .inl (fun w => nI (Y w)))), (aN, .inl (cI, 24, .inl (Nm)))] [(cI, .int), (cZ, .boolean)] sz)) (va_Qv (fun (u : db_Fs × Int32) => db_agree n u.1 (db_facts n K X Y Nm)) (fun u t => dw_post (dC, dI) vwCl [(f0, .inr (2, [.ref aZ, .ref aO, .int (u.2)])), (aZ, .inl (cI, 24, .inl (u.1.1))), (aO, .inl (cI, 24, .inl (u.1.2))), (u0, .inr (1, [.ref aK, .ref aX, .ref aY, .ref aN, .ref aV, .ref aM, .int (nI (n)), .int (nI (R))])), (aK, .inl (cI, 24, .inl (fun w => nI (K w)))), (aX, .inl (cI, 24, .inl (fun w => nI (X w)))), (aY, .inl (cI, 24, .inl (fun w => nI (Y w)))), (aN, .inl (cI, 24, .inl (Nm)))] [(cI, .int), (cZ, .boolean)] (va_A [(f0, .inr (2, [.ref aZ, .ref aO, .int (ch)])), (aZ, .inl (cI, 24, .inl (Zs))), (aO, .inl (cI, 24, .inl (On))), (u0, .inr (1, [.ref aK, .ref aX, .ref aY, .ref aN, .ref aV, .ref aM, .int (nI (n)), .int (nI (R))])), (aK, .inl (cI, 24, .inl (fun w => nI (K w)))), (aX, .inl (cI, 24, .inl (fun w => nI (X w)))), (aY, .inl (cI, 24, .inl (fun w => nI (Y w)))), (aN, .inl (cI, 24, .inl (Nm)))] sz) t) (va_A [(f0, .inr (2, [.ref aZ, .ref aO, .int (ch)])), (aZ, .inl (cI, 24, .inl (Zs))), (aO, .inl (cI, 24, .inl (On))), (u0, .inr (1, [.ref aK, .ref aX, .ref aY, .ref aN, .ref aV, .ref aM, .int (nI (n)), .int (nI (R))])), (aK, .inl (cI, 24, .inl (fun w => nI (K w)))), (aX, .inl (cI, 24, .inl (fun w => nI (X w)))), (aY, .inl (cI, 24, .inl (fun w => nI (Y w)))), (aN, .inl (cI, 24, .inl (Nm)))] sz)) 0 0 (va_A [(f0, .inr (2, [.ref aZ, .ref aO, .int (ch)])), (aZ, .inl (cI, 24, .inl (Zs))), (aO, .inl (cI, 24, .inl (On))), (u0, .inr (1, [.ref aK, .ref aX, .ref aY, .ref aN, .ref aV, .ref aM, .int (nI (n)), .int (nI (R))])), (aK, .inl (cI, 24, .inl (fun w => nI (K w)))), (aX, .inl (cI, 24, .inl (fun w => nI (X w)))), (aY, .inl (cI, 24, .inl (fun w => nI (Y w)))), (aN, .inl (cI, 24, .inl (Nm)))] sz) := by
  refine Met.ofW (cc := cF_find) (maxL := 4) (ret := none) (by decide) rfl ?_
  intro p e s m args below meth c s₁ B hml hv0
  have hx := B.exec
  have hb := B.bytes
  have hr := B.returns
  have hts := atoms_spec (ws := wsF_find) B.pre
  have hown : s.vm.findClass RF = some m.cls := findClass_of_methodNamed B.named
  have hlocks := B.notSynchronized
  obtain ⟨rfl, hsz, hG⟩ := dw_enter hv0
  generalize va_A [(f0, .inr (2, [.ref aZ, .ref aO, .int (ch)])), (aZ, .inl (cI, 24, .inl (Zs))), (aO, .inl (cI, 24, .inl (On))), (u0, .inr (1, [.ref aK, .ref aX, .ref aY, .ref aN, .ref aV, .ref aM, .int (nI (n)), .int (nI (R))])), (aK, .inl (cI, 24, .inl (fun w => nI (K w)))), (aX, .inl (cI, 24, .inl (fun w => nI (X w)))), (aY, .inl (cI, 24, .inl (fun w => nI (Y w)))), (aN, .inl (cI, 24, .inl (Nm)))] sz = A at hG ⊢
  have hl := lv_entry ([.ref f0, .ref u0]) (n := 4) (Nat.le_of_ble_eq_true rfl)
  rw [lg_entry_eq]
  generalize (lg_sl ([.ref f0, .ref u0]) ++ List.replicate (4 - (lg_sl ([.ref f0, .ref u0])).length) Slot.unset).toArray = ls at hl ⊢
  have hl : lv_has ls 4 [(0, .ref f0), (1, .ref u0)] := hl
  have hw59 := hts _ (List.mem_cons_of_mem _ tw_59)
  have hw95 := hts _ (List.mem_cons_of_mem _ tw_95)
  have hw32 := hts _ (List.mem_cons_of_mem _ tw_32)
  have hw89 := hts _ (List.mem_cons_of_mem _ tw_89)
  have hw37 := hts _ (List.mem_cons_of_mem _ tw_37)
  have hw92 := hts _ (List.mem_cons_of_mem _ tw_92)
  refine dw_Q (fun Q hQ => ?_)
  suffices hgo : ∀ (H : Heap) (locs : List Loc), dw_G (dC, dI) vwCl [(cI, .int), (cZ, .boolean)] A s.heap s [(f0, .inr (2, [.ref aZ, .ref aO, .int (ch)])), (aZ, .inl (cI, 24, .inl (Zs))), (aO, .inl (cI, 24, .inl (On))), (u0, .inr (1, [.ref aK, .ref aX, .ref aY, .ref aN, .ref aV, .ref aM, .int (nI (n)), .int (nI (R))])), (aK, .inl (cI, 24, .inl (fun w => nI (K w)))), (aX, .inl (cI, 24, .inl (fun w => nI (X w)))), (aY, .inl (cI, 24, .inl (fun w => nI (Y w)))), (aN, .inl (cI, 24, .inl (Nm)))] H locs → W p l e (headSpec wsF_find { frames := 3, cells := 0, slots := 0, locals := 100 }).room s m [.ref f0, .ref u0].toArray below meth c H locs 0 0 Q (F0 m 0 ls []) from hgo _ _ hG
  clear hG
  intro H locs hG
  refine lv_iconst (v := 0) hx hb dF_find_0 (by decide) ?_
  refine lv_istore_n (lv' := [(2, .int (0)), (0, .ref f0), (1, .ref u0)]) hx hb dF_find_1 rfl hl (by decide) rfl (fun ls hl => ?_)
  have L2 : ∀ (zz : Nat) (v : Nat) (g2 : db_Fs) (c2 : Int32) (ls : Array Slot) (H : Heap) (locs : List Loc), n - v < zz → v ≤ n → g2 = db_it (db_s0 K X Y Nm) v (Zs, On) → lv_has ls 4 [(0, .ref f0), (1, .ref u0), (2, .int (nI (v)))] → dw_G (dC, dI) vwCl [(cI, .int), (cZ, .boolean)] A s.heap s [(f0, .inr (2, [.ref aZ, .ref aO, .int (c2)])), (aZ, .inl (cI, 24, .inl (g2.1))), (aO, .inl (cI, 24, .inl (g2.2))), (u0, .inr (1, [.ref aK, .ref aX, .ref aY, .ref aN, .ref aV, .ref aM, .int (nI (n)), .int (nI (R))])), (aK, .inl (cI, 24, .inl (fun w => nI (K w)))), (aX, .inl (cI, 24, .inl (fun w => nI (X w)))), (aY, .inl (cI, 24, .inl (fun w => nI (Y w)))), (aN, .inl (cI, 24, .inl (Nm)))] H locs → W p l e (headSpec wsF_find { frames := 3, cells := 0, slots := 0, locals := 100 }).room s m [.ref f0, .ref u0].toArray below meth c H locs 0 0 Q (F0 m 2 ls []) := by
    intro zz
    induction zz with
    | zero => intro v g2 c2 ls H locs hz; exact absurd hz (Nat.not_lt_zero _)
    | succ zz L2_ih =>
      intro v g2 c2 ls H locs hz hv9 hg2 hl hG
      refine lv_iload_n hx hb dF_find_2 rfl (lv_at hl 2 rfl) ?_
      refine lv_aload_n hx hb dF_find_3 rfl (lv_at hl 1 rfl) ?_
      refine dw_get hx hb hts inUc hown hG 3 6 rfl rfl (by decide) hw59 rfl rfl dF_find_4 ?_
      refine lv_icmp_ge (tgt := 63) hx hb dF_find_7 (by decide) (fun h7 => ?_) (fun h7 => ?_)
      · skip
        replace h7 := (nI_leI (a := n) (b := v) (by omega) (by omega)).mp h7
        refine lv_aload_n hx hb dF_find_63 rfl (lv_at hl 0 rfl) ?_
        refine lv_iconst (v := 1) hx hb dF_find_64 (by decide) ?_
        refine dw_put (ws' := [(f0, .inr (2, [.ref aZ, .ref aO, .int (1)])), (aZ, .inl (cI, 24, .inl (g2.1))), (aO, .inl (cI, 24, .inl (g2.2))), (u0, .inr (1, [.ref aK, .ref aX, .ref aY, .ref aN, .ref aV, .ref aM, .int (nI (n)), .int (nI (R))])), (aK, .inl (cI, 24, .inl (fun w => nI (K w)))), (aX, .inl (cI, 24, .inl (fun w => nI (X w)))), (aY, .inl (cI, 24, .inl (fun w => nI (Y w)))), (aN, .inl (cI, 24, .inl (Nm)))]) hx hb hts inFc tyF tyF_ok nmF hown hG 0 2 rfl rfl (by decide) hw95 rfl rfl (ty := .boolean) (by decide +kernel) rfl rfl (Nat.le_of_ble_eq_true rfl) dF_find_65 rfl (fun H locs hG => ?_)
        refine lv_iconst (v := 0) hx hb dF_find_68 (by decide) ?_
        refine lv_istore_n (lv' := [(2, .int (0)), (0, .ref f0), (1, .ref u0)]) hx hb dF_find_69 rfl hl (by decide) rfl (fun ls hl => ?_)
        have L70 : ∀ (zz : Nat) (i : Nat) (g : db_Fs) (c1 : Int32) (ls : Array Slot) (H : Heap) (locs : List Loc), 770 - i < zz → i ≤ 769 → g = db_P n K X Y Nm i (Zs, On) → db_sofar c1 n K X Y Nm (Zs, On) i → lv_has ls 4 [(0, .ref f0), (1, .ref u0), (2, .int (nI (i)))] → dw_G (dC, dI) vwCl [(cI, .int), (cZ, .boolean)] A s.heap s [(f0, .inr (2, [.ref aZ, .ref aO, .int (c1)])), (aZ, .inl (cI, 24, .inl (g.1))), (aO, .inl (cI, 24, .inl (g.2))), (u0, .inr (1, [.ref aK, .ref aX, .ref aY, .ref aN, .ref aV, .ref aM, .int (nI (n)), .int (nI (R))])), (aK, .inl (cI, 24, .inl (fun w => nI (K w)))), (aX, .inl (cI, 24, .inl (fun w => nI (X w)))), (aY, .inl (cI, 24, .inl (fun w => nI (Y w)))), (aN, .inl (cI, 24, .inl (Nm)))] H locs → W p l e (headSpec wsF_find { frames := 3, cells := 0, slots := 0, locals := 100 }).room s m [.ref f0, .ref u0].toArray below meth c H locs 0 0 Q (F0 m 70 ls []) := by
          intro zz
          induction zz with
          | zero => intro i g c1 ls H locs hz; exact absurd hz (Nat.not_lt_zero _)
          | succ zz L70_ih =>
            intro i g c1 ls H locs hz hi9 hg hsf hl hG
            refine lv_aload_n hx hb dF_find_70 rfl (lv_at hl 0 rfl) ?_
            refine dw_get hx hb hts inFc hown hG 0 2 rfl rfl (by decide) hw95 rfl rfl dF_find_71 ?_
            refine lv_if_eq (tgt := 117) hx hb dF_find_74 (by decide) (fun h74 => ?_) (fun h74 => ?_)
            · skip
              subst hQ
              exact dw_vret hx hb hr hG ((g, c1)) rfl (by show db_agree n g _; rw [hg]; exact db_sofar_end hwf hsf h74) dF_find_117 hlocks
            refine lv_iload_n hx hb dF_find_77 rfl (lv_at hl 2 rfl) ?_
            refine lv_sipush (v := 769) hx hb dF_find_78 (by decide) ?_
            refine lv_icmp_ge (tgt := 117) hx hb dF_find_81 (by decide) (fun h81 => ?_) (fun h81 => ?_)
            · skip
              replace h81 := (nI_leI (a := 769) (b := i) (by omega) (by omega)).mp h81
              exact absurd (db_sofar_le hwf hn hsf h74) (by omega)
            replace h81 : ¬ 769 ≤ i := fun hq0 => h81 ((nI_leI (a := 769) (b := i) (by omega) (by omega)).mpr hq0)
            have hi8 : i ≤ 768 := db_sofar_le hwf hn hsf h74
            refine lv_aload_n hx hb dF_find_84 rfl (lv_at hl 0 rfl) ?_
            refine lv_iconst (v := 0) hx hb dF_find_85 (by decide) ?_
            refine dw_put (ws' := [(f0, .inr (2, [.ref aZ, .ref aO, .int (0)])), (aZ, .inl (cI, 24, .inl (g.1))), (aO, .inl (cI, 24, .inl (g.2))), (u0, .inr (1, [.ref aK, .ref aX, .ref aY, .ref aN, .ref aV, .ref aM, .int (nI (n)), .int (nI (R))])), (aK, .inl (cI, 24, .inl (fun w => nI (K w)))), (aX, .inl (cI, 24, .inl (fun w => nI (X w)))), (aY, .inl (cI, 24, .inl (fun w => nI (Y w)))), (aN, .inl (cI, 24, .inl (Nm)))]) hx hb hts inFc tyF tyF_ok nmF hown hG 0 2 rfl rfl (by decide) hw95 rfl rfl (ty := .boolean) (by decide +kernel) rfl rfl (Nat.le_of_ble_eq_true rfl) dF_find_86 rfl (fun H locs hG => ?_)
            refine lv_iconst (v := 0) hx hb dF_find_89 (by decide) ?_
            refine lv_istore_n (lv' := [(3, .int (0)), (0, .ref f0), (1, .ref u0), (2, .int (nI (i)))]) hx hb dF_find_90 rfl hl (by decide) rfl (fun ls hl => ?_)
            have L91 : ∀ (zz : Nat) (v : Nat) (g2 : db_Fs) (c2 : Int32) (ls : Array Slot) (H : Heap) (locs : List Loc), n - v < zz → v ≤ n → g2 = db_it (db_st K X Y Nm) v g → db_cch c2 g g2 v → lv_has ls 4 [(0, .ref f0), (1, .ref u0), (2, .int (nI (i))), (3, .int (nI (v)))] → dw_G (dC, dI) vwCl [(cI, .int), (cZ, .boolean)] A s.heap s [(f0, .inr (2, [.ref aZ, .ref aO, .int (c2)])), (aZ, .inl (cI, 24, .inl (g2.1))), (aO, .inl (cI, 24, .inl (g2.2))), (u0, .inr (1, [.ref aK, .ref aX, .ref aY, .ref aN, .ref aV, .ref aM, .int (nI (n)), .int (nI (R))])), (aK, .inl (cI, 24, .inl (fun w => nI (K w)))), (aX, .inl (cI, 24, .inl (fun w => nI (X w)))), (aY, .inl (cI, 24, .inl (fun w => nI (Y w)))), (aN, .inl (cI, 24, .inl (Nm)))] H locs → W p l e (headSpec wsF_find { frames := 3, cells := 0, slots := 0, locals := 100 }).room s m [.ref f0, .ref u0].toArray below meth c H locs 0 0 Q (F0 m 91 ls []) := by
              intro zz
              induction zz with
              | zero => intro v g2 c2 ls H locs hz; exact absurd hz (Nat.not_lt_zero _)
              | succ zz L91_ih =>
                intro v g2 c2 ls H locs hz hv9 hg2 hc hl hG
                refine lv_iload_n hx hb dF_find_91 rfl (lv_at hl 3 rfl) ?_
                refine lv_aload_n hx hb dF_find_92 rfl (lv_at hl 1 rfl) ?_
                refine dw_get hx hb hts inUc hown hG 3 6 rfl rfl (by decide) hw59 rfl rfl dF_find_93 ?_
                refine lv_icmp_ge (tgt := 111) hx hb dF_find_96 (by decide) (fun h96 => ?_) (fun h96 => ?_)
                · skip
                  replace h96 := (nI_leI (a := n) (b := v) (by omega) (by omega)).mp h96
                  refine lv_iinc (v := nI (i + 1)) (lv' := [(2, .int (nI (i + 1))), (0, .ref f0), (1, .ref u0), (3, .int (nI (v)))]) hx hb dF_find_111 hl (k := 2) rfl (dw_inc (i)) (by decide) rfl (fun ls hl => ?_)
                  refine lv_goto (tgt := 70) hx hb dF_find_114 (by decide) ?_
                  exact L70_ih (i + 1) (g2) (c2) ls H locs (by omega) (by omega) (by rw [hg2, show v = n by omega, hg]; rfl) (db_sofar_s hwf hn hsf h74 (by have e : v = n := (by omega); rw [e] at hc hg2; have z := db_cch_lch (K := K) hc; rw [hg2, hg] at z; exact z)) (lv_sub hl [1, 2, 0] rfl) hG
                replace h96 : ¬ n ≤ v := fun hq0 => h96 ((nI_leI (a := n) (b := v) (by omega) (by omega)).mpr hq0)
                have hvn : v < n := by omega
                have hw1 : K v ≤ 13 := (hwf v hvn).1
                have hw2 := (hwf v hvn).2.1
                refine lv_aload_n hx hb dF_find_99 rfl (lv_at hl 0 rfl) ?_
                refine lv_aload_n hx hb dF_find_100 rfl (lv_at hl 1 rfl) ?_
                refine lv_iload_n hx hb dF_find_101 rfl (lv_at hl 3 rfl) ?_
                refine dw_callv (wc := [(f0, .inr (2, [.ref aZ, .ref aO, .int (c2)])), (aZ, .inl (cI, 24, .inl (g2.1))), (aO, .inl (cI, 24, .inl (g2.2))), (u0, .inr (1, [.ref aK, .ref aX, .ref aY, .ref aN, .ref aV, .ref aM, .int (nI (n)), .int (nI (R))])), (aK, .inl (cI, 24, .inl (fun w => nI (K w)))), (aX, .inl (cI, 24, .inl (fun w => nI (X w)))), (aY, .inl (cI, 24, .inl (fun w => nI (Y w)))), (aN, .inl (cI, 24, .inl (Nm)))]) (wr := []) hG [0, 1, 2, 3, 4, 5, 6, 7] [] rfl rfl (by decide) (by decide) (va_runV (As := [.ref u0, .int (nI (v))]) (rest := []) ⟨hx, hb, hml, hown, hts⟩ (cf_workOut l dC dI cI cZ f0 aZ aO (c2) (g2.1) (g2.2) u0 aK aX aY aN aV aM n R (fun w => nI (K w)) (fun w => nI (X w)) (fun w => nI (Y w)) Nm v (X v) (Y v) (K v) H.size (by omega) (by have := (hwf v hvn).2.1; omega) (by have := (hwf v hvn).2.2.1; omega) rfl rfl (hwf v hvn).1 rfl) (dc_V 2 hts tw_185 tw_187 tp_F_workOut tw_3 tw_188 rfl rfl (by decide +kernel) ⟨Nat.le_of_ble_eq_true rfl, Nat.le_of_ble_eq_true rfl⟩) (dw_preV (ci := 2) hG [0, 1, 2, 3, 4, 5, 6, 7] [0, 1] rfl rfl (by decide) rfl rfl (q0 := 0) rfl) rfl rfl hl.1 rfl (lv_room (Nat.le_of_ble_eq_true rfl)) dF_find_102 ⟨Nat.le_refl _, Nat.le_refl _⟩) (fun u H locs hp hG => ?_)
                replace hp : db_lrn (c2) u g2.1 g2.2 v (db_val K X Y Nm v g2).1 (db_val K X Y Nm v g2).2 := hp
                have hG : dw_G (dC, dI) vwCl [(cI, .int), (cZ, .boolean)] A s.heap s [(f0, .inr (2, [.ref aZ, .ref aO, .int (u)])), (aZ, .inl (cI, 24, .inl ((db_put g2 v (db_val K X Y Nm v g2)).1))), (aO, .inl (cI, 24, .inl ((db_put g2 v (db_val K X Y Nm v g2)).2))), (u0, .inr (1, [.ref aK, .ref aX, .ref aY, .ref aN, .ref aV, .ref aM, .int (nI (n)), .int (nI (R))])), (aK, .inl (cI, 24, .inl (fun w => nI (K w)))), (aX, .inl (cI, 24, .inl (fun w => nI (X w)))), (aY, .inl (cI, 24, .inl (fun w => nI (Y w)))), (aN, .inl (cI, 24, .inl (Nm)))] H locs := hG
                refine lv_iinc (v := nI (v + 1)) (lv' := [(3, .int (nI (v + 1))), (0, .ref f0), (1, .ref u0), (2, .int (nI (i)))]) hx hb dF_find_105 hl (k := 3) rfl (dw_inc (v)) (by decide) rfl (fun ls hl => ?_)
                refine lv_goto (tgt := 91) hx hb dF_find_108 (by decide) ?_
                exact L91_ih (v + 1) (db_put g2 v (db_val K X Y Nm v g2)) (u) ls H locs (by omega) (by omega) (by rw [hg2]; rfl) (db_cch_s hc (by rw [hg2]; exact db_it_n (fun _ _ _ h => db_st_n h) g v v (Nat.le_refl v)) hp) (lv_sub hl [1, 2, 3, 0] rfl) hG
            exact L91 _ (0) (g) (0) ls H locs (Nat.lt_succ_self _) (Nat.zero_le _) rfl (Or.inl ⟨rfl, rfl⟩) (lv_sub hl [1, 2, 3, 0] rfl) hG
        exact L70 _ (0) (g2) (1) ls H locs (Nat.lt_succ_self _) (by omega) (by rw [hg2, show v = n by omega]; rfl) (Or.inl ⟨rfl, fun j hj => by omega⟩) (lv_sub hl [1, 2, 0] rfl) hG
      replace h7 : ¬ n ≤ v := fun hq0 => h7 ((nI_leI (a := n) (b := v) (by omega) (by omega)).mpr hq0)
      have hvn : v < n := by omega
      have hw1 : K v ≤ 13 := (hwf v hvn).1
      have hw2 := (hwf v hvn).2.1
      refine lv_aload_n hx hb dF_find_10 rfl (lv_at hl 1 rfl) ?_
      refine dw_get hx hb hts inUc hown hG 3 0 rfl rfl (by decide) hw32 rfl rfl dF_find_11 ?_
      refine lv_iload_n hx hb dF_find_14 rfl (lv_at hl 2 rfl) ?_
      refine dw_ia (x := nI (K v)) hx hb hG 4 0 rfl rfl (v) rfl (by omega) (by decide) rfl dF_find_15 ?_
      refine lv_bipush (v := 13) hx hb dF_find_16 (by decide) ?_
      refine lv_icmp_ne (tgt := 51) hx hb dF_find_18 (by decide) (fun h18 => ?_) (fun h18 => ?_)
      · skip
        replace h18 : ¬ K v = 13 := fun hq0 => h18 ((nI_eq (a := K v) (b := 13) (by omega) (by omega)).mpr hq0)
        refine lv_aload_n hx hb dF_find_51 rfl (lv_at hl 0 rfl) ?_
        refine lv_aload_n hx hb dF_find_52 rfl (lv_at hl 1 rfl) ?_
        refine lv_iload_n hx hb dF_find_53 rfl (lv_at hl 2 rfl) ?_
        refine dw_callv (wc := [(f0, .inr (2, [.ref aZ, .ref aO, .int (c2)])), (aZ, .inl (cI, 24, .inl (g2.1))), (aO, .inl (cI, 24, .inl (g2.2))), (u0, .inr (1, [.ref aK, .ref aX, .ref aY, .ref aN, .ref aV, .ref aM, .int (nI (n)), .int (nI (R))])), (aK, .inl (cI, 24, .inl (fun w => nI (K w)))), (aX, .inl (cI, 24, .inl (fun w => nI (X w)))), (aY, .inl (cI, 24, .inl (fun w => nI (Y w)))), (aN, .inl (cI, 24, .inl (Nm)))]) (wr := []) hG [0, 1, 2, 3, 4, 5, 6, 7] [] rfl rfl (by decide) (by decide) (va_runV (As := [.ref u0, .int (nI (v))]) (rest := []) ⟨hx, hb, hml, hown, hts⟩ (cf_workOut l dC dI cI cZ f0 aZ aO (c2) (g2.1) (g2.2) u0 aK aX aY aN aV aM n R (fun w => nI (K w)) (fun w => nI (X w)) (fun w => nI (Y w)) Nm v (X v) (Y v) (K v) H.size (by omega) (by have := (hwf v hvn).2.1; omega) (by have := (hwf v hvn).2.2.1; omega) rfl rfl (hwf v hvn).1 rfl) (dc_V 2 hts tw_185 tw_187 tp_F_workOut tw_3 tw_188 rfl rfl (by decide +kernel) ⟨Nat.le_of_ble_eq_true rfl, Nat.le_of_ble_eq_true rfl⟩) (dw_preV (ci := 2) hG [0, 1, 2, 3, 4, 5, 6, 7] [0, 1] rfl rfl (by decide) rfl rfl (q0 := 0) rfl) rfl rfl hl.1 rfl (lv_room (Nat.le_of_ble_eq_true rfl)) dF_find_54 ⟨Nat.le_refl _, Nat.le_refl _⟩) (fun u H locs hp hG => ?_)
        replace hp : db_lrn (c2) u g2.1 g2.2 v (db_val K X Y Nm v g2).1 (db_val K X Y Nm v g2).2 := hp
        have hG : dw_G (dC, dI) vwCl [(cI, .int), (cZ, .boolean)] A s.heap s [(f0, .inr (2, [.ref aZ, .ref aO, .int (u)])), (aZ, .inl (cI, 24, .inl ((db_put g2 v (db_val K X Y Nm v g2)).1))), (aO, .inl (cI, 24, .inl ((db_put g2 v (db_val K X Y Nm v g2)).2))), (u0, .inr (1, [.ref aK, .ref aX, .ref aY, .ref aN, .ref aV, .ref aM, .int (nI (n)), .int (nI (R))])), (aK, .inl (cI, 24, .inl (fun w => nI (K w)))), (aX, .inl (cI, 24, .inl (fun w => nI (X w)))), (aY, .inl (cI, 24, .inl (fun w => nI (Y w)))), (aN, .inl (cI, 24, .inl (Nm)))] H locs := hG
        refine lv_iinc (v := nI (v + 1)) (lv' := [(2, .int (nI (v + 1))), (0, .ref f0), (1, .ref u0)]) hx hb dF_find_57 hl (k := 2) rfl (dw_inc (v)) (by decide) rfl (fun ls hl => ?_)
        refine lv_goto (tgt := 2) hx hb dF_find_60 (by decide) ?_
        exact L2_ih (v + 1) (db_put g2 v (db_val K X Y Nm v g2)) (u) ls H locs (by omega) (by omega) (by rw [hg2]; exact (db_s0_else h18).symm) (lv_sub hl [1, 2, 0] rfl) hG
      replace h18 := (nI_eq (a := K v) (b := 13) (by omega) (by omega)).mp h18
      refine lv_aload_n hx hb dF_find_21 rfl (lv_at hl 0 rfl) ?_
      refine lv_iload_n hx hb dF_find_22 rfl (lv_at hl 2 rfl) ?_
      refine lv_aload_n hx hb dF_find_23 rfl (lv_at hl 0 rfl) ?_
      refine dw_get hx hb hts inFc hown hG 0 0 rfl rfl (by decide) hw89 rfl rfl dF_find_24 ?_
      refine lv_aload_n hx hb dF_find_27 rfl (lv_at hl 1 rfl) ?_
      refine dw_get hx hb hts inUc hown hG 3 1 rfl rfl (by decide) hw37 rfl rfl dF_find_28 ?_
      refine lv_iload_n hx hb dF_find_31 rfl (lv_at hl 2 rfl) ?_
      refine dw_ia (x := nI (X v)) hx hb hG 5 0 rfl rfl (v) rfl (by omega) (by decide) rfl dF_find_32 ?_
      refine dw_ia (x := (g2.1) (X v)) hx hb hG 1 0 rfl rfl (X v) rfl (by omega) (by decide) rfl dF_find_33 ?_
      refine lv_aload_n hx hb dF_find_34 rfl (lv_at hl 0 rfl) ?_
      refine dw_get hx hb hts inFc hown hG 0 1 rfl rfl (by decide) hw92 rfl rfl dF_find_35 ?_
      refine lv_aload_n hx hb dF_find_38 rfl (lv_at hl 1 rfl) ?_
      refine dw_get hx hb hts inUc hown hG 3 1 rfl rfl (by decide) hw37 rfl rfl dF_find_39 ?_
      refine lv_iload_n hx hb dF_find_42 rfl (lv_at hl 2 rfl) ?_
      refine dw_ia (x := nI (X v)) hx hb hG 5 0 rfl rfl (v) rfl (by omega) (by decide) rfl dF_find_43 ?_
      refine dw_ia (x := (g2.2) (X v)) hx hb hG 2 0 rfl rfl (X v) rfl (by omega) (by decide) rfl dF_find_44 ?_
      refine dw_callv (wc := [(f0, .inr (2, [.ref aZ, .ref aO, .int (c2)])), (aZ, .inl (cI, 24, .inl (g2.1))), (aO, .inl (cI, 24, .inl (g2.2)))]) (wr := [(u0, .inr (1, [.ref aK, .ref aX, .ref aY, .ref aN, .ref aV, .ref aM, .int (nI (n)), .int (nI (R))])), (aK, .inl (cI, 24, .inl (fun w => nI (K w)))), (aX, .inl (cI, 24, .inl (fun w => nI (X w)))), (aY, .inl (cI, 24, .inl (fun w => nI (Y w)))), (aN, .inl (cI, 24, .inl (Nm)))]) hG [0, 1, 2] [3, 4, 5, 6, 7] rfl rfl (by decide) (by decide) (va_runV (As := [.int (nI (v)), .int ((g2.1) (X v)), .int ((g2.2) (X v))]) (rest := []) ⟨hx, hb, hml, hown, hts⟩ (cf_learn l dC dI cI cZ f0 aZ aO c2 g2.1 g2.2 v ((g2.1) (X v)) ((g2.2) (X v)) H.size (by omega)) (dc_V 3 hts tw_181 tw_183 tp_F_learn tw_3 tw_184 rfl rfl (by decide +kernel) ⟨Nat.le_of_ble_eq_true rfl, Nat.le_of_ble_eq_true rfl⟩) (dw_preV (ci := 2) hG [0, 1, 2] [0, 1] rfl rfl (by decide) rfl rfl (q0 := 0) rfl) rfl rfl hl.1 rfl (lv_room (Nat.le_of_ble_eq_true rfl)) dF_find_45 ⟨Nat.le_refl _, Nat.le_refl _⟩) (fun u H locs hp hG => ?_)
      have hG : dw_G (dC, dI) vwCl [(cI, .int), (cZ, .boolean)] A s.heap s [(u0, .inr (1, [.ref aK, .ref aX, .ref aY, .ref aN, .ref aV, .ref aM, .int (nI (n)), .int (nI (R))])), (aK, .inl (cI, 24, .inl (fun w => nI (K w)))), (aX, .inl (cI, 24, .inl (fun w => nI (X w)))), (aY, .inl (cI, 24, .inl (fun w => nI (Y w)))), (aN, .inl (cI, 24, .inl (Nm))), (f0, .inr (2, [.ref aZ, .ref aO, .int (u)])), (aZ, .inl (cI, 24, .inl ((db_put g2 v (g2.1 (X v), g2.2 (X v))).1))), (aO, .inl (cI, 24, .inl ((db_put g2 v (g2.1 (X v), g2.2 (X v))).2)))] H locs := hG
      refine lv_goto (tgt := 57) hx hb dF_find_48 (by decide) ?_
      refine lv_iinc (v := nI (v + 1)) (lv' := [(2, .int (nI (v + 1))), (0, .ref f0), (1, .ref u0)]) hx hb dF_find_57 hl (k := 2) rfl (dw_inc (v)) (by decide) rfl (fun ls hl => ?_)
      refine lv_goto (tgt := 2) hx hb dF_find_60 (by decide) ?_
      exact L2_ih (v + 1) (db_put g2 v (g2.1 (X v), g2.2 (X v))) (u) ls H locs (by omega) (by omega) (by rw [hg2]; exact (db_s0_loop h18).symm) (lv_sub hl [1, 2, 0] rfl) (dw_perm hG [5, 6, 7, 0, 1, 2, 3, 4] (by decide) rfl rfl)
  exact L2 _ (0) ((Zs, On)) (ch) ls H locs (Nat.lt_succ_self _) (Nat.zero_le _) rfl (lv_sub hl [1, 2, 0] rfl) hG

