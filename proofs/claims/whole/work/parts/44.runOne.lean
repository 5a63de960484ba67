set_option maxRecDepth 100000 in
set_option maxHeartbeats 4000000 in
theorem rf_runOne0 (l : Launch) (dC : Nat → ClassId) (dI : Nat → Nat → Nat) (cI cZ : ClassId) (m0 aMd aO1 aT2 aSh aMk aFa aDe aNe aBy aPi aNw aNs aBf n : Nat) (ft rs pd rn rr : Int32) (aW kr : Nat) (K X Y : Nat → Nat) (Nm : Nat → Int32) (f : db_Fs) (Fa Bef Rd : Nat → Int32) (in0 in1 in2 : Int32) (sz : Nat) (hn : n ≤ 24) (hkr : kr ≤ 50) (hwf : db_wf n K X Y Nm) (hfa : db_reps n Fa f) (haps : db_aps n f) : Met l yM_runOne wsM_runOne { frames := 1, cells := 0, slots := 0, locals := 40 } (va_Pc [.ref m0, .ref aW, .int (0), .int (nI (kr)), .int (in0), .int (in1), .int (in2)] (dw_pre (dC, dI) vwCl [(m0, .inr (5, [.int (ft), .int (nI (n)), .ref aMd, .ref aO1, .ref aT2, .int (rs), .ref aSh, .ref aMk, .ref aFa, .ref aDe, .ref aNe, .ref aBy, .ref aPi, .int (pd), .ref aNw, .ref aNs, .ref aBf, .int (rn), .int (rr)])), (aMd, .inl (cI, 24, .inl (fun w => nI (db_rk (K w))))), (aO1, .inl (cI, 24, .inl (db_one1 K X Nm))), (aT2, .inl (cI, 24, .inl (db_two2 K Y Nm))), (aFa, .inl (cI, 768, .inl (Fa))), (aBf, .inl (cI, 24, .inl (Bef))), (aW, .inl (cI, 24, .inl (Rd)))] [(cI, .int), (cZ, .boolean)] sz)) (va_Qv (fun (u : (Nat → Int32) × (Nat → Int32)) => u.1 = db_course n K X Y Nm (fun _ => -1) f.2 (db_inp in0 in1 in2) kr Rd) (fun u t => dw_post (dC, dI) vwCl [(m0, .inr (5, [.int (ft), .int (nI (n)), .ref aMd, .ref aO1, .ref aT2, .int (rs), .ref aSh, .ref aMk, .ref aFa, .ref aDe, .ref aNe, .ref aBy, .ref aPi, .int (pd), .ref aNw, .ref aNs, .ref aBf, .int (rn), .int (rr)])), (aMd, .inl (cI, 24, .inl (fun w => nI (db_rk (K w))))), (aO1, .inl (cI, 24, .inl (db_one1 K X Nm))), (aT2, .inl (cI, 24, .inl (db_two2 K Y Nm))), (aFa, .inl (cI, 768, .inl (Fa))), (aBf, .inl (cI, 24, .inl (u.2))), (aW, .inl (cI, 24, .inl (u.1)))] [(cI, .int), (cZ, .boolean)] (va_A [(m0, .inr (5, [.int (ft), .int (nI (n)), .ref aMd, .ref aO1, .ref aT2, .int (rs), .ref aSh, .ref aMk, .ref aFa, .ref aDe, .ref aNe, .ref aBy, .ref aPi, .int (pd), .ref aNw, .ref aNs, .ref aBf, .int (rn), .int (rr)])), (aMd, .inl (cI, 24, .inl (fun w => nI (db_rk (K w))))), (aO1, .inl (cI, 24, .inl (db_one1 K X Nm))), (aT2, .inl (cI, 24, .inl (db_two2 K Y Nm))), (aFa, .inl (cI, 768, .inl (Fa))), (aBf, .inl (cI, 24, .inl (Bef))), (aW, .inl (cI, 24, .inl (Rd)))] sz) t) (va_A [(m0, .inr (5, [.int (ft), .int (nI (n)), .ref aMd, .ref aO1, .ref aT2, .int (rs), .ref aSh, .ref aMk, .ref aFa, .ref aDe, .ref aNe, .ref aBy, .ref aPi, .int (pd), .ref aNw, .ref aNs, .ref aBf, .int (rn), .int (rr)])), (aMd, .inl (cI, 24, .inl (fun w => nI (db_rk (K w))))), (aO1, .inl (cI, 24, .inl (db_one1 K X Nm))), (aT2, .inl (cI, 24, .inl (db_two2 K Y Nm))), (aFa, .inl (cI, 768, .inl (Fa))), (aBf, .inl (cI, 24, .inl (Bef))), (aW, .inl (cI, 24, .inl (Rd)))] sz)) 0 0 (va_A [(m0, .inr (5, [.int (ft), .int (nI (n)), .ref aMd, .ref aO1, .ref aT2, .int (rs), .ref aSh, .ref aMk, .ref aFa, .ref aDe, .ref aNe, .ref aBy, .ref aPi, .int (pd), .ref aNw, .ref aNs, .ref aBf, .int (rn), .int (rr)])), (aMd, .inl (cI, 24, .inl (fun w => nI (db_rk (K w))))), (aO1, .inl (cI, 24, .inl (db_one1 K X Nm))), (aT2, .inl (cI, 24, .inl (db_two2 K Y Nm))), (aFa, .inl (cI, 768, .inl (Fa))), (aBf, .inl (cI, 24, .inl (Bef))), (aW, .inl (cI, 24, .inl (Rd)))] sz) := by
  refine Met.ofW (cc := cM_runOne) (maxL := 9) (ret := none) (by decide) rfl ?_
  intro p e s m args below meth c s₁ B hml hv0
  have hx := B.exec
  have hb := B.bytes
  have hr := B.returns
  have hts := atoms_spec (ws := wsM_runOne) B.pre
  have hown : s.vm.findClass RM = some m.cls := findClass_of_methodNamed B.named
  have hlocks := B.notSynchronized
  obtain ⟨rfl, hsz, hG⟩ := dw_enter hv0
  generalize va_A [(m0, .inr (5, [.int (ft), .int (nI (n)), .ref aMd, .ref aO1, .ref aT2, .int (rs), .ref aSh, .ref aMk, .ref aFa, .ref aDe, .ref aNe, .ref aBy, .ref aPi, .int (pd), .ref aNw, .ref aNs, .ref aBf, .int (rn), .int (rr)])), (aMd, .inl (cI, 24, .inl (fun w => nI (db_rk (K w))))), (aO1, .inl (cI, 24, .inl (db_one1 K X Nm))), (aT2, .inl (cI, 24, .inl (db_two2 K Y Nm))), (aFa, .inl (cI, 768, .inl (Fa))), (aBf, .inl (cI, 24, .inl (Bef))), (aW, .inl (cI, 24, .inl (Rd)))] sz = A at hG ⊢
  have hl := lv_entry ([.ref m0, .ref aW, .int (0), .int (nI (kr)), .int (in0), .int (in1), .int (in2)]) (n := 9) (Nat.le_of_ble_eq_true rfl)
  rw [lg_entry_eq]
  generalize (lg_sl ([.ref m0, .ref aW, .int (0), .int (nI (kr)), .int (in0), .int (in1), .int (in2)]) ++ List.replicate (9 - (lg_sl ([.ref m0, .ref aW, .int (0), .int (nI (kr)), .int (in0), .int (in1), .int (in2)])).length) Slot.unset).toArray = ls at hl ⊢
  have hl : lv_has ls 9 [(0, .ref m0), (1, .ref aW), (2, .int (0)), (3, .int (nI (kr))), (4, .int (in0)), (5, .int (in1)), (6, .int (in2))] := hl
  have hw495 := hts _ (List.mem_cons_of_mem _ tw_495)
  have hw496 := hts _ (List.mem_cons_of_mem _ tw_496)
  have hw497 := hts _ (List.mem_cons_of_mem _ tw_497)
  have hw510 := hts _ (List.mem_cons_of_mem _ tw_510)
  have hw498 := hts _ (List.mem_cons_of_mem _ tw_498)
  refine dw_Q (fun Q hQ => ?_)
  suffices hgo : ∀ (H : Heap) (locs : List Loc), dw_G (dC, dI) vwCl [(cI, .int), (cZ, .boolean)] A s.heap s [(m0, .inr (5, [.int (ft), .int (nI (n)), .ref aMd, .ref aO1, .ref aT2, .int (rs), .ref aSh, .ref aMk, .ref aFa, .ref aDe, .ref aNe, .ref aBy, .ref aPi, .int (pd), .ref aNw, .ref aNs, .ref aBf, .int (rn), .int (rr)])), (aMd, .inl (cI, 24, .inl (fun w => nI (db_rk (K w))))), (aO1, .inl (cI, 24, .inl (db_one1 K X Nm))), (aT2, .inl (cI, 24, .inl (db_two2 K Y Nm))), (aFa, .inl (cI, 768, .inl (Fa))), (aBf, .inl (cI, 24, .inl (Bef))), (aW, .inl (cI, 24, .inl (Rd)))] H locs → W p l e (headSpec wsM_runOne { frames := 1, cells := 0, slots := 0, locals := 40 }).room s m [.ref m0, .ref aW, .int (0), .int (nI (kr)), .int (in0), .int (in1), .int (in2)].toArray below meth c H locs 0 0 Q (F0 m 0 ls []) from hgo _ _ hG
  clear hG
  intro H locs hG
  refine lv_iconst (v := 0) hx hb dM_runOne_0 (by decide) ?_
  refine lv_istore (lv' := [(7, .int (0)), (0, .ref m0), (1, .ref aW), (2, .int (0)), (3, .int (nI (kr))), (4, .int (in0)), (5, .int (in1)), (6, .int (in2))]) hx hb dM_runOne_1 hl (by decide) rfl (fun ls hl => ?_)
  have L3 : ∀ (zz : Nat) (i : Nat) (R1 : Nat → Int32) (bf : Nat → Int32) (ls : Array Slot) (H : Heap) (locs : List Loc), kr - i < zz → i ≤ kr → R1 = db_course n K X Y Nm (fun _ => -1) f.2 (db_inp in0 in1 in2) i Rd → lv_has ls 9 [(0, .ref m0), (1, .ref aW), (2, .int (0)), (3, .int (nI (kr))), (4, .int (in0)), (5, .int (in1)), (6, .int (in2)), (7, .int (nI (i)))] → dw_G (dC, dI) vwCl [(cI, .int), (cZ, .boolean)] A s.heap s [(m0, .inr (5, [.int (ft), .int (nI (n)), .ref aMd, .ref aO1, .ref aT2, .int (rs), .ref aSh, .ref aMk, .ref aFa, .ref aDe, .ref aNe, .ref aBy, .ref aPi, .int (pd), .ref aNw, .ref aNs, .ref aBf, .int (rn), .int (rr)])), (aMd, .inl (cI, 24, .inl (fun w => nI (db_rk (K w))))), (aO1, .inl (cI, 24, .inl (db_one1 K X Nm))), (aT2, .inl (cI, 24, .inl (db_two2 K Y Nm))), (aFa, .inl (cI, 768, .inl (Fa))), (aBf, .inl (cI, 24, .inl (bf))), (aW, .inl (cI, 24, .inl (R1)))] H locs → W p l e (headSpec wsM_runOne { frames := 1, cells := 0, slots := 0, locals := 40 }).room s m [.ref m0, .ref aW, .int (0), .int (nI (kr)), .int (in0), .int (in1), .int (in2)].toArray below meth c H locs 0 0 Q (F0 m 3 ls []) := by
    intro zz
    induction zz with
    | zero => intro i R1 bf ls H locs hz; exact absurd hz (Nat.not_lt_zero _)
    | succ zz L3_ih =>
      intro i R1 bf ls H locs hz hi9 hR1 hl hG
      refine lv_iload hx hb dM_runOne_3 (lv_at hl 7 rfl) ?_
      refine lv_iload_n hx hb dM_runOne_5 rfl (lv_at hl 3 rfl) ?_
      refine lv_icmp_ge (tgt := 226) hx hb dM_runOne_6 (by decide) (fun h6 => ?_) (fun h6 => ?_)
      · skip
        replace h6 := (nI_leI (a := kr) (b := i) (by omega) (by omega)).mp h6
        subst hQ
        exact dw_vret hx hb hr hG ((R1, bf)) rfl (by show R1 = _; rw [hR1, show i = kr by omega]) dM_runOne_226 hlocks
      replace h6 : ¬ kr ≤ i := fun hq0 => h6 ((nI_leI (a := kr) (b := i) (by omega) (by omega)).mpr hq0)
      refine lv_iconst (v := 0) hx hb dM_runOne_9 (by decide) ?_
      refine lv_istore (lv' := [(8, .int (0)), (0, .ref m0), (1, .ref aW), (2, .int (0)), (3, .int (nI (kr))), (4, .int (in0)), (5, .int (in1)), (6, .int (in2)), (7, .int (nI (i)))]) hx hb dM_runOne_10 hl (by decide) rfl (fun ls hl => ?_)
      have L12 : ∀ (zz : Nat) (j : Nat) (bf1 : Nat → Int32) (ls : Array Slot) (H : Heap) (locs : List Loc), n - j < zz → j ≤ n → (∀ w, w < j → bf1 w = R1 w) → lv_has ls 9 [(0, .ref m0), (1, .ref aW), (2, .int (0)), (3, .int (nI (kr))), (4, .int (in0)), (5, .int (in1)), (6, .int (in2)), (7, .int (nI (i))), (8, .int (nI (j)))] → dw_G (dC, dI) vwCl [(cI, .int), (cZ, .boolean)] A s.heap s [(m0, .inr (5, [.int (ft), .int (nI (n)), .ref aMd, .ref aO1, .ref aT2, .int (rs), .ref aSh, .ref aMk, .ref aFa, .ref aDe, .ref aNe, .ref aBy, .ref aPi, .int (pd), .ref aNw, .ref aNs, .ref aBf, .int (rn), .int (rr)])), (aMd, .inl (cI, 24, .inl (fun w => nI (db_rk (K w))))), (aO1, .inl (cI, 24, .inl (db_one1 K X Nm))), (aT2, .inl (cI, 24, .inl (db_two2 K Y Nm))), (aFa, .inl (cI, 768, .inl (Fa))), (aBf, .inl (cI, 24, .inl (bf1))), (aW, .inl (cI, 24, .inl (R1)))] H locs → W p l e (headSpec wsM_runOne { frames := 1, cells := 0, slots := 0, locals := 40 }).room s m [.ref m0, .ref aW, .int (0), .int (nI (kr)), .int (in0), .int (in1), .int (in2)].toArray below meth c H locs 0 0 Q (F0 m 12 ls []) := by
        intro zz
        induction zz with
        | zero => intro j bf1 ls H locs hz; exact absurd hz (Nat.not_lt_zero _)
        | succ zz L12_ih =>
          intro j bf1 ls H locs hz hj9 hbf hl hG
          refine lv_iload hx hb dM_runOne_12 (lv_at hl 8 rfl) ?_
          refine lv_aload_n hx hb dM_runOne_14 rfl (lv_at hl 0 rfl) ?_
          refine dw_get hx hb hts inMc hown hG 0 1 rfl rfl (by decide) hw495 rfl rfl dM_runOne_15 ?_
          refine lv_icmp_ge (tgt := 38) hx hb dM_runOne_18 (by decide) (fun h18 => ?_) (fun h18 => ?_)
          · skip
            replace h18 := (nI_leI (a := n) (b := j) (by omega) (by omega)).mp h18
            refine lv_iconst (v := 0) hx hb dM_runOne_38 (by decide) ?_
            refine lv_istore (lv' := [(8, .int (0)), (0, .ref m0), (1, .ref aW), (2, .int (0)), (3, .int (nI (kr))), (4, .int (in0)), (5, .int (in1)), (6, .int (in2)), (7, .int (nI (i)))]) hx hb dM_runOne_39 hl (by decide) rfl (fun ls hl => ?_)
            have L41 : ∀ (zz : Nat) (v : Nat) (R2 : Nat → Int32) (bf2 : Nat → Int32) (ls : Array Slot) (H : Heap) (locs : List Loc), n - v < zz → v ≤ n → R2 = db_it (db_rs K X Y Nm (fun _ => -1) f.2 (i = 0) R1 (db_inp in0 in1 in2)) v R1 → (∀ w, w < n → bf2 w = R1 w) → lv_has ls 9 [(0, .ref m0), (1, .ref aW), (2, .int (0)), (3, .int (nI (kr))), (4, .int (in0)), (5, .int (in1)), (6, .int (in2)), (7, .int (nI (i))), (8, .int (nI (v)))] → dw_G (dC, dI) vwCl [(cI, .int), (cZ, .boolean)] A s.heap s [(m0, .inr (5, [.int (ft), .int (nI (n)), .ref aMd, .ref aO1, .ref aT2, .int (rs), .ref aSh, .ref aMk, .ref aFa, .ref aDe, .ref aNe, .ref aBy, .ref aPi, .int (pd), .ref aNw, .ref aNs, .ref aBf, .int (rn), .int (rr)])), (aMd, .inl (cI, 24, .inl (fun w => nI (db_rk (K w))))), (aO1, .inl (cI, 24, .inl (db_one1 K X Nm))), (aT2, .inl (cI, 24, .inl (db_two2 K Y Nm))), (aFa, .inl (cI, 768, .inl (Fa))), (aBf, .inl (cI, 24, .inl (bf2))), (aW, .inl (cI, 24, .inl (R2)))] H locs → W p l e (headSpec wsM_runOne { frames := 1, cells := 0, slots := 0, locals := 40 }).room s m [.ref m0, .ref aW, .int (0), .int (nI (kr)), .int (in0), .int (in1), .int (in2)].toArray below meth c H locs 0 0 Q (F0 m 41 ls []) := by
              intro zz
              induction zz with
              | zero => intro v R2 bf2 ls H locs hz; exact absurd hz (Nat.not_lt_zero _)
              | succ zz L41_ih =>
                intro v R2 bf2 ls H locs hz hv9 hR2 hb2 hl hG
                refine lv_iload hx hb dM_runOne_41 (lv_at hl 8 rfl) ?_
                refine lv_aload_n hx hb dM_runOne_43 rfl (lv_at hl 0 rfl) ?_
                refine dw_get hx hb hts inMc hown hG 0 1 rfl rfl (by decide) hw495 rfl rfl dM_runOne_44 ?_
                refine lv_icmp_ge (tgt := 220) hx hb dM_runOne_47 (by decide) (fun h47 => ?_) (fun h47 => ?_)
                · skip
                  replace h47 := (nI_leI (a := n) (b := v) (by omega) (by omega)).mp h47
                  refine lv_iinc (v := nI (i + 1)) (lv' := [(7, .int (nI (i + 1))), (0, .ref m0), (1, .ref aW), (2, .int (0)), (3, .int (nI (kr))), (4, .int (in0)), (5, .int (in1)), (6, .int (in2)), (8, .int (nI (v)))]) hx hb dM_runOne_220 hl (k := 7) rfl (dw_inc (i)) (by decide) rfl (fun ls hl => ?_)
                  refine lv_goto (tgt := 3) hx hb dM_runOne_223 (by decide) ?_
                  exact L3_ih (i + 1) (R2) (bf2) ls H locs (by omega) (by omega) (by have e : v = n := (by omega); rw [hR2, e, hR1]; rfl) (lv_sub hl [1, 2, 3, 4, 5, 6, 7, 0] rfl) hG
                replace h47 : ¬ n ≤ v := fun hq0 => h47 ((nI_leI (a := n) (b := v) (by omega) (by omega)).mpr hq0)
                have hvn : v < n := by omega
                have hw1 : K v ≤ 13 := (hwf v hvn).1
                have hrk : db_rk (K v) ≤ 13 := db_rk_le hw1
                refine lv_iload_n hx hb dM_runOne_50 rfl (lv_at hl 2 rfl) ?_
                refine lv_if_eq (tgt := 103) hx hb dM_runOne_51 (by decide) (fun h51 => ?_) (fun h51 => ?_)
                · skip
                  replace h51 := (nI_eq (a := 0) (b := 0) (by omega) (by omega)).mp h51
                  refine lv_aload_n hx hb dM_runOne_103 rfl (lv_at hl 0 rfl) ?_
                  refine dw_get hx hb hts inMc hown hG 0 2 rfl rfl (by decide) hw496 rfl rfl dM_runOne_104 ?_
                  refine lv_iload hx hb dM_runOne_107 (lv_at hl 8 rfl) ?_
                  refine dw_ia (x := nI (db_rk (K v))) hx hb hG 1 0 rfl rfl (v) rfl (by omega) (by decide) rfl dM_runOne_109 ?_
                  refine lv_bipush (v := 11) hx hb dM_runOne_110 (by decide) ?_
                  refine lv_icmp_ne (tgt := 151) hx hb dM_runOne_112 (by decide) (fun h112 => ?_) (fun h112 => ?_)
                  · skip
                    replace h112 : ¬ db_rk (K v) = 11 := fun hq0 => h112 ((nI_eq (a := db_rk (K v)) (b := 11) (by omega) (by omega)).mpr hq0)
                    have hk13 : ¬ K v = 13 := fun z => h112 ((db_rk13 hw1).mpr z)
                    refine lv_aload_n hx hb dM_runOne_151 rfl (lv_at hl 0 rfl) ?_
                    refine dw_get hx hb hts inMc hown hG 0 2 rfl rfl (by decide) hw496 rfl rfl dM_runOne_152 ?_
                    refine lv_iload hx hb dM_runOne_155 (lv_at hl 8 rfl) ?_
                    refine dw_ia (x := nI (db_rk (K v))) hx hb hG 1 0 rfl rfl (v) rfl (by omega) (by decide) rfl dM_runOne_157 ?_
                    refine lv_bipush (v := 12) hx hb dM_runOne_158 (by decide) ?_
                    refine lv_icmp_ne (tgt := 203) hx hb dM_runOne_160 (by decide) (fun h160 => ?_) (fun h160 => ?_)
                    · skip
                      replace h160 : ¬ db_rk (K v) = 12 := fun hq0 => h160 ((nI_eq (a := db_rk (K v)) (b := 12) (by omega) (by omega)).mpr hq0)
                      have hk9 : ¬ K v = 9 := fun z => h160 ((db_rk12 hw1).mpr z)
                      have hk12 : K v ≤ 12 := by omega
                      refine lv_aload_n hx hb dM_runOne_203 rfl (lv_at hl 1 rfl) ?_
                      refine lv_iload hx hb dM_runOne_204 (lv_at hl 8 rfl) ?_
                      refine lv_aload_n hx hb dM_runOne_206 rfl (lv_at hl 0 rfl) ?_
                      refine lv_iload hx hb dM_runOne_207 (lv_at hl 8 rfl) ?_
                      refine lv_aload_n hx hb dM_runOne_209 rfl (lv_at hl 1 rfl) ?_
                      refine dw_calli (wc := [(m0, .inr (5, [.int (ft), .int (nI (n)), .ref aMd, .ref aO1, .ref aT2, .int (rs), .ref aSh, .ref aMk, .ref aFa, .ref aDe, .ref aNe, .ref aBy, .ref aPi, .int (pd), .ref aNw, .ref aNs, .ref aBf, .int (rn), .int (rr)])), (aMd, .inl (cI, 24, .inl (fun w => nI (db_rk (K w))))), (aO1, .inl (cI, 24, .inl (db_one1 K X Nm))), (aT2, .inl (cI, 24, .inl (db_two2 K Y Nm))), (aW, .inl (cI, 24, .inl (R2)))]) (wr := [(aFa, .inl (cI, 768, .inl (Fa))), (aBf, .inl (cI, 24, .inl (bf2)))]) hG [0, 1, 2, 3, 6] [4, 5] rfl rfl (by decide) (by decide) (va_runV (As := [.int (nI (v)), .ref aW]) (rest := [.int (nI (v)), .ref aW]) ⟨hx, hb, hml, hown, hts⟩ (rf_reckon l dC dI cI cZ m0 aMd aO1 aT2 aSh aMk aFa aDe aNe aBy aPi aNw aNs aBf ft (nI n) rs pd rn rr aW v (X v) (Y v) (fun w => nI (db_rk (K w))) (db_one1 K X Nm) (db_two2 K Y Nm) (R2) (db_inp in0 in1 in2) (Nm v) (K v) H.size (by omega) hk12 hk9 rfl (fun z => ⟨by have := (hwf v hvn).2.1; omega, db_one_x z⟩) (fun z => ⟨by have := (hwf v hvn).2.2.1; omega, db_two_y (Or.inl z)⟩) (fun z => db_two_d z) (fun z => db_one_c (Or.inr z))) (dc_V 2 hts tw_700 tw_702 tp_M_reckon tw_7 tw_703 rfl rfl (by decide +kernel) ⟨Nat.le_of_ble_eq_true rfl, Nat.le_of_ble_eq_true rfl⟩) (dw_preV (ci := 5) hG [0, 1, 2, 3, 6] [0, 1] rfl rfl (by decide) rfl rfl (q0 := 0) rfl) rfl rfl hl.1 rfl (lv_room (Nat.le_of_ble_eq_true rfl)) dM_runOne_210 ⟨Nat.le_refl _, Nat.le_refl _⟩) (fun r u H locs hp hG => ?_)
                      subst hp
                      have hG : dw_G (dC, dI) vwCl [(cI, .int), (cZ, .boolean)] A s.heap s [(aFa, .inl (cI, 768, .inl (Fa))), (aBf, .inl (cI, 24, .inl (bf2))), (m0, .inr (5, [.int (ft), .int (nI (n)), .ref aMd, .ref aO1, .ref aT2, .int (rs), .ref aSh, .ref aMk, .ref aFa, .ref aDe, .ref aNe, .ref aBy, .ref aPi, .int (pd), .ref aNw, .ref aNs, .ref aBf, .int (rn), .int (rr)])), (aMd, .inl (cI, 24, .inl (fun w => nI (db_rk (K w))))), (aO1, .inl (cI, 24, .inl (db_one1 K X Nm))), (aT2, .inl (cI, 24, .inl (db_two2 K Y Nm))), (aW, .inl (cI, 24, .inl (R2)))] H locs := hG
                      refine dw_is (ws' := [(aFa, .inl (cI, 768, .inl (Fa))), (aBf, .inl (cI, 24, .inl (bf2))), (m0, .inr (5, [.int (ft), .int (nI (n)), .ref aMd, .ref aO1, .ref aT2, .int (rs), .ref aSh, .ref aMk, .ref aFa, .ref aDe, .ref aNe, .ref aBy, .ref aPi, .int (pd), .ref aNw, .ref aNs, .ref aBf, .int (rn), .int (rr)])), (aMd, .inl (cI, 24, .inl (fun w => nI (db_rk (K w))))), (aO1, .inl (cI, 24, .inl (db_one1 K X Nm))), (aT2, .inl (cI, 24, .inl (db_two2 K Y Nm))), (aW, .inl (cI, 24, .inl (upd (R2) (v) (db_op (K v) (R2 (X v)) (R2 (Y v)) (Nm v) (db_inp in0 in1 in2)))))]) hx hb hG 6 0 rfl rfl (v) rfl (by omega) (by decide) dM_runOne_213 rfl (fun H locs hG => ?_)
                      refine lv_iinc (v := nI (v + 1)) (lv' := [(8, .int (nI (v + 1))), (0, .ref m0), (1, .ref aW), (2, .int (0)), (3, .int (nI (kr))), (4, .int (in0)), (5, .int (in1)), (6, .int (in2)), (7, .int (nI (i)))]) hx hb dM_runOne_214 hl (k := 8) rfl (dw_inc (v)) (by decide) rfl (fun ls hl => ?_)
                      refine lv_goto (tgt := 41) hx hb dM_runOne_217 (by decide) ?_
                      exact L41_ih (v + 1) (upd (R2) (v) (db_op (K v) (R2 (X v)) (R2 (Y v)) (Nm v) (db_inp in0 in1 in2))) (bf2) ls H locs (by omega) (by omega) (by rw [db_rs_of (first := i = 0) (bef := R1) (B := (fun _ => -1)) (K := K) (X := X) (Y := Y) (Nm := Nm) (fx := f.2) (inp := (db_inp in0 in1 in2)) (db_rv_O rfl hk13), hR2]; rfl) hb2 (lv_sub hl [1, 2, 3, 4, 5, 6, 7, 8, 0] rfl) (dw_perm hG [2, 3, 4, 5, 0, 1, 6] (by decide) rfl rfl)
                    replace h160 := (nI_eq (a := db_rk (K v)) (b := 12) (by omega) (by omega)).mp h160
                    have hk9 : K v = 9 := (db_rk12 hw1).mp h160
                    obtain ⟨d9, hd9, ed9⟩ := (hwf v hvn).2.2.2.2.2.2 hk9
                    refine lv_aload_n hx hb dM_runOne_163 rfl (lv_at hl 1 rfl) ?_
                    refine lv_iload hx hb dM_runOne_164 (lv_at hl 8 rfl) ?_
                    refine lv_aload_n hx hb dM_runOne_166 rfl (lv_at hl 0 rfl) ?_
                    refine dw_get hx hb hts inMc hown hG 0 3 rfl rfl (by decide) hw497 rfl rfl dM_runOne_167 ?_
                    refine lv_iload hx hb dM_runOne_170 (lv_at hl 8 rfl) ?_
                    refine dw_ia (x := nI (d9)) hx hb hG 2 0 rfl rfl (v) rfl (by omega) (by decide) ((db_one_c (Or.inl hk9)).trans ed9) dM_runOne_172 ?_
                    refine lv_if_ne (tgt := 181) hx hb dM_runOne_173 (by decide) (fun h173 => ?_) (fun h173 => ?_)
                    · skip
                      replace h173 : ¬ d9 = 0 := fun hq0 => h173 ((nI_eq (a := d9) (b := 0) (by omega) (by omega)).mpr hq0)
                      refine lv_aload_n hx hb dM_runOne_181 rfl (lv_at hl 0 rfl) ?_
                      refine dw_get hx hb hts inMc hown hG 0 3 rfl rfl (by decide) hw497 rfl rfl dM_runOne_182 ?_
                      refine lv_iload hx hb dM_runOne_185 (lv_at hl 8 rfl) ?_
                      refine dw_ia (x := nI (d9)) hx hb hG 2 0 rfl rfl (v) rfl (by omega) (by decide) ((db_one_c (Or.inl hk9)).trans ed9) dM_runOne_187 ?_
                      refine lv_iconst (v := 1) hx hb dM_runOne_188 (by decide) ?_
                      refine lv_icmp_ne (tgt := 197) hx hb dM_runOne_189 (by decide) (fun h189 => ?_) (fun h189 => ?_)
                      · skip
                        replace h189 : ¬ d9 = 1 := fun hq0 => h189 ((nI_eq (a := d9) (b := 1) (by omega) (by omega)).mpr hq0)
                        refine lv_iload hx hb dM_runOne_197 (lv_at hl 6 rfl) ?_
                        refine dw_is (ws' := [(m0, .inr (5, [.int (ft), .int (nI (n)), .ref aMd, .ref aO1, .ref aT2, .int (rs), .ref aSh, .ref aMk, .ref aFa, .ref aDe, .ref aNe, .ref aBy, .ref aPi, .int (pd), .ref aNw, .ref aNs, .ref aBf, .int (rn), .int (rr)])), (aMd, .inl (cI, 24, .inl (fun w => nI (db_rk (K w))))), (aO1, .inl (cI, 24, .inl (db_one1 K X Nm))), (aT2, .inl (cI, 24, .inl (db_two2 K Y Nm))), (aFa, .inl (cI, 768, .inl (Fa))), (aBf, .inl (cI, 24, .inl (bf2))), (aW, .inl (cI, 24, .inl (upd (R2) (v) (in2))))]) hx hb hG 6 0 rfl rfl (v) rfl (by omega) (by decide) dM_runOne_199 rfl (fun H locs hG => ?_)
                        refine lv_goto (tgt := 214) hx hb dM_runOne_200 (by decide) ?_
                        refine lv_iinc (v := nI (v + 1)) (lv' := [(8, .int (nI (v + 1))), (0, .ref m0), (1, .ref aW), (2, .int (0)), (3, .int (nI (kr))), (4, .int (in0)), (5, .int (in1)), (6, .int (in2)), (7, .int (nI (i)))]) hx hb dM_runOne_214 hl (k := 8) rfl (dw_inc (v)) (by decide) rfl (fun ls hl => ?_)
                        refine lv_goto (tgt := 41) hx hb dM_runOne_217 (by decide) ?_
                        exact L41_ih (v + 1) (upd (R2) (v) (in2)) (bf2) ls H locs (by omega) (by omega) (by rw [db_rs_of (first := i = 0) (bef := R1) (B := (fun _ => -1)) (K := K) (X := X) (Y := Y) (Nm := Nm) (fx := f.2) (inp := (db_inp in0 in1 in2)) (by rw [← db_rv_O rfl hk13, hk9, ed9]; exact Eq.trans (show in2 = db_inp in0 in1 in2 d9 from ((if_neg h173).trans (if_neg h189)).symm) (db_op9 _ _ (d := d9) (by omega) (db_inp in0 in1 in2))), hR2]; rfl) hb2 (lv_sub hl [1, 2, 3, 4, 5, 6, 7, 8, 0] rfl) hG
                      replace h189 := (nI_eq (a := d9) (b := 1) (by omega) (by omega)).mp h189
                      refine lv_iload hx hb dM_runOne_192 (lv_at hl 5 rfl) ?_
                      refine lv_goto (tgt := 199) hx hb dM_runOne_194 (by decide) ?_
                      refine dw_is (ws' := [(m0, .inr (5, [.int (ft), .int (nI (n)), .ref aMd, .ref aO1, .ref aT2, .int (rs), .ref aSh, .ref aMk, .ref aFa, .ref aDe, .ref aNe, .ref aBy, .ref aPi, .int (pd), .ref aNw, .ref aNs, .ref aBf, .int (rn), .int (rr)])), (aMd, .inl (cI, 24, .inl (fun w => nI (db_rk (K w))))), (aO1, .inl (cI, 24, .inl (db_one1 K X Nm))), (aT2, .inl (cI, 24, .inl (db_two2 K Y Nm))), (aFa, .inl (cI, 768, .inl (Fa))), (aBf, .inl (cI, 24, .inl (bf2))), (aW, .inl (cI, 24, .inl (upd (R2) (v) (in1))))]) hx hb hG 6 0 rfl rfl (v) rfl (by omega) (by decide) dM_runOne_199 rfl (fun H locs hG => ?_)
                      refine lv_goto (tgt := 214) hx hb dM_runOne_200 (by decide) ?_
                      refine lv_iinc (v := nI (v + 1)) (lv' := [(8, .int (nI (v + 1))), (0, .ref m0), (1, .ref aW), (2, .int (0)), (3, .int (nI (kr))), (4, .int (in0)), (5, .int (in1)), (6, .int (in2)), (7, .int (nI (i)))]) hx hb dM_runOne_214 hl (k := 8) rfl (dw_inc (v)) (by decide) rfl (fun ls hl => ?_)
                      refine lv_goto (tgt := 41) hx hb dM_runOne_217 (by decide) ?_
                      exact L41_ih (v + 1) (upd (R2) (v) (in1)) (bf2) ls H locs (by omega) (by omega) (by rw [db_rs_of (first := i = 0) (bef := R1) (B := (fun _ => -1)) (K := K) (X := X) (Y := Y) (Nm := Nm) (fx := f.2) (inp := (db_inp in0 in1 in2)) (by rw [← db_rv_O rfl hk13, hk9, ed9]; exact Eq.trans (show in1 = db_inp in0 in1 in2 d9 from ((if_neg h173).trans (if_pos h189)).symm) (db_op9 _ _ (d := d9) (by omega) (db_inp in0 in1 in2))), hR2]; rfl) hb2 (lv_sub hl [1, 2, 3, 4, 5, 6, 7, 8, 0] rfl) hG
                    replace h173 := (nI_eq (a := d9) (b := 0) (by omega) (by omega)).mp h173
                    refine lv_iload hx hb dM_runOne_176 (lv_at hl 4 rfl) ?_
                    refine lv_goto (tgt := 199) hx hb dM_runOne_178 (by decide) ?_
                    refine dw_is (ws' := [(m0, .inr (5, [.int (ft), .int (nI (n)), .ref aMd, .ref aO1, .ref aT2, .int (rs), .ref aSh, .ref aMk, .ref aFa, .ref aDe, .ref aNe, .ref aBy, .ref aPi, .int (pd), .ref aNw, .ref aNs, .ref aBf, .int (rn), .int (rr)])), (aMd, .inl (cI, 24, .inl (fun w => nI (db_rk (K w))))), (aO1, .inl (cI, 24, .inl (db_one1 K X Nm))), (aT2, .inl (cI, 24, .inl (db_two2 K Y Nm))), (aFa, .inl (cI, 768, .inl (Fa))), (aBf, .inl (cI, 24, .inl (bf2))), (aW, .inl (cI, 24, .inl (upd (R2) (v) (in0))))]) hx hb hG 6 0 rfl rfl (v) rfl (by omega) (by decide) dM_runOne_199 rfl (fun H locs hG => ?_)
                    refine lv_goto (tgt := 214) hx hb dM_runOne_200 (by decide) ?_
                    refine lv_iinc (v := nI (v + 1)) (lv' := [(8, .int (nI (v + 1))), (0, .ref m0), (1, .ref aW), (2, .int (0)), (3, .int (nI (kr))), (4, .int (in0)), (5, .int (in1)), (6, .int (in2)), (7, .int (nI (i)))]) hx hb dM_runOne_214 hl (k := 8) rfl (dw_inc (v)) (by decide) rfl (fun ls hl => ?_)
                    refine lv_goto (tgt := 41) hx hb dM_runOne_217 (by decide) ?_
                    exact L41_ih (v + 1) (upd (R2) (v) (in0)) (bf2) ls H locs (by omega) (by omega) (by rw [db_rs_of (first := i = 0) (bef := R1) (B := (fun _ => -1)) (K := K) (X := X) (Y := Y) (Nm := Nm) (fx := f.2) (inp := (db_inp in0 in1 in2)) (by rw [← db_rv_O rfl hk13, hk9, ed9]; exact Eq.trans (show in0 = db_inp in0 in1 in2 d9 from (if_pos h173).symm) (db_op9 _ _ (d := d9) (by omega) (db_inp in0 in1 in2))), hR2]; rfl) hb2 (lv_sub hl [1, 2, 3, 4, 5, 6, 7, 8, 0] rfl) hG
                  replace h112 := (nI_eq (a := db_rk (K v)) (b := 11) (by omega) (by omega)).mp h112
                  have hk13 : K v = 13 := (db_rk13 hw1).mp h112
                  have hxv := (hwf v hvn).2.1
                  have hyv := (hwf v hvn).2.2.1
                  refine lv_aload_n hx hb dM_runOne_115 rfl (lv_at hl 1 rfl) ?_
                  refine lv_iload hx hb dM_runOne_116 (lv_at hl 8 rfl) ?_
                  refine lv_iload hx hb dM_runOne_118 (lv_at hl 7 rfl) ?_
                  refine lv_if_ne (tgt := 135) hx hb dM_runOne_120 (by decide) (fun h120 => ?_) (fun h120 => ?_)
                  · skip
                    replace h120 : ¬ i = 0 := fun hq0 => h120 ((nI_eq (a := i) (b := 0) (by omega) (by omega)).mpr hq0)
                    refine lv_aload_n hx hb dM_runOne_135 rfl (lv_at hl 0 rfl) ?_
                    refine dw_get hx hb hts inMc hown hG 0 16 rfl rfl (by decide) hw510 rfl rfl dM_runOne_136 ?_
                    refine lv_aload_n hx hb dM_runOne_139 rfl (lv_at hl 0 rfl) ?_
                    refine dw_get hx hb hts inMc hown hG 0 4 rfl rfl (by decide) hw498 rfl rfl dM_runOne_140 ?_
                    refine lv_iload hx hb dM_runOne_143 (lv_at hl 8 rfl) ?_
                    refine dw_ia (x := nI (Y v)) hx hb hG 3 0 rfl rfl (v) rfl (by omega) (by decide) (db_two_y (by omega)) dM_runOne_145 ?_
                    refine dw_ia (x := (bf2) (Y v)) hx hb hG 5 0 rfl rfl (Y v) rfl (by omega) (by decide) rfl dM_runOne_146 ?_
                    refine dw_is (ws' := [(m0, .inr (5, [.int (ft), .int (nI (n)), .ref aMd, .ref aO1, .ref aT2, .int (rs), .ref aSh, .ref aMk, .ref aFa, .ref aDe, .ref aNe, .ref aBy, .ref aPi, .int (pd), .ref aNw, .ref aNs, .ref aBf, .int (rn), .int (rr)])), (aMd, .inl (cI, 24, .inl (fun w => nI (db_rk (K w))))), (aO1, .inl (cI, 24, .inl (db_one1 K X Nm))), (aT2, .inl (cI, 24, .inl (db_two2 K Y Nm))), (aFa, .inl (cI, 768, .inl (Fa))), (aBf, .inl (cI, 24, .inl (bf2))), (aW, .inl (cI, 24, .inl (upd (R2) (v) ((bf2) (Y v)))))]) hx hb hG 6 0 rfl rfl (v) rfl (by omega) (by decide) dM_runOne_147 rfl (fun H locs hG => ?_)
                    refine lv_goto (tgt := 214) hx hb dM_runOne_148 (by decide) ?_
                    refine lv_iinc (v := nI (v + 1)) (lv' := [(8, .int (nI (v + 1))), (0, .ref m0), (1, .ref aW), (2, .int (0)), (3, .int (nI (kr))), (4, .int (in0)), (5, .int (in1)), (6, .int (in2)), (7, .int (nI (i)))]) hx hb dM_runOne_214 hl (k := 8) rfl (dw_inc (v)) (by decide) rfl (fun ls hl => ?_)
                    refine lv_goto (tgt := 41) hx hb dM_runOne_217 (by decide) ?_
                    exact L41_ih (v + 1) (upd (R2) (v) ((bf2) (Y v))) (bf2) ls H locs (by omega) (by omega) (by rw [db_rs_of (first := i = 0) (bef := R1) (B := (fun _ => -1)) (K := K) (X := X) (Y := Y) (Nm := Nm) (fx := f.2) (inp := (db_inp in0 in1 in2)) ((hb2 (Y v) (hwf v hvn).2.2.1).trans (db_rv_L2 rfl hk13 h120)), hR2]; rfl) hb2 (lv_sub hl [1, 2, 3, 4, 5, 6, 7, 8, 0] rfl) hG
                  replace h120 := (nI_eq (a := i) (b := 0) (by omega) (by omega)).mp h120
                  refine lv_aload_n hx hb dM_runOne_123 rfl (lv_at hl 1 rfl) ?_
                  refine lv_aload_n hx hb dM_runOne_124 rfl (lv_at hl 0 rfl) ?_
                  refine dw_get hx hb hts inMc hown hG 0 3 rfl rfl (by decide) hw497 rfl rfl dM_runOne_125 ?_
                  refine lv_iload hx hb dM_runOne_128 (lv_at hl 8 rfl) ?_
                  refine dw_ia (x := nI (X v)) hx hb hG 2 0 rfl rfl (v) rfl (by omega) (by decide) (db_one_x (by unfold db_ux; omega)) dM_runOne_130 ?_
                  refine dw_ia (x := (R2) (X v)) hx hb hG 6 0 rfl rfl (X v) rfl (by omega) (by decide) rfl dM_runOne_131 ?_
                  refine lv_goto (tgt := 147) hx hb dM_runOne_132 (by decide) ?_
                  refine dw_is (ws' := [(m0, .inr (5, [.int (ft), .int (nI (n)), .ref aMd, .ref aO1, .ref aT2, .int (rs), .ref aSh, .ref aMk, .ref aFa, .ref aDe, .ref aNe, .ref aBy, .ref aPi, .int (pd), .ref aNw, .ref aNs, .ref aBf, .int (rn), .int (rr)])), (aMd, .inl (cI, 24, .inl (fun w => nI (db_rk (K w))))), (aO1, .inl (cI, 24, .inl (db_one1 K X Nm))), (aT2, .inl (cI, 24, .inl (db_two2 K Y Nm))), (aFa, .inl (cI, 768, .inl (Fa))), (aBf, .inl (cI, 24, .inl (bf2))), (aW, .inl (cI, 24, .inl (upd (R2) (v) ((R2) (X v)))))]) hx hb hG 6 0 rfl rfl (v) rfl (by omega) (by decide) dM_runOne_147 rfl (fun H locs hG => ?_)
                  refine lv_goto (tgt := 214) hx hb dM_runOne_148 (by decide) ?_
                  refine lv_iinc (v := nI (v + 1)) (lv' := [(8, .int (nI (v + 1))), (0, .ref m0), (1, .ref aW), (2, .int (0)), (3, .int (nI (kr))), (4, .int (in0)), (5, .int (in1)), (6, .int (in2)), (7, .int (nI (i)))]) hx hb dM_runOne_214 hl (k := 8) rfl (dw_inc (v)) (by decide) rfl (fun ls hl => ?_)
                  refine lv_goto (tgt := 41) hx hb dM_runOne_217 (by decide) ?_
                  exact L41_ih (v + 1) (upd (R2) (v) ((R2) (X v))) (bf2) ls H locs (by omega) (by omega) (by rw [db_rs_of (first := i = 0) (bef := R1) (B := (fun _ => -1)) (K := K) (X := X) (Y := Y) (Nm := Nm) (fx := f.2) (inp := (db_inp in0 in1 in2)) (db_rv_L1 rfl hk13 h120), hR2]; rfl) hb2 (lv_sub hl [1, 2, 3, 4, 5, 6, 7, 8, 0] rfl) hG
                replace h51 : ¬ 0 = 0 := fun hq0 => h51 ((nI_eq (a := 0) (b := 0) (by omega) (by omega)).mpr hq0)
                (exfalso; omega)
            exact L41 _ (0) (R1) (bf1) ls H locs (Nat.lt_succ_self _) (Nat.zero_le _) rfl (fun w hw => hbf w (by omega)) (lv_sub hl [1, 2, 3, 4, 5, 6, 7, 8, 0] rfl) hG
          replace h18 : ¬ n ≤ j := fun hq0 => h18 ((nI_leI (a := n) (b := j) (by omega) (by omega)).mpr hq0)
          refine lv_aload_n hx hb dM_runOne_21 rfl (lv_at hl 0 rfl) ?_
          refine dw_get hx hb hts inMc hown hG 0 16 rfl rfl (by decide) hw510 rfl rfl dM_runOne_22 ?_
          refine lv_iload hx hb dM_runOne_25 (lv_at hl 8 rfl) ?_
          refine lv_aload_n hx hb dM_runOne_27 rfl (lv_at hl 1 rfl) ?_
          refine lv_iload hx hb dM_runOne_28 (lv_at hl 8 rfl) ?_
          refine dw_ia (x := (R1) (j)) hx hb hG 6 0 rfl rfl (j) rfl (by omega) (by decide) rfl dM_runOne_30 ?_
          refine dw_is (ws' := [(m0, .inr (5, [.int (ft), .int (nI (n)), .ref aMd, .ref aO1, .ref aT2, .int (rs), .ref aSh, .ref aMk, .ref aFa, .ref aDe, .ref aNe, .ref aBy, .ref aPi, .int (pd), .ref aNw, .ref aNs, .ref aBf, .int (rn), .int (rr)])), (aMd, .inl (cI, 24, .inl (fun w => nI (db_rk (K w))))), (aO1, .inl (cI, 24, .inl (db_one1 K X Nm))), (aT2, .inl (cI, 24, .inl (db_two2 K Y Nm))), (aFa, .inl (cI, 768, .inl (Fa))), (aBf, .inl (cI, 24, .inl (upd (bf1) (j) ((R1) (j))))), (aW, .inl (cI, 24, .inl (R1)))]) hx hb hG 5 0 rfl rfl (j) rfl (by omega) (by decide) dM_runOne_31 rfl (fun H locs hG => ?_)
          refine lv_iinc (v := nI (j + 1)) (lv' := [(8, .int (nI (j + 1))), (0, .ref m0), (1, .ref aW), (2, .int (0)), (3, .int (nI (kr))), (4, .int (in0)), (5, .int (in1)), (6, .int (in2)), (7, .int (nI (i)))]) hx hb dM_runOne_32 hl (k := 8) rfl (dw_inc (j)) (by decide) rfl (fun ls hl => ?_)
          refine lv_goto (tgt := 12) hx hb dM_runOne_35 (by decide) ?_
          exact L12_ih (j + 1) (upd (bf1) (j) ((R1) (j))) ls H locs (by omega) (by omega) (fun w hw => (Decidable.em (w = j)).elim (fun e => by rw [e, pk_us]) (fun e => by rw [pk_un e]; exact hbf w (by omega))) (lv_sub hl [1, 2, 3, 4, 5, 6, 7, 8, 0] rfl) hG
      exact L12 _ (0) (bf) ls H locs (Nat.lt_succ_self _) (Nat.zero_le _) (fun w hw => by omega) (lv_sub hl [1, 2, 3, 4, 5, 6, 7, 8, 0] rfl) hG
  exact L3 _ (0) (Rd) (Bef) ls H locs (Nat.lt_succ_self _) (Nat.zero_le _) rfl (lv_sub hl [1, 2, 3, 4, 5, 6, 7, 0] rfl) hG

set_option maxRecDepth 100000 in
set_option maxHeartbeats 4000000 in
theorem rf_runOne1 (l : Launch) (dC : Nat → ClassId) (dI : Nat → Nat → Nat) (cI cZ : ClassId) (m0 aMd aO1 aT2 aSh aMk aFa aDe aNe aBy aPi aNw aNs aBf n : Nat) (ft rs pd rn rr : Int32) (aW kr : Nat) (K X Y : Nat → Nat) (Nm : Nat → Int32) (f : db_Fs) (Fa Bef Rd : Nat → Int32) (in0 in1 in2 : Int32) (Bw : Nat → Int32) (sz : Nat) (hn : n ≤ 24) (hkr : kr ≤ 50) (hwf : db_wf n K X Y Nm) (hfa : db_reps n Fa f) (haps : db_aps n f) (hB : ∀ v, v < n → Bw v = -1 ∨ Bw v = -2 ∨ ∃ x, x < n ∧ Bw v = nI x) : Met l yM_runOne wsM_runOne { frames := 1, cells := 0, slots := 0, locals := 40 } (va_Pc [.ref m0, .ref aW, .int (1), .int (nI (kr)), .int (in0), .int (in1), .int (in2)] (dw_pre (dC, dI) vwCl [(m0, .inr (5, [.int (ft), .int (nI (n)), .ref aMd, .ref aO1, .ref aT2, .int (rs), .ref aSh, .ref aMk, .ref aFa, .ref aDe, .ref aNe, .ref aBy, .ref aPi, .int (pd), .ref aNw, .ref aNs, .ref aBf, .int (rn), .int (rr)])), (aMd, .inl (cI, 24, .inl (fun w => nI (db_rk (K w))))), (aO1, .inl (cI, 24, .inl (db_one1 K X Nm))), (aT2, .inl (cI, 24, .inl (db_two2 K Y Nm))), (aFa, .inl (cI, 768, .inl (Fa))), (aBf, .inl (cI, 24, .inl (Bef))), (aW, .inl (cI, 24, .inl (Rd))), (aBy, .inl (cI, 24, .inl (Bw)))] [(cI, .int), (cZ, .boolean)] sz)) (va_Qv (fun (u : (Nat → Int32) × (Nat → Int32)) => u.1 = db_course n K X Y Nm Bw f.2 (db_inp in0 in1 in2) kr Rd) (fun u t => dw_post (dC, dI) vwCl [(m0, .inr (5, [.int (ft), .int (nI (n)), .ref aMd, .ref aO1, .ref aT2, .int (rs), .ref aSh, .ref aMk, .ref aFa, .ref aDe, .ref aNe, .ref aBy, .ref aPi, .int (pd), .ref aNw, .ref aNs, .ref aBf, .int (rn), .int (rr)])), (aMd, .inl (cI, 24, .inl (fun w => nI (db_rk (K w))))), (aO1, .inl (cI, 24, .inl (db_one1 K X Nm))), (aT2, .inl (cI, 24, .inl (db_two2 K Y Nm))), (aFa, .inl (cI, 768, .inl (Fa))), (aBf, .inl (cI, 24, .inl (u.2))), (aW, .inl (cI, 24, .inl (u.1))), (aBy, .inl (cI, 24, .inl (Bw)))] [(cI, .int), (cZ, .boolean)] (va_A [(m0, .inr (5, [.int (ft), .int (nI (n)), .ref aMd, .ref aO1, .ref aT2, .int (rs), .ref aSh, .ref aMk, .ref aFa, .ref aDe, .ref aNe, .ref aBy, .ref aPi, .int (pd), .ref aNw, .ref aNs, .ref aBf, .int (rn), .int (rr)])), (aMd, .inl (cI, 24, .inl (fun w => nI (db_rk (K w))))), (aO1, .inl (cI, 24, .inl (db_one1 K X Nm))), (aT2, .inl (cI, 24, .inl (db_two2 K Y Nm))), (aFa, .inl (cI, 768, .inl (Fa))), (aBf, .inl (cI, 24, .inl (Bef))), (aW, .inl (cI, 24, .inl (Rd))), (aBy, .inl (cI, 24, .inl (Bw)))] sz) t) (va_A [(m0, .inr (5, [.int (ft), .int (nI (n)), .ref aMd, .ref aO1, .ref aT2, .int (rs), .ref aSh, .ref aMk, .ref aFa, .ref aDe, .ref aNe, .ref aBy, .ref aPi, .int (pd), .ref aNw, .ref aNs, .ref aBf, .int (rn), .int (rr)])), (aMd, .inl (cI, 24, .inl (fun w => nI (db_rk (K w))))), (aO1, .inl (cI, 24, .inl (db_one1 K X Nm))), (aT2, .inl (cI, 24, .inl (db_two2 K Y Nm))), (aFa, .inl (cI, 768, .inl (Fa))), (aBf, .inl (cI, 24, .inl (Bef))), (aW, .inl (cI, 24, .inl (Rd))), (aBy, .inl (cI, 24, .inl (Bw)))] sz)) 0 0 (va_A [(m0, .inr (5, [.int (ft), .int (nI (n)), .ref aMd, .ref aO1, .ref aT2, .int (rs), .ref aSh, .ref aMk, .ref aFa, .ref aDe, .ref aNe, .ref aBy, .ref aPi, .int (pd), .ref aNw, .ref aNs, .ref aBf, .int (rn), .int (rr)])), (aMd, .inl (cI, 24, .inl (fun w => nI (db_rk (K w))))), (aO1, .inl (cI, 24, .inl (db_one1 K X Nm))), (aT2, .inl (cI, 24, .inl (db_two2 K Y Nm))), (aFa, .inl (cI, 768, .inl (Fa))), (aBf, .inl (cI, 24, .inl (Bef))), (aW, .inl (cI, 24, .inl (Rd))), (aBy, .inl (cI, 24, .inl (Bw)))] sz) := by
  refine Met.ofW (cc := cM_runOne) (maxL := 9) (ret := none) (by decide) rfl ?_
  intro p e s m args below meth c s₁ B hml hv0
  have hx := B.exec
  have hb := B.bytes
  have hr := B.returns
  have hts := atoms_spec (ws := wsM_runOne) B.pre
  have hown : s.vm.findClass RM = some m.cls := findClass_of_methodNamed B.named
  have hlocks := B.notSynchronized
  obtain ⟨rfl, hsz, hG⟩ := dw_enter hv0
  generalize va_A [(m0, .inr (5, [.int (ft), .int (nI (n)), .ref aMd, .ref aO1, .ref aT2, .int (rs), .ref aSh, .ref aMk, .ref aFa, .ref aDe, .ref aNe, .ref aBy, .ref aPi, .int (pd), .ref aNw, .ref aNs, .ref aBf, .int (rn), .int (rr)])), (aMd, .inl (cI, 24, .inl (fun w => nI (db_rk (K w))))), (aO1, .inl (cI, 24, .inl (db_one1 K X Nm))), (aT2, .inl (cI, 24, .inl (db_two2 K Y Nm))), (aFa, .inl (cI, 768, .inl (Fa))), (aBf, .inl (cI, 24, .inl (Bef))), (aW, .inl (cI, 24, .inl (Rd))), (aBy, .inl (cI, 24, .inl (Bw)))] sz = A at hG ⊢
  have hl := lv_entry ([.ref m0, .ref aW, .int (1), .int (nI (kr)), .int (in0), .int (in1), .int (in2)]) (n := 9) (Nat.le_of_ble_eq_true rfl)
  rw [lg_entry_eq]
  generalize (lg_sl ([.ref m0, .ref aW, .int (1), .int (nI (kr)), .int (in0), .int (in1), .int (in2)]) ++ List.replicate (9 - (lg_sl ([.ref m0, .ref aW, .int (1), .int (nI (kr)), .int (in0), .int (in1), .int (in2)])).length) Slot.unset).toArray = ls at hl ⊢
  have hl : lv_has ls 9 [(0, .ref m0), (1, .ref aW), (2, .int (1)), (3, .int (nI (kr))), (4, .int (in0)), (5, .int (in1)), (6, .int (in2))] := hl
  have hw495 := hts _ (List.mem_cons_of_mem _ tw_495)
  have hw505 := hts _ (List.mem_cons_of_mem _ tw_505)
  have hw496 := hts _ (List.mem_cons_of_mem _ tw_496)
  have hw497 := hts _ (List.mem_cons_of_mem _ tw_497)
  have hw510 := hts _ (List.mem_cons_of_mem _ tw_510)
  have hw498 := hts _ (List.mem_cons_of_mem _ tw_498)
  refine dw_Q (fun Q hQ => ?_)
  suffices hgo : ∀ (H : Heap) (locs : List Loc), dw_G (dC, dI) vwCl [(cI, .int), (cZ, .boolean)] A s.heap s [(m0, .inr (5, [.int (ft), .int (nI (n)), .ref aMd, .ref aO1, .ref aT2, .int (rs), .ref aSh, .ref aMk, .ref aFa, .ref aDe, .ref aNe, .ref aBy, .ref aPi, .int (pd), .ref aNw, .ref aNs, .ref aBf, .int (rn), .int (rr)])), (aMd, .inl (cI, 24, .inl (fun w => nI (db_rk (K w))))), (aO1, .inl (cI, 24, .inl (db_one1 K X Nm))), (aT2, .inl (cI, 24, .inl (db_two2 K Y Nm))), (aFa, .inl (cI, 768, .inl (Fa))), (aBf, .inl (cI, 24, .inl (Bef))), (aW, .inl (cI, 24, .inl (Rd))), (aBy, .inl (cI, 24, .inl (Bw)))] H locs → W p l e (headSpec wsM_runOne { frames := 1, cells := 0, slots := 0, locals := 40 }).room s m [.ref m0, .ref aW, .int (1), .int (nI (kr)), .int (in0), .int (in1), .int (in2)].toArray below meth c H locs 0 0 Q (F0 m 0 ls []) from hgo _ _ hG
  clear hG
  intro H locs hG
  refine lv_iconst (v := 0) hx hb dM_runOne_0 (by decide) ?_
  refine lv_istore (lv' := [(7, .int (0)), (0, .ref m0), (1, .ref aW), (2, .int (1)), (3, .int (nI (kr))), (4, .int (in0)), (5, .int (in1)), (6, .int (in2))]) hx hb dM_runOne_1 hl (by decide) rfl (fun ls hl => ?_)
  have L3 : ∀ (zz : Nat) (i : Nat) (R1 : Nat → Int32) (bf : Nat → Int32) (ls : Array Slot) (H : Heap) (locs : List Loc), kr - i < zz → i ≤ kr → R1 = db_course n K X Y Nm Bw f.2 (db_inp in0 in1 in2) i Rd → lv_has ls 9 [(0, .ref m0), (1, .ref aW), (2, .int (1)), (3, .int (nI (kr))), (4, .int (in0)), (5, .int (in1)), (6, .int (in2)), (7, .int (nI (i)))] → dw_G (dC, dI) vwCl [(cI, .int), (cZ, .boolean)] A s.heap s [(m0, .inr (5, [.int (ft), .int (nI (n)), .ref aMd, .ref aO1, .ref aT2, .int (rs), .ref aSh, .ref aMk, .ref aFa, .ref aDe, .ref aNe, .ref aBy, .ref aPi, .int (pd), .ref aNw, .ref aNs, .ref aBf, .int (rn), .int (rr)])), (aMd, .inl (cI, 24, .inl (fun w => nI (db_rk (K w))))), (aO1, .inl (cI, 24, .inl (db_one1 K X Nm))), (aT2, .inl (cI, 24, .inl (db_two2 K Y Nm))), (aFa, .inl (cI, 768, .inl (Fa))), (aBf, .inl (cI, 24, .inl (bf))), (aW, .inl (cI, 24, .inl (R1))), (aBy, .inl (cI, 24, .inl (Bw)))] H locs → W p l e (headSpec wsM_runOne { frames := 1, cells := 0, slots := 0, locals := 40 }).room s m [.ref m0, .ref aW, .int (1), .int (nI (kr)), .int (in0), .int (in1), .int (in2)].toArray below meth c H locs 0 0 Q (F0 m 3 ls []) := by
    intro zz
    induction zz with
    | zero => intro i R1 bf ls H locs hz; exact absurd hz (Nat.not_lt_zero _)
    | succ zz L3_ih =>
      intro i R1 bf ls H locs hz hi9 hR1 hl hG
      refine lv_iload hx hb dM_runOne_3 (lv_at hl 7 rfl) ?_
      refine lv_iload_n hx hb dM_runOne_5 rfl (lv_at hl 3 rfl) ?_
      refine lv_icmp_ge (tgt := 226) hx hb dM_runOne_6 (by decide) (fun h6 => ?_) (fun h6 => ?_)
      · skip
        replace h6 := (nI_leI (a := kr) (b := i) (by omega) (by omega)).mp h6
        subst hQ
        exact dw_vret hx hb hr hG ((R1, bf)) rfl (by show R1 = _; rw [hR1, show i = kr by omega]) dM_runOne_226 hlocks
      replace h6 : ¬ kr ≤ i := fun hq0 => h6 ((nI_leI (a := kr) (b := i) (by omega) (by omega)).mpr hq0)
      refine lv_iconst (v := 0) hx hb dM_runOne_9 (by decide) ?_
      refine lv_istore (lv' := [(8, .int (0)), (0, .ref m0), (1, .ref aW), (2, .int (1)), (3, .int (nI (kr))), (4, .int (in0)), (5, .int (in1)), (6, .int (in2)), (7, .int (nI (i)))]) hx hb dM_runOne_10 hl (by decide) rfl (fun ls hl => ?_)
      have L12 : ∀ (zz : Nat) (j : Nat) (bf1 : Nat → Int32) (ls : Array Slot) (H : Heap) (locs : List Loc), n - j < zz → j ≤ n → (∀ w, w < j → bf1 w = R1 w) → lv_has ls 9 [(0, .ref m0), (1, .ref aW), (2, .int (1)), (3, .int (nI (kr))), (4, .int (in0)), (5, .int (in1)), (6, .int (in2)), (7, .int (nI (i))), (8, .int (nI (j)))] → dw_G (dC, dI) vwCl [(cI, .int), (cZ, .boolean)] A s.heap s [(m0, .inr (5, [.int (ft), .int (nI (n)), .ref aMd, .ref aO1, .ref aT2, .int (rs), .ref aSh, .ref aMk, .ref aFa, .ref aDe, .ref aNe, .ref aBy, .ref aPi, .int (pd), .ref aNw, .ref aNs, .ref aBf, .int (rn), .int (rr)])), (aMd, .inl (cI, 24, .inl (fun w => nI (db_rk (K w))))), (aO1, .inl (cI, 24, .inl (db_one1 K X Nm))), (aT2, .inl (cI, 24, .inl (db_two2 K Y Nm))), (aFa, .inl (cI, 768, .inl (Fa))), (aBf, .inl (cI, 24, .inl (bf1))), (aW, .inl (cI, 24, .inl (R1))), (aBy, .inl (cI, 24, .inl (Bw)))] H locs → W p l e (headSpec wsM_runOne { frames := 1, cells := 0, slots := 0, locals := 40 }).room s m [.ref m0, .ref aW, .int (1), .int (nI (kr)), .int (in0), .int (in1), .int (in2)].toArray below meth c H locs 0 0 Q (F0 m 12 ls []) := by
        intro zz
        induction zz with
        | zero => intro j bf1 ls H locs hz; exact absurd hz (Nat.not_lt_zero _)
        | succ zz L12_ih =>
          intro j bf1 ls H locs hz hj9 hbf hl hG
          refine lv_iload hx hb dM_runOne_12 (lv_at hl 8 rfl) ?_
          refine lv_aload_n hx hb dM_runOne_14 rfl (lv_at hl 0 rfl) ?_
          refine dw_get hx hb hts inMc hown hG 0 1 rfl rfl (by decide) hw495 rfl rfl dM_runOne_15 ?_
          refine lv_icmp_ge (tgt := 38) hx hb dM_runOne_18 (by decide) (fun h18 => ?_) (fun h18 => ?_)
          · skip
            replace h18 := (nI_leI (a := n) (b := j) (by omega) (by omega)).mp h18
            refine lv_iconst (v := 0) hx hb dM_runOne_38 (by decide) ?_
            refine lv_istore (lv' := [(8, .int (0)), (0, .ref m0), (1, .ref aW), (2, .int (1)), (3, .int (nI (kr))), (4, .int (in0)), (5, .int (in1)), (6, .int (in2)), (7, .int (nI (i)))]) hx hb dM_runOne_39 hl (by decide) rfl (fun ls hl => ?_)
            have L41 : ∀ (zz : Nat) (v : Nat) (R2 : Nat → Int32) (bf2 : Nat → Int32) (ls : Array Slot) (H : Heap) (locs : List Loc), n - v < zz → v ≤ n → R2 = db_it (db_rs K X Y Nm Bw f.2 (i = 0) R1 (db_inp in0 in1 in2)) v R1 → (∀ w, w < n → bf2 w = R1 w) → lv_has ls 9 [(0, .ref m0), (1, .ref aW), (2, .int (1)), (3, .int (nI (kr))), (4, .int (in0)), (5, .int (in1)), (6, .int (in2)), (7, .int (nI (i))), (8, .int (nI (v)))] → dw_G (dC, dI) vwCl [(cI, .int), (cZ, .boolean)] A s.heap s [(m0, .inr (5, [.int (ft), .int (nI (n)), .ref aMd, .ref aO1, .ref aT2, .int (rs), .ref aSh, .ref aMk, .ref aFa, .ref aDe, .ref aNe, .ref aBy, .ref aPi, .int (pd), .ref aNw, .ref aNs, .ref aBf, .int (rn), .int (rr)])), (aMd, .inl (cI, 24, .inl (fun w => nI (db_rk (K w))))), (aO1, .inl (cI, 24, .inl (db_one1 K X Nm))), (aT2, .inl (cI, 24, .inl (db_two2 K Y Nm))), (aFa, .inl (cI, 768, .inl (Fa))), (aBf, .inl (cI, 24, .inl (bf2))), (aW, .inl (cI, 24, .inl (R2))), (aBy, .inl (cI, 24, .inl (Bw)))] H locs → W p l e (headSpec wsM_runOne { frames := 1, cells := 0, slots := 0, locals := 40 }).room s m [.ref m0, .ref aW, .int (1), .int (nI (kr)), .int (in0), .int (in1), .int (in2)].toArray below meth c H locs 0 0 Q (F0 m 41 ls []) := by
              intro zz
              induction zz with
              | zero => intro v R2 bf2 ls H locs hz; exact absurd hz (Nat.not_lt_zero _)
              | succ zz L41_ih =>
                intro v R2 bf2 ls H locs hz hv9 hR2 hb2 hl hG
                refine lv_iload hx hb dM_runOne_41 (lv_at hl 8 rfl) ?_
                refine lv_aload_n hx hb dM_runOne_43 rfl (lv_at hl 0 rfl) ?_
                refine dw_get hx hb hts inMc hown hG 0 1 rfl rfl (by decide) hw495 rfl rfl dM_runOne_44 ?_
                refine lv_icmp_ge (tgt := 220) hx hb dM_runOne_47 (by decide) (fun h47 => ?_) (fun h47 => ?_)
                · skip
                  replace h47 := (nI_leI (a := n) (b := v) (by omega) (by omega)).mp h47
                  refine lv_iinc (v := nI (i + 1)) (lv' := [(7, .int (nI (i + 1))), (0, .ref m0), (1, .ref aW), (2, .int (1)), (3, .int (nI (kr))), (4, .int (in0)), (5, .int (in1)), (6, .int (in2)), (8, .int (nI (v)))]) hx hb dM_runOne_220 hl (k := 7) rfl (dw_inc (i)) (by decide) rfl (fun ls hl => ?_)
                  refine lv_goto (tgt := 3) hx hb dM_runOne_223 (by decide) ?_
                  exact L3_ih (i + 1) (R2) (bf2) ls H locs (by omega) (by omega) (by have e : v = n := (by omega); rw [hR2, e, hR1]; rfl) (lv_sub hl [1, 2, 3, 4, 5, 6, 7, 0] rfl) hG
                replace h47 : ¬ n ≤ v := fun hq0 => h47 ((nI_leI (a := n) (b := v) (by omega) (by omega)).mpr hq0)
                have hvn : v < n := by omega
                have hw1 : K v ≤ 13 := (hwf v hvn).1
                have hrk : db_rk (K v) ≤ 13 := db_rk_le hw1
                refine lv_iload_n hx hb dM_runOne_50 rfl (lv_at hl 2 rfl) ?_
                refine lv_if_eq (tgt := 103) hx hb dM_runOne_51 (by decide) (fun h51 => ?_) (fun h51 => ?_)
                · skip
                  replace h51 := (nI_eq (a := 1) (b := 0) (by omega) (by omega)).mp h51
                  (exfalso; omega)
                replace h51 : ¬ 1 = 0 := fun hq0 => h51 ((nI_eq (a := 1) (b := 0) (by omega) (by omega)).mpr hq0)
                refine lv_aload_n hx hb dM_runOne_54 rfl (lv_at hl 0 rfl) ?_
                refine dw_get hx hb hts inMc hown hG 0 11 rfl rfl (by decide) hw505 rfl rfl dM_runOne_55 ?_
                refine lv_iload hx hb dM_runOne_58 (lv_at hl 8 rfl) ?_
                refine dw_ia (x := Bw v) hx hb hG 7 0 rfl rfl (v) rfl (by omega) (by decide) rfl dM_runOne_60 ?_
                refine lv_iconst (v := -1) hx hb dM_runOne_61 (by decide) ?_
                refine lv_icmp_eq (tgt := 103) hx hb dM_runOne_62 (by decide) (fun h62 => ?_) (fun h62 => ?_)
                · skip
                  refine lv_aload_n hx hb dM_runOne_103 rfl (lv_at hl 0 rfl) ?_
                  refine dw_get hx hb hts inMc hown hG 0 2 rfl rfl (by decide) hw496 rfl rfl dM_runOne_104 ?_
                  refine lv_iload hx hb dM_runOne_107 (lv_at hl 8 rfl) ?_
                  refine dw_ia (x := nI (db_rk (K v))) hx hb hG 1 0 rfl rfl (v) rfl (by omega) (by decide) rfl dM_runOne_109 ?_
                  refine lv_bipush (v := 11) hx hb dM_runOne_110 (by decide) ?_
                  refine lv_icmp_ne (tgt := 151) hx hb dM_runOne_112 (by decide) (fun h112 => ?_) (fun h112 => ?_)
                  · skip
                    replace h112 : ¬ db_rk (K v) = 11 := fun hq0 => h112 ((nI_eq (a := db_rk (K v)) (b := 11) (by omega) (by omega)).mpr hq0)
                    have hk13 : ¬ K v = 13 := fun z => h112 ((db_rk13 hw1).mpr z)
                    refine lv_aload_n hx hb dM_runOne_151 rfl (lv_at hl 0 rfl) ?_
                    refine dw_get hx hb hts inMc hown hG 0 2 rfl rfl (by decide) hw496 rfl rfl dM_runOne_152 ?_
                    refine lv_iload hx hb dM_runOne_155 (lv_at hl 8 rfl) ?_
                    refine dw_ia (x := nI (db_rk (K v))) hx hb hG 1 0 rfl rfl (v) rfl (by omega) (by decide) rfl dM_runOne_157 ?_
                    refine lv_bipush (v := 12) hx hb dM_runOne_158 (by decide) ?_
                    refine lv_icmp_ne (tgt := 203) hx hb dM_runOne_160 (by decide) (fun h160 => ?_) (fun h160 => ?_)
                    · skip
                      replace h160 : ¬ db_rk (K v) = 12 := fun hq0 => h160 ((nI_eq (a := db_rk (K v)) (b := 12) (by omega) (by omega)).mpr hq0)
                      have hk9 : ¬ K v = 9 := fun z => h160 ((db_rk12 hw1).mpr z)
                      have hk12 : K v ≤ 12 := by omega
                      refine lv_aload_n hx hb dM_runOne_203 rfl (lv_at hl 1 rfl) ?_
                      refine lv_iload hx hb dM_runOne_204 (lv_at hl 8 rfl) ?_
                      refine lv_aload_n hx hb dM_runOne_206 rfl (lv_at hl 0 rfl) ?_
                      refine lv_iload hx hb dM_runOne_207 (lv_at hl 8 rfl) ?_
                      refine lv_aload_n hx hb dM_runOne_209 rfl (lv_at hl 1 rfl) ?_
                      refine dw_calli (wc := [(m0, .inr (5, [.int (ft), .int (nI (n)), .ref aMd, .ref aO1, .ref aT2, .int (rs), .ref aSh, .ref aMk, .ref aFa, .ref aDe, .ref aNe, .ref aBy, .ref aPi, .int (pd), .ref aNw, .ref aNs, .ref aBf, .int (rn), .int (rr)])), (aMd, .inl (cI, 24, .inl (fun w => nI (db_rk (K w))))), (aO1, .inl (cI, 24, .inl (db_one1 K X Nm))), (aT2, .inl (cI, 24, .inl (db_two2 K Y Nm))), (aW, .inl (cI, 24, .inl (R2)))]) (wr := [(aFa, .inl (cI, 768, .inl (Fa))), (aBf, .inl (cI, 24, .inl (bf2))), (aBy, .inl (cI, 24, .inl (Bw)))]) hG [0, 1, 2, 3, 6] [4, 5, 7] rfl rfl (by decide) (by decide) (va_runV (As := [.int (nI (v)), .ref aW]) (rest := [.int (nI (v)), .ref aW]) ⟨hx, hb, hml, hown, hts⟩ (rf_reckon l dC dI cI cZ m0 aMd aO1 aT2 aSh aMk aFa aDe aNe aBy aPi aNw aNs aBf ft (nI n) rs pd rn rr aW v (X v) (Y v) (fun w => nI (db_rk (K w))) (db_one1 K X Nm) (db_two2 K Y Nm) (R2) (db_inp in0 in1 in2) (Nm v) (K v) H.size (by omega) hk12 hk9 rfl (fun z => ⟨by have := (hwf v hvn).2.1; omega, db_one_x z⟩) (fun z => ⟨by have := (hwf v hvn).2.2.1; omega, db_two_y (Or.inl z)⟩) (fun z => db_two_d z) (fun z => db_one_c (Or.inr z))) (dc_V 2 hts tw_700 tw_702 tp_M_reckon tw_7 tw_703 rfl rfl (by decide +kernel) ⟨Nat.le_of_ble_eq_true rfl, Nat.le_of_ble_eq_true rfl⟩) (dw_preV (ci := 5) hG [0, 1, 2, 3, 6] [0, 1] rfl rfl (by decide) rfl rfl (q0 := 0) rfl) rfl rfl hl.1 rfl (lv_room (Nat.le_of_ble_eq_true rfl)) dM_runOne_210 ⟨Nat.le_refl _, Nat.le_refl _⟩) (fun r u H locs hp hG => ?_)
                      subst hp
                      have hG : dw_G (dC, dI) vwCl [(cI, .int), (cZ, .boolean)] A s.heap s [(aFa, .inl (cI, 768, .inl (Fa))), (aBf, .inl (cI, 24, .inl (bf2))), (aBy, .inl (cI, 24, .inl (Bw))), (m0, .inr (5, [.int (ft), .int (nI (n)), .ref aMd, .ref aO1, .ref aT2, .int (rs), .ref aSh, .ref aMk, .ref aFa, .ref aDe, .ref aNe, .ref aBy, .ref aPi, .int (pd), .ref aNw, .ref aNs, .ref aBf, .int (rn), .int (rr)])), (aMd, .inl (cI, 24, .inl (fun w => nI (db_rk (K w))))), (aO1, .inl (cI, 24, .inl (db_one1 K X Nm))), (aT2, .inl (cI, 24, .inl (db_two2 K Y Nm))), (aW, .inl (cI, 24, .inl (R2)))] H locs := hG
                      refine dw_is (ws' := [(aFa, .inl (cI, 768, .inl (Fa))), (aBf, .inl (cI, 24, .inl (bf2))), (aBy, .inl (cI, 24, .inl (Bw))), (m0, .inr (5, [.int (ft), .int (nI (n)), .ref aMd, .ref aO1, .ref aT2, .int (rs), .ref aSh, .ref aMk, .ref aFa, .ref aDe, .ref aNe, .ref aBy, .ref aPi, .int (pd), .ref aNw, .ref aNs, .ref aBf, .int (rn), .int (rr)])), (aMd, .inl (cI, 24, .inl (fun w => nI (db_rk (K w))))), (aO1, .inl (cI, 24, .inl (db_one1 K X Nm))), (aT2, .inl (cI, 24, .inl (db_two2 K Y Nm))), (aW, .inl (cI, 24, .inl (upd (R2) (v) (db_op (K v) (R2 (X v)) (R2 (Y v)) (Nm v) (db_inp in0 in1 in2)))))]) hx hb hG 7 0 rfl rfl (v) rfl (by omega) (by decide) dM_runOne_213 rfl (fun H locs hG => ?_)
                      refine lv_iinc (v := nI (v + 1)) (lv' := [(8, .int (nI (v + 1))), (0, .ref m0), (1, .ref aW), (2, .int (1)), (3, .int (nI (kr))), (4, .int (in0)), (5, .int (in1)), (6, .int (in2)), (7, .int (nI (i)))]) hx hb dM_runOne_214 hl (k := 8) rfl (dw_inc (v)) (by decide) rfl (fun ls hl => ?_)
                      refine lv_goto (tgt := 41) hx hb dM_runOne_217 (by decide) ?_
                      exact L41_ih (v + 1) (upd (R2) (v) (db_op (K v) (R2 (X v)) (R2 (Y v)) (Nm v) (db_inp in0 in1 in2))) (bf2) ls H locs (by omega) (by omega) (by rw [db_rs_of (first := i = 0) (bef := R1) (B := Bw) (K := K) (X := X) (Y := Y) (Nm := Nm) (fx := f.2) (inp := (db_inp in0 in1 in2)) (db_rv_O h62 hk13), hR2]; rfl) hb2 (lv_sub hl [1, 2, 3, 4, 5, 6, 7, 8, 0] rfl) (dw_perm hG [3, 4, 5, 6, 0, 1, 7, 2] (by decide) rfl rfl)
                    replace h160 := (nI_eq (a := db_rk (K v)) (b := 12) (by omega) (by omega)).mp h160
                    have hk9 : K v = 9 := (db_rk12 hw1).mp h160
                    obtain ⟨d9, hd9, ed9⟩ := (hwf v hvn).2.2.2.2.2.2 hk9
                    refine lv_aload_n hx hb dM_runOne_163 rfl (lv_at hl 1 rfl) ?_
                    refine lv_iload hx hb dM_runOne_164 (lv_at hl 8 rfl) ?_
                    refine lv_aload_n hx hb dM_runOne_166 rfl (lv_at hl 0 rfl) ?_
                    refine dw_get hx hb hts inMc hown hG 0 3 rfl rfl (by decide) hw497 rfl rfl dM_runOne_167 ?_
                    refine lv_iload hx hb dM_runOne_170 (lv_at hl 8 rfl) ?_
                    refine dw_ia (x := nI (d9)) hx hb hG 2 0 rfl rfl (v) rfl (by omega) (by decide) ((db_one_c (Or.inl hk9)).trans ed9) dM_runOne_172 ?_
                    refine lv_if_ne (tgt := 181) hx hb dM_runOne_173 (by decide) (fun h173 => ?_) (fun h173 => ?_)
                    · skip
                      replace h173 : ¬ d9 = 0 := fun hq0 => h173 ((nI_eq (a := d9) (b := 0) (by omega) (by omega)).mpr hq0)
                      refine lv_aload_n hx hb dM_runOne_181 rfl (lv_at hl 0 rfl) ?_
                      refine dw_get hx hb hts inMc hown hG 0 3 rfl rfl (by decide) hw497 rfl rfl dM_runOne_182 ?_
                      refine lv_iload hx hb dM_runOne_185 (lv_at hl 8 rfl) ?_
                      refine dw_ia (x := nI (d9)) hx hb hG 2 0 rfl rfl (v) rfl (by omega) (by decide) ((db_one_c (Or.inl hk9)).trans ed9) dM_runOne_187 ?_
                      refine lv_iconst (v := 1) hx hb dM_runOne_188 (by decide) ?_
                      refine lv_icmp_ne (tgt := 197) hx hb dM_runOne_189 (by decide) (fun h189 => ?_) (fun h189 => ?_)
                      · skip
                        replace h189 : ¬ d9 = 1 := fun hq0 => h189 ((nI_eq (a := d9) (b := 1) (by omega) (by omega)).mpr hq0)
                        refine lv_iload hx hb dM_runOne_197 (lv_at hl 6 rfl) ?_
                        refine dw_is (ws' := [(m0, .inr (5, [.int (ft), .int (nI (n)), .ref aMd, .ref aO1, .ref aT2, .int (rs), .ref aSh, .ref aMk, .ref aFa, .ref aDe, .ref aNe, .ref aBy, .ref aPi, .int (pd), .ref aNw, .ref aNs, .ref aBf, .int (rn), .int (rr)])), (aMd, .inl (cI, 24, .inl (fun w => nI (db_rk (K w))))), (aO1, .inl (cI, 24, .inl (db_one1 K X Nm))), (aT2, .inl (cI, 24, .inl (db_two2 K Y Nm))), (aFa, .inl (cI, 768, .inl (Fa))), (aBf, .inl (cI, 24, .inl (bf2))), (aW, .inl (cI, 24, .inl (upd (R2) (v) (in2)))), (aBy, .inl (cI, 24, .inl (Bw)))]) hx hb hG 6 0 rfl rfl (v) rfl (by omega) (by decide) dM_runOne_199 rfl (fun H locs hG => ?_)
                        refine lv_goto (tgt := 214) hx hb dM_runOne_200 (by decide) ?_
                        refine lv_iinc (v := nI (v + 1)) (lv' := [(8, .int (nI (v + 1))), (0, .ref m0), (1, .ref aW), (2, .int (1)), (3, .int (nI (kr))), (4, .int (in0)), (5, .int (in1)), (6, .int (in2)), (7, .int (nI (i)))]) hx hb dM_runOne_214 hl (k := 8) rfl (dw_inc (v)) (by decide) rfl (fun ls hl => ?_)
                        refine lv_goto (tgt := 41) hx hb dM_runOne_217 (by decide) ?_
                        exact L41_ih (v + 1) (upd (R2) (v) (in2)) (bf2) ls H locs (by omega) (by omega) (by rw [db_rs_of (first := i = 0) (bef := R1) (B := Bw) (K := K) (X := X) (Y := Y) (Nm := Nm) (fx := f.2) (inp := (db_inp in0 in1 in2)) (by rw [← db_rv_O h62 hk13, hk9, ed9]; exact Eq.trans (show in2 = db_inp in0 in1 in2 d9 from ((if_neg h173).trans (if_neg h189)).symm) (db_op9 _ _ (d := d9) (by omega) (db_inp in0 in1 in2))), hR2]; rfl) hb2 (lv_sub hl [1, 2, 3, 4, 5, 6, 7, 8, 0] rfl) hG
                      replace h189 := (nI_eq (a := d9) (b := 1) (by omega) (by omega)).mp h189
                      refine lv_iload hx hb dM_runOne_192 (lv_at hl 5 rfl) ?_
                      refine lv_goto (tgt := 199) hx hb dM_runOne_194 (by decide) ?_
                      refine dw_is (ws' := [(m0, .inr (5, [.int (ft), .int (nI (n)), .ref aMd, .ref aO1, .ref aT2, .int (rs), .ref aSh, .ref aMk, .ref aFa, .ref aDe, .ref aNe, .ref aBy, .ref aPi, .int (pd), .ref aNw, .ref aNs, .ref aBf, .int (rn), .int (rr)])), (aMd, .inl (cI, 24, .inl (fun w => nI (db_rk (K w))))), (aO1, .inl (cI, 24, .inl (db_one1 K X Nm))), (aT2, .inl (cI, 24, .inl (db_two2 K Y Nm))), (aFa, .inl (cI, 768, .inl (Fa))), (aBf, .inl (cI, 24, .inl (bf2))), (aW, .inl (cI, 24, .inl (upd (R2) (v) (in1)))), (aBy, .inl (cI, 24, .inl (Bw)))]) hx hb hG 6 0 rfl rfl (v) rfl (by omega) (by decide) dM_runOne_199 rfl (fun H locs hG => ?_)
                      refine lv_goto (tgt := 214) hx hb dM_runOne_200 (by decide) ?_
                      refine lv_iinc (v := nI (v + 1)) (lv' := [(8, .int (nI (v + 1))), (0, .ref m0), (1, .ref aW), (2, .int (1)), (3, .int (nI (kr))), (4, .int (in0)), (5, .int (in1)), (6, .int (in2)), (7, .int (nI (i)))]) hx hb dM_runOne_214 hl (k := 8) rfl (dw_inc (v)) (by decide) rfl (fun ls hl => ?_)
                      refine lv_goto (tgt := 41) hx hb dM_runOne_217 (by decide) ?_
                      exact L41_ih (v + 1) (upd (R2) (v) (in1)) (bf2) ls H locs (by omega) (by omega) (by rw [db_rs_of (first := i = 0) (bef := R1) (B := Bw) (K := K) (X := X) (Y := Y) (Nm := Nm) (fx := f.2) (inp := (db_inp in0 in1 in2)) (by rw [← db_rv_O h62 hk13, hk9, ed9]; exact Eq.trans (show in1 = db_inp in0 in1 in2 d9 from ((if_neg h173).trans (if_pos h189)).symm) (db_op9 _ _ (d := d9) (by omega) (db_inp in0 in1 in2))), hR2]; rfl) hb2 (lv_sub hl [1, 2, 3, 4, 5, 6, 7, 8, 0] rfl) hG
                    replace h173 := (nI_eq (a := d9) (b := 0) (by omega) (by omega)).mp h173
                    refine lv_iload hx hb dM_runOne_176 (lv_at hl 4 rfl) ?_
                    refine lv_goto (tgt := 199) hx hb dM_runOne_178 (by decide) ?_
                    refine dw_is (ws' := [(m0, .inr (5, [.int (ft), .int (nI (n)), .ref aMd, .ref aO1, .ref aT2, .int (rs), .ref aSh, .ref aMk, .ref aFa, .ref aDe, .ref aNe, .ref aBy, .ref aPi, .int (pd), .ref aNw, .ref aNs, .ref aBf, .int (rn), .int (rr)])), (aMd, .inl (cI, 24, .inl (fun w => nI (db_rk (K w))))), (aO1, .inl (cI, 24, .inl (db_one1 K X Nm))), (aT2, .inl (cI, 24, .inl (db_two2 K Y Nm))), (aFa, .inl (cI, 768, .inl (Fa))), (aBf, .inl (cI, 24, .inl (bf2))), (aW, .inl (cI, 24, .inl (upd (R2) (v) (in0)))), (aBy, .inl (cI, 24, .inl (Bw)))]) hx hb hG 6 0 rfl rfl (v) rfl (by omega) (by decide) dM_runOne_199 rfl (fun H locs hG => ?_)
                    refine lv_goto (tgt := 214) hx hb dM_runOne_200 (by decide) ?_
                    refine lv_iinc (v := nI (v + 1)) (lv' := [(8, .int (nI (v + 1))), (0, .ref m0), (1, .ref aW), (2, .int (1)), (3, .int (nI (kr))), (4, .int (in0)), (5, .int (in1)), (6, .int (in2)), (7, .int (nI (i)))]) hx hb dM_runOne_214 hl (k := 8) rfl (dw_inc (v)) (by decide) rfl (fun ls hl => ?_)
                    refine lv_goto (tgt := 41) hx hb dM_runOne_217 (by decide) ?_
                    exact L41_ih (v + 1) (upd (R2) (v) (in0)) (bf2) ls H locs (by omega) (by omega) (by rw [db_rs_of (first := i = 0) (bef := R1) (B := Bw) (K := K) (X := X) (Y := Y) (Nm := Nm) (fx := f.2) (inp := (db_inp in0 in1 in2)) (by rw [← db_rv_O h62 hk13, hk9, ed9]; exact Eq.trans (show in0 = db_inp in0 in1 in2 d9 from (if_pos h173).symm) (db_op9 _ _ (d := d9) (by omega) (db_inp in0 in1 in2))), hR2]; rfl) hb2 (lv_sub hl [1, 2, 3, 4, 5, 6, 7, 8, 0] rfl) hG
                  replace h112 := (nI_eq (a := db_rk (K v)) (b := 11) (by omega) (by omega)).mp h112
                  have hk13 : K v = 13 := (db_rk13 hw1).mp h112
                  have hxv := (hwf v hvn).2.1
                  have hyv := (hwf v hvn).2.2.1
                  refine lv_aload_n hx hb dM_runOne_115 rfl (lv_at hl 1 rfl) ?_
                  refine lv_iload hx hb dM_runOne_116 (lv_at hl 8 rfl) ?_
                  refine lv_iload hx hb dM_runOne_118 (lv_at hl 7 rfl) ?_
                  refine lv_if_ne (tgt := 135) hx hb dM_runOne_120 (by decide) (fun h120 => ?_) (fun h120 => ?_)
                  · skip
                    replace h120 : ¬ i = 0 := fun hq0 => h120 ((nI_eq (a := i) (b := 0) (by omega) (by omega)).mpr hq0)
                    refine lv_aload_n hx hb dM_runOne_135 rfl (lv_at hl 0 rfl) ?_
                    refine dw_get hx hb hts inMc hown hG 0 16 rfl rfl (by decide) hw510 rfl rfl dM_runOne_136 ?_
                    refine lv_aload_n hx hb dM_runOne_139 rfl (lv_at hl 0 rfl) ?_
                    refine dw_get hx hb hts inMc hown hG 0 4 rfl rfl (by decide) hw498 rfl rfl dM_runOne_140 ?_
                    refine lv_iload hx hb dM_runOne_143 (lv_at hl 8 rfl) ?_
                    refine dw_ia (x := nI (Y v)) hx hb hG 3 0 rfl rfl (v) rfl (by omega) (by decide) (db_two_y (by omega)) dM_runOne_145 ?_
                    refine dw_ia (x := (bf2) (Y v)) hx hb hG 5 0 rfl rfl (Y v) rfl (by omega) (by decide) rfl dM_runOne_146 ?_
                    refine dw_is (ws' := [(m0, .inr (5, [.int (ft), .int (nI (n)), .ref aMd, .ref aO1, .ref aT2, .int (rs), .ref aSh, .ref aMk, .ref aFa, .ref aDe, .ref aNe, .ref aBy, .ref aPi, .int (pd), .ref aNw, .ref aNs, .ref aBf, .int (rn), .int (rr)])), (aMd, .inl (cI, 24, .inl (fun w => nI (db_rk (K w))))), (aO1, .inl (cI, 24, .inl (db_one1 K X Nm))), (aT2, .inl (cI, 24, .inl (db_two2 K Y Nm))), (aFa, .inl (cI, 768, .inl (Fa))), (aBf, .inl (cI, 24, .inl (bf2))), (aW, .inl (cI, 24, .inl (upd (R2) (v) ((bf2) (Y v))))), (aBy, .inl (cI, 24, .inl (Bw)))]) hx hb hG 6 0 rfl rfl (v) rfl (by omega) (by decide) dM_runOne_147 rfl (fun H locs hG => ?_)
                    refine lv_goto (tgt := 214) hx hb dM_runOne_148 (by decide) ?_
                    refine lv_iinc (v := nI (v + 1)) (lv' := [(8, .int (nI (v + 1))), (0, .ref m0), (1, .ref aW), (2, .int (1)), (3, .int (nI (kr))), (4, .int (in0)), (5, .int (in1)), (6, .int (in2)), (7, .int (nI (i)))]) hx hb dM_runOne_214 hl (k := 8) rfl (dw_inc (v)) (by decide) rfl (fun ls hl => ?_)
                    refine lv_goto (tgt := 41) hx hb dM_runOne_217 (by decide) ?_
                    exact L41_ih (v + 1) (upd (R2) (v) ((bf2) (Y v))) (bf2) ls H locs (by omega) (by omega) (by rw [db_rs_of (first := i = 0) (bef := R1) (B := Bw) (K := K) (X := X) (Y := Y) (Nm := Nm) (fx := f.2) (inp := (db_inp in0 in1 in2)) ((hb2 (Y v) (hwf v hvn).2.2.1).trans (db_rv_L2 h62 hk13 h120)), hR2]; rfl) hb2 (lv_sub hl [1, 2, 3, 4, 5, 6, 7, 8, 0] rfl) hG
                  replace h120 := (nI_eq (a := i) (b := 0) (by omega) (by omega)).mp h120
                  refine lv_aload_n hx hb dM_runOne_123 rfl (lv_at hl 1 rfl) ?_
                  refine lv_aload_n hx hb dM_runOne_124 rfl (lv_at hl 0 rfl) ?_
                  refine dw_get hx hb hts inMc hown hG 0 3 rfl rfl (by decide) hw497 rfl rfl dM_runOne_125 ?_
                  refine lv_iload hx hb dM_runOne_128 (lv_at hl 8 rfl) ?_
                  refine dw_ia (x := nI (X v)) hx hb hG 2 0 rfl rfl (v) rfl (by omega) (by decide) (db_one_x (by unfold db_ux; omega)) dM_runOne_130 ?_
                  refine dw_ia (x := (R2) (X v)) hx hb hG 6 0 rfl rfl (X v) rfl (by omega) (by decide) rfl dM_runOne_131 ?_
                  refine lv_goto (tgt := 147) hx hb dM_runOne_132 (by decide) ?_
                  refine dw_is (ws' := [(m0, .inr (5, [.int (ft), .int (nI (n)), .ref aMd, .ref aO1, .ref aT2, .int (rs), .ref aSh, .ref aMk, .ref aFa, .ref aDe, .ref aNe, .ref aBy, .ref aPi, .int (pd), .ref aNw, .ref aNs, .ref aBf, .int (rn), .int (rr)])), (aMd, .inl (cI, 24, .inl (fun w => nI (db_rk (K w))))), (aO1, .inl (cI, 24, .inl (db_one1 K X Nm))), (aT2, .inl (cI, 24, .inl (db_two2 K Y Nm))), (aFa, .inl (cI, 768, .inl (Fa))), (aBf, .inl (cI, 24, .inl (bf2))), (aW, .inl (cI, 24, .inl (upd (R2) (v) ((R2) (X v))))), (aBy, .inl (cI, 24, .inl (Bw)))]) hx hb hG 6 0 rfl rfl (v) rfl (by omega) (by decide) dM_runOne_147 rfl (fun H locs hG => ?_)
                  refine lv_goto (tgt := 214) hx hb dM_runOne_148 (by decide) ?_
                  refine lv_iinc (v := nI (v + 1)) (lv' := [(8, .int (nI (v + 1))), (0, .ref m0), (1, .ref aW), (2, .int (1)), (3, .int (nI (kr))), (4, .int (in0)), (5, .int (in1)), (6, .int (in2)), (7, .int (nI (i)))]) hx hb dM_runOne_214 hl (k := 8) rfl (dw_inc (v)) (by decide) rfl (fun ls hl => ?_)
                  refine lv_goto (tgt := 41) hx hb dM_runOne_217 (by decide) ?_
                  exact L41_ih (v + 1) (upd (R2) (v) ((R2) (X v))) (bf2) ls H locs (by omega) (by omega) (by rw [db_rs_of (first := i = 0) (bef := R1) (B := Bw) (K := K) (X := X) (Y := Y) (Nm := Nm) (fx := f.2) (inp := (db_inp in0 in1 in2)) (db_rv_L1 h62 hk13 h120), hR2]; rfl) hb2 (lv_sub hl [1, 2, 3, 4, 5, 6, 7, 8, 0] rfl) hG
                refine lv_aload_n hx hb dM_runOne_65 rfl (lv_at hl 1 rfl) ?_
                refine lv_iload hx hb dM_runOne_66 (lv_at hl 8 rfl) ?_
                refine lv_aload_n hx hb dM_runOne_68 rfl (lv_at hl 0 rfl) ?_
                refine dw_get hx hb hts inMc hown hG 0 11 rfl rfl (by decide) hw505 rfl rfl dM_runOne_69 ?_
                refine lv_iload hx hb dM_runOne_72 (lv_at hl 8 rfl) ?_
                refine dw_ia (x := Bw v) hx hb hG 7 0 rfl rfl (v) rfl (by omega) (by decide) rfl dM_runOne_74 ?_
                refine lv_bipush (v := -2) hx hb dM_runOne_75 (by decide) ?_
                refine lv_icmp_ne (tgt := 90) hx hb dM_runOne_77 (by decide) (fun h77 => ?_) (fun h77 => ?_)
                · skip
                  obtain ⟨x9, hx9, ex9⟩ : ∃ x, x < n ∧ Bw v = nI x := by
                    rcases hB v hvn with e | e | e
                    · exact absurd e h62
                    · exact absurd e h77
                    · exact e
                  refine lv_aload_n hx hb dM_runOne_90 rfl (lv_at hl 1 rfl) ?_
                  refine lv_aload_n hx hb dM_runOne_91 rfl (lv_at hl 0 rfl) ?_
                  refine dw_get hx hb hts inMc hown hG 0 11 rfl rfl (by decide) hw505 rfl rfl dM_runOne_92 ?_
                  refine lv_iload hx hb dM_runOne_95 (lv_at hl 8 rfl) ?_
                  refine dw_ia (x := nI (x9)) hx hb hG 7 0 rfl rfl (v) rfl (by omega) (by decide) ex9 dM_runOne_97 ?_
                  refine dw_ia (x := (R2) (x9)) hx hb hG 6 0 rfl rfl (x9) rfl (by omega) (by decide) rfl dM_runOne_98 ?_
                  refine dw_is (ws' := [(m0, .inr (5, [.int (ft), .int (nI (n)), .ref aMd, .ref aO1, .ref aT2, .int (rs), .ref aSh, .ref aMk, .ref aFa, .ref aDe, .ref aNe, .ref aBy, .ref aPi, .int (pd), .ref aNw, .ref aNs, .ref aBf, .int (rn), .int (rr)])), (aMd, .inl (cI, 24, .inl (fun w => nI (db_rk (K w))))), (aO1, .inl (cI, 24, .inl (db_one1 K X Nm))), (aT2, .inl (cI, 24, .inl (db_two2 K Y Nm))), (aFa, .inl (cI, 768, .inl (Fa))), (aBf, .inl (cI, 24, .inl (bf2))), (aW, .inl (cI, 24, .inl (upd (R2) (v) ((R2) (x9))))), (aBy, .inl (cI, 24, .inl (Bw)))]) hx hb hG 6 0 rfl rfl (v) rfl (by omega) (by decide) dM_runOne_99 rfl (fun H locs hG => ?_)
                  refine lv_goto (tgt := 214) hx hb dM_runOne_100 (by decide) ?_
                  refine lv_iinc (v := nI (v + 1)) (lv' := [(8, .int (nI (v + 1))), (0, .ref m0), (1, .ref aW), (2, .int (1)), (3, .int (nI (kr))), (4, .int (in0)), (5, .int (in1)), (6, .int (in2)), (7, .int (nI (i)))]) hx hb dM_runOne_214 hl (k := 8) rfl (dw_inc (v)) (by decide) rfl (fun ls hl => ?_)
                  refine lv_goto (tgt := 41) hx hb dM_runOne_217 (by decide) ?_
                  exact L41_ih (v + 1) (upd (R2) (v) ((R2) (x9))) (bf2) ls H locs (by omega) (by omega) (by rw [db_rs_of (first := i = 0) (bef := R1) (B := Bw) (K := K) (X := X) (Y := Y) (Nm := Nm) (fx := f.2) (inp := (db_inp in0 in1 in2)) (db_rv_X (by omega) ex9), hR2]; rfl) hb2 (lv_sub hl [1, 2, 3, 4, 5, 6, 7, 8, 0] rfl) hG
                refine lv_aload_n hx hb dM_runOne_80 rfl (lv_at hl 0 rfl) ?_
                refine lv_iload hx hb dM_runOne_81 (lv_at hl 8 rfl) ?_
                refine lv_iconst (v := 1) hx hb dM_runOne_83 (by decide) ?_
                refine dw_calli (wc := [(m0, .inr (5, [.int (ft), .int (nI (n)), .ref aMd, .ref aO1, .ref aT2, .int (rs), .ref aSh, .ref aMk, .ref aFa, .ref aDe, .ref aNe, .ref aBy, .ref aPi, .int (pd), .ref aNw, .ref aNs, .ref aBf, .int (rn), .int (rr)])), (aFa, .inl (cI, 768, .inl (Fa)))]) (wr := [(aMd, .inl (cI, 24, .inl (fun w => nI (db_rk (K w))))), (aO1, .inl (cI, 24, .inl (db_one1 K X Nm))), (aT2, .inl (cI, 24, .inl (db_two2 K Y Nm))), (aBf, .inl (cI, 24, .inl (bf2))), (aW, .inl (cI, 24, .inl (R2))), (aBy, .inl (cI, 24, .inl (Bw)))]) hG [0, 4] [1, 2, 3, 5, 6, 7] rfl rfl (by decide) (by decide) (va_runV (As := [.int (nI (v)), .int (1)]) (rest := [.int (nI (v)), .ref aW]) ⟨hx, hb, hml, hown, hts⟩ (rf_known1 l dC dI cI cZ m0 aMd aO1 aT2 aSh aMk aFa aDe aNe aBy aPi aNw aNs aBf ft (nI n) rs pd rn rr v Fa (f.1 v) (f.2 v) H.size (by omega) (hfa v hvn) (haps v hvn)) (dc_V 2 hts tw_676 tw_678 tp_M_known tw_7 tw_679 rfl rfl (by decide +kernel) ⟨Nat.le_of_ble_eq_true rfl, Nat.le_of_ble_eq_true rfl⟩) (dw_preV (ci := 5) hG [0, 4] [0, 1] rfl rfl (by decide) rfl rfl (q0 := 0) rfl) rfl rfl hl.1 rfl (lv_room (Nat.le_of_ble_eq_true rfl)) dM_runOne_84 ⟨Nat.le_refl _, Nat.le_refl _⟩) (fun r u H locs hp hG => ?_)
                subst hp
                have hG : dw_G (dC, dI) vwCl [(cI, .int), (cZ, .boolean)] A s.heap s [(aMd, .inl (cI, 24, .inl (fun w => nI (db_rk (K w))))), (aO1, .inl (cI, 24, .inl (db_one1 K X Nm))), (aT2, .inl (cI, 24, .inl (db_two2 K Y Nm))), (aBf, .inl (cI, 24, .inl (bf2))), (aW, .inl (cI, 24, .inl (R2))), (aBy, .inl (cI, 24, .inl (Bw))), (m0, .inr (5, [.int (ft), .int (nI (n)), .ref aMd, .ref aO1, .ref aT2, .int (rs), .ref aSh, .ref aMk, .ref aFa, .ref aDe, .ref aNe, .ref aBy, .ref aPi, .int (pd), .ref aNw, .ref aNs, .ref aBf, .int (rn), .int (rr)])), (aFa, .inl (cI, 768, .inl (Fa)))] H locs := hG
                refine lv_goto (tgt := 99) hx hb dM_runOne_87 (by decide) ?_
                refine dw_is (ws' := [(aMd, .inl (cI, 24, .inl (fun w => nI (db_rk (K w))))), (aO1, .inl (cI, 24, .inl (db_one1 K X Nm))), (aT2, .inl (cI, 24, .inl (db_two2 K Y Nm))), (aBf, .inl (cI, 24, .inl (bf2))), (aW, .inl (cI, 24, .inl (upd (R2) (v) (f.2 v)))), (aBy, .inl (cI, 24, .inl (Bw))), (m0, .inr (5, [.int (ft), .int (nI (n)), .ref aMd, .ref aO1, .ref aT2, .int (rs), .ref aSh, .ref aMk, .ref aFa, .ref aDe, .ref aNe, .ref aBy, .ref aPi, .int (pd), .ref aNw, .ref aNs, .ref aBf, .int (rn), .int (rr)])), (aFa, .inl (cI, 768, .inl (Fa)))]) hx hb hG 4 0 rfl rfl (v) rfl (by omega) (by decide) dM_runOne_99 rfl (fun H locs hG => ?_)
                refine lv_goto (tgt := 214) hx hb dM_runOne_100 (by decide) ?_
                refine lv_iinc (v := nI (v + 1)) (lv' := [(8, .int (nI (v + 1))), (0, .ref m0), (1, .ref aW), (2, .int (1)), (3, .int (nI (kr))), (4, .int (in0)), (5, .int (in1)), (6, .int (in2)), (7, .int (nI (i)))]) hx hb dM_runOne_214 hl (k := 8) rfl (dw_inc (v)) (by decide) rfl (fun ls hl => ?_)
                refine lv_goto (tgt := 41) hx hb dM_runOne_217 (by decide) ?_
                exact L41_ih (v + 1) (upd (R2) (v) (f.2 v)) (bf2) ls H locs (by omega) (by omega) (by rw [db_rs_of (first := i = 0) (bef := R1) (B := Bw) (K := K) (X := X) (Y := Y) (Nm := Nm) (fx := f.2) (inp := (db_inp in0 in1 in2)) (db_rv_F h77), hR2]; rfl) hb2 (lv_sub hl [1, 2, 3, 4, 5, 6, 7, 8, 0] rfl) (dw_perm hG [6, 0, 1, 2, 7, 3, 4, 5] (by decide) rfl rfl)
            exact L41 _ (0) (R1) (bf1) ls H locs (Nat.lt_succ_self _) (Nat.zero_le _) rfl (fun w hw => hbf w (by omega)) (lv_sub hl [1, 2, 3, 4, 5, 6, 7, 8, 0] rfl) hG
          replace h18 : ¬ n ≤ j := fun hq0 => h18 ((nI_leI (a := n) (b := j) (by omega) (by omega)).mpr hq0)
          refine lv_aload_n hx hb dM_runOne_21 rfl (lv_at hl 0 rfl) ?_
          refine dw_get hx hb hts inMc hown hG 0 16 rfl rfl (by decide) hw510 rfl rfl dM_runOne_22 ?_
          refine lv_iload hx hb dM_runOne_25 (lv_at hl 8 rfl) ?_
          refine lv_aload_n hx hb dM_runOne_27 rfl (lv_at hl 1 rfl) ?_
          refine lv_iload hx hb dM_runOne_28 (lv_at hl 8 rfl) ?_
          refine dw_ia (x := (R1) (j)) hx hb hG 6 0 rfl rfl (j) rfl (by omega) (by decide) rfl dM_runOne_30 ?_
          refine dw_is (ws' := [(m0, .inr (5, [.int (ft), .int (nI (n)), .ref aMd, .ref aO1, .ref aT2, .int (rs), .ref aSh, .ref aMk, .ref aFa, .ref aDe, .ref aNe, .ref aBy, .ref aPi, .int (pd), .ref aNw, .ref aNs, .ref aBf, .int (rn), .int (rr)])), (aMd, .inl (cI, 24, .inl (fun w => nI (db_rk (K w))))), (aO1, .inl (cI, 24, .inl (db_one1 K X Nm))), (aT2, .inl (cI, 24, .inl (db_two2 K Y Nm))), (aFa, .inl (cI, 768, .inl (Fa))), (aBf, .inl (cI, 24, .inl (upd (bf1) (j) ((R1) (j))))), (aW, .inl (cI, 24, .inl (R1))), (aBy, .inl (cI, 24, .inl (Bw)))]) hx hb hG 5 0 rfl rfl (j) rfl (by omega) (by decide) dM_runOne_31 rfl (fun H locs hG => ?_)
          refine lv_iinc (v := nI (j + 1)) (lv' := [(8, .int (nI (j + 1))), (0, .ref m0), (1, .ref aW), (2, .int (1)), (3, .int (nI (kr))), (4, .int (in0)), (5, .int (in1)), (6, .int (in2)), (7, .int (nI (i)))]) hx hb dM_runOne_32 hl (k := 8) rfl (dw_inc (j)) (by decide) rfl (fun ls hl => ?_)
          refine lv_goto (tgt := 12) hx hb dM_runOne_35 (by decide) ?_
          exact L12_ih (j + 1) (upd (bf1) (j) ((R1) (j))) ls H locs (by omega) (by omega) (fun w hw => (Decidable.em (w = j)).elim (fun e => by rw [e, pk_us]) (fun e => by rw [pk_un e]; exact hbf w (by omega))) (lv_sub hl [1, 2, 3, 4, 5, 6, 7, 8, 0] rfl) hG
      exact L12 _ (0) (bf) ls H locs (Nat.lt_succ_self _) (Nat.zero_le _) (fun w hw => by omega) (lv_sub hl [1, 2, 3, 4, 5, 6, 7, 8, 0] rfl) hG
  exact L3 _ (0) (Rd) (Bef) ls H locs (Nat.lt_succ_self _) (Nat.zero_le _) rfl (lv_sub hl [1, 2, 3, 4, 5, 6, 7, 0] rfl) hG

