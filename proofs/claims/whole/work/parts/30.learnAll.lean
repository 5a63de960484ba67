set_option maxRecDepth 100000 in
set_option maxHeartbeats 4000000 in
theorem rf_learnAll (l : Launch) (dC : Nat → ClassId) (dI : Nat → Nat → Nat) (cI cZ : ClassId) (m0 aMd aO1 aT2 aSh aMk aFa aDe aNe aBy aPi aNw aNs aBf n : Nat) (ft rs pd rn rr : Int32) (K X Y : Nat → Nat) (Nm : Nat → Int32) (Fa : Nat → Int32) (sz : Nat) (hn : n ≤ 24) (hwf : db_wf n K X Y Nm) : Met l yM_learnAll wsM_learnAll { frames := 3, cells := 0, slots := 0, locals := 100 } (va_Pc [.ref m0] (dw_pre (dC, dI) vwCl [(m0, .inr (5, [.int (ft), .int (nI (n)), .ref aMd, .ref aO1, .ref aT2, .int (rs), .ref aSh, .ref aMk, .ref aFa, .ref aDe, .ref aNe, .ref aBy, .ref aPi, .int (pd), .ref aNw, .ref aNs, .ref aBf, .int (rn), .int (rr)])), (aMd, .inl (cI, 24, .inl (fun w => nI (db_rk (K w))))), (aO1, .inl (cI, 24, .inl (db_one1 K X Nm))), (aT2, .inl (cI, 24, .inl (db_two2 K Y Nm))), (aFa, .inl (cI, 768, .inl (Fa)))] [(cI, .int), (cZ, .boolean)] sz)) (va_Qv (fun (u : Nat → Int32) => db_reps n u (db_facts n K X Y Nm)) (fun u t => dw_post (dC, dI) vwCl [(m0, .inr (5, [.int (ft), .int (nI (n)), .ref aMd, .ref aO1, .ref aT2, .int (rs), .ref aSh, .ref aMk, .ref aFa, .ref aDe, .ref aNe, .ref aBy, .ref aPi, .int (pd), .ref aNw, .ref aNs, .ref aBf, .int (rn), .int (rr)])), (aMd, .inl (cI, 24, .inl (fun w => nI (db_rk (K w))))), (aO1, .inl (cI, 24, .inl (db_one1 K X Nm))), (aT2, .inl (cI, 24, .inl (db_two2 K Y Nm))), (aFa, .inl (cI, 768, .inl (u)))] [(cI, .int), (cZ, .boolean)] (va_A [(m0, .inr (5, [.int (ft), .int (nI (n)), .ref aMd, .ref aO1, .ref aT2, .int (rs), .ref aSh, .ref aMk, .ref aFa, .ref aDe, .ref aNe, .ref aBy, .ref aPi, .int (pd), .ref aNw, .ref aNs, .ref aBf, .int (rn), .int (rr)])), (aMd, .inl (cI, 24, .inl (fun w => nI (db_rk (K w))))), (aO1, .inl (cI, 24, .inl (db_one1 K X Nm))), (aT2, .inl (cI, 24, .inl (db_two2 K Y Nm))), (aFa, .inl (cI, 768, .inl (Fa)))] sz) t) (va_A [(m0, .inr (5, [.int (ft), .int (nI (n)), .ref aMd, .ref aO1, .ref aT2, .int (rs), .ref aSh, .ref aMk, .ref aFa, .ref aDe, .ref aNe, .ref aBy, .ref aPi, .int (pd), .ref aNw, .ref aNs, .ref aBf, .int (rn), .int (rr)])), (aMd, .inl (cI, 24, .inl (fun w => nI (db_rk (K w))))), (aO1, .inl (cI, 24, .inl (db_one1 K X Nm))), (aT2, .inl (cI, 24, .inl (db_two2 K Y Nm))), (aFa, .inl (cI, 768, .inl (Fa)))] sz)) 0 0 (va_A [(m0, .inr (5, [.int (ft), .int (nI (n)), .ref aMd, .ref aO1, .ref aT2, .int (rs), .ref aSh, .ref aMk, .ref aFa, .ref aDe, .ref aNe, .ref aBy, .ref aPi, .int (pd), .ref aNw, .ref aNs, .ref aBf, .int (rn), .int (rr)])), (aMd, .inl (cI, 24, .inl (fun w => nI (db_rk (K w))))), (aO1, .inl (cI, 24, .inl (db_one1 K X Nm))), (aT2, .inl (cI, 24, .inl (db_two2 K Y Nm))), (aFa, .inl (cI, 768, .inl (Fa)))] sz) := by
  refine Met.ofW (cc := cM_learnAll) (maxL := 6) (ret := none) (by decide) rfl ?_
  intro p e s m args below meth c s₁ B hml hv0
  have hx := B.exec
  have hb := B.bytes
  have hr := B.returns
  have hts := atoms_spec (ws := wsM_learnAll) B.pre
  have hown : s.vm.findClass RM = some m.cls := findClass_of_methodNamed B.named
  have hlocks := B.notSynchronized
  obtain ⟨rfl, hsz, hG⟩ := dw_enter hv0
  generalize va_A [(m0, .inr (5, [.int (ft), .int (nI (n)), .ref aMd, .ref aO1, .ref aT2, .int (rs), .ref aSh, .ref aMk, .ref aFa, .ref aDe, .ref aNe, .ref aBy, .ref aPi, .int (pd), .ref aNw, .ref aNs, .ref aBf, .int (rn), .int (rr)])), (aMd, .inl (cI, 24, .inl (fun w => nI (db_rk (K w))))), (aO1, .inl (cI, 24, .inl (db_one1 K X Nm))), (aT2, .inl (cI, 24, .inl (db_two2 K Y Nm))), (aFa, .inl (cI, 768, .inl (Fa)))] sz = A at hG ⊢
  have hl := lv_entry ([.ref m0]) (n := 6) (Nat.le_of_ble_eq_true rfl)
  rw [lg_entry_eq]
  generalize (lg_sl ([.ref m0]) ++ List.replicate (6 - (lg_sl ([.ref m0])).length) Slot.unset).toArray = ls at hl ⊢
  have hl : lv_has ls 6 [(0, .ref m0)] := hl
  have hw495 := hts _ (List.mem_cons_of_mem _ tw_495)
  have hw496 := hts _ (List.mem_cons_of_mem _ tw_496)
  have hw502 := hts _ (List.mem_cons_of_mem _ tw_502)
  have hw497 := hts _ (List.mem_cons_of_mem _ tw_497)
  have hw498 := hts _ (List.mem_cons_of_mem _ tw_498)
  refine dw_Q (fun Q hQ => ?_)
  suffices hgo : ∀ (H : Heap) (locs : List Loc), dw_G (dC, dI) vwCl [(cI, .int), (cZ, .boolean)] A s.heap s [(m0, .inr (5, [.int (ft), .int (nI (n)), .ref aMd, .ref aO1, .ref aT2, .int (rs), .ref aSh, .ref aMk, .ref aFa, .ref aDe, .ref aNe, .ref aBy, .ref aPi, .int (pd), .ref aNw, .ref aNs, .ref aBf, .int (rn), .int (rr)])), (aMd, .inl (cI, 24, .inl (fun w => nI (db_rk (K w))))), (aO1, .inl (cI, 24, .inl (db_one1 K X Nm))), (aT2, .inl (cI, 24, .inl (db_two2 K Y Nm))), (aFa, .inl (cI, 768, .inl (Fa)))] H locs → W p l e (headSpec wsM_learnAll { frames := 3, cells := 0, slots := 0, locals := 100 }).room s m [.ref m0].toArray below meth c H locs 0 0 Q (F0 m 0 ls []) from hgo _ _ hG
  clear hG
  intro H locs hG
  refine lv_iconst (v := 0) hx hb dM_learnAll_0 (by decide) ?_
  refine lv_istore_n (lv' := [(1, .int (0)), (0, .ref m0)]) hx hb dM_learnAll_1 rfl hl (by decide) rfl (fun ls hl => ?_)
  have L2 : ∀ (zz : Nat) (v : Nat) (G : Nat → Int32) (g : db_Fs) (ls : Array Slot) (H : Heap) (locs : List Loc), n - v < zz → v ≤ n → g = db_it (db_s0 K X Y Nm) v db_f0 → db_reps v G g → lv_has ls 6 [(0, .ref m0), (1, .int (nI (v)))] → dw_G (dC, dI) vwCl [(cI, .int), (cZ, .boolean)] A s.heap s [(m0, .inr (5, [.int (ft), .int (nI (n)), .ref aMd, .ref aO1, .ref aT2, .int (rs), .ref aSh, .ref aMk, .ref aFa, .ref aDe, .ref aNe, .ref aBy, .ref aPi, .int (pd), .ref aNw, .ref aNs, .ref aBf, .int (rn), .int (rr)])), (aMd, .inl (cI, 24, .inl (fun w => nI (db_rk (K w))))), (aO1, .inl (cI, 24, .inl (db_one1 K X Nm))), (aT2, .inl (cI, 24, .inl (db_two2 K Y Nm))), (aFa, .inl (cI, 768, .inl (G)))] H locs → W p l e (headSpec wsM_learnAll { frames := 3, cells := 0, slots := 0, locals := 100 }).room s m [.ref m0].toArray below meth c H locs 0 0 Q (F0 m 2 ls []) := by
    intro zz
    induction zz with
    | zero => intro v G g ls H locs hz; exact absurd hz (Nat.not_lt_zero _)
    | succ zz L2_ih =>
      intro v G g ls H locs hz hv9 hg hre hl hG
      refine lv_iload_n hx hb dM_learnAll_2 rfl (lv_at hl 1 rfl) ?_
      refine lv_aload_n hx hb dM_learnAll_3 rfl (lv_at hl 0 rfl) ?_
      refine dw_get hx hb hts inMc hown hG 0 1 rfl rfl (by decide) hw495 rfl rfl dM_learnAll_4 ?_
      refine lv_icmp_ge (tgt := 76) hx hb dM_learnAll_7 (by decide) (fun h7 => ?_) (fun h7 => ?_)
      · skip
        replace h7 := (nI_leI (a := n) (b := v) (by omega) (by omega)).mp h7
        refine lv_iconst (v := 1) hx hb dM_learnAll_76 (by decide) ?_
        refine lv_istore_n (lv' := [(1, .int (1)), (0, .ref m0)]) hx hb dM_learnAll_77 rfl hl (by decide) rfl (fun ls hl => ?_)
        have L78 : ∀ (zz : Nat) (i : Nat) (G : Nat → Int32) (f : db_Fs) (ch : Int32) (ls : Array Slot) (H : Heap) (locs : List Loc), 770 - i < zz → i ≤ 769 → f = db_P n K X Y Nm i db_f0 → db_reps n G f → db_sofar ch n K X Y Nm db_f0 i → lv_has ls 6 [(0, .ref m0), (1, .int (ch))] → dw_G (dC, dI) vwCl [(cI, .int), (cZ, .boolean)] A s.heap s [(m0, .inr (5, [.int (ft), .int (nI (n)), .ref aMd, .ref aO1, .ref aT2, .int (rs), .ref aSh, .ref aMk, .ref aFa, .ref aDe, .ref aNe, .ref aBy, .ref aPi, .int (pd), .ref aNw, .ref aNs, .ref aBf, .int (rn), .int (rr)])), (aMd, .inl (cI, 24, .inl (fun w => nI (db_rk (K w))))), (aO1, .inl (cI, 24, .inl (db_one1 K X Nm))), (aT2, .inl (cI, 24, .inl (db_two2 K Y Nm))), (aFa, .inl (cI, 768, .inl (G)))] H locs → W p l e (headSpec wsM_learnAll { frames := 3, cells := 0, slots := 0, locals := 100 }).room s m [.ref m0].toArray below meth c H locs 0 0 Q (F0 m 78 ls []) := by
          intro zz
          induction zz with
          | zero => intro i G f ch ls H locs hz; exact absurd hz (Nat.not_lt_zero _)
          | succ zz L78_ih =>
            intro i G f ch ls H locs hz hi9 hf hrf hsf hl hG
            refine lv_iload_n hx hb dM_learnAll_78 rfl (lv_at hl 1 rfl) ?_
            refine lv_if_eq (tgt := 247) hx hb dM_learnAll_79 (by decide) (fun h79 => ?_) (fun h79 => ?_)
            · skip
              subst hQ
              exact dw_vret hx hb hr hG (G) rfl (fun w hw => by have q := db_sofar_end hwf hsf h79 w hw; rw [← hf] at q; rw [← q.1, ← q.2]; exact hrf w hw) dM_learnAll_247 hlocks
            refine lv_iconst (v := 0) hx hb dM_learnAll_82 (by decide) ?_
            refine lv_istore_n (lv' := [(1, .int (0)), (0, .ref m0)]) hx hb dM_learnAll_83 rfl hl (by decide) rfl (fun ls hl => ?_)
            refine lv_iconst (v := 0) hx hb dM_learnAll_84 (by decide) ?_
            refine lv_istore_n (lv' := [(2, .int (0)), (1, .int (0)), (0, .ref m0)]) hx hb dM_learnAll_85 rfl hl (by decide) rfl (fun ls hl => ?_)
            have L86 : ∀ (zz : Nat) (v : Nat) (G2 : Nat → Int32) (g : db_Fs) (c2 : Int32) (ls : Array Slot) (H : Heap) (locs : List Loc), n - v < zz → v ≤ n → g = db_it (db_st K X Y Nm) v f → db_reps n G2 g → db_lch c2 K f g v → lv_has ls 6 [(0, .ref m0), (1, .int (c2)), (2, .int (nI (v)))] → dw_G (dC, dI) vwCl [(cI, .int), (cZ, .boolean)] A s.heap s [(m0, .inr (5, [.int (ft), .int (nI (n)), .ref aMd, .ref aO1, .ref aT2, .int (rs), .ref aSh, .ref aMk, .ref aFa, .ref aDe, .ref aNe, .ref aBy, .ref aPi, .int (pd), .ref aNw, .ref aNs, .ref aBf, .int (rn), .int (rr)])), (aMd, .inl (cI, 24, .inl (fun w => nI (db_rk (K w))))), (aO1, .inl (cI, 24, .inl (db_one1 K X Nm))), (aT2, .inl (cI, 24, .inl (db_two2 K Y Nm))), (aFa, .inl (cI, 768, .inl (G2)))] H locs → W p l e (headSpec wsM_learnAll { frames := 3, cells := 0, slots := 0, locals := 100 }).room s m [.ref m0].toArray below meth c H locs 0 0 Q (F0 m 86 ls []) := by
              intro zz
              induction zz with
              | zero => intro v G2 g c2 ls H locs hz; exact absurd hz (Nat.not_lt_zero _)
              | succ zz L86_ih =>
                intro v G2 g c2 ls H locs hz hv9 hg hre hlc hl hG
                refine lv_iload_n hx hb dM_learnAll_86 rfl (lv_at hl 2 rfl) ?_
                refine lv_aload_n hx hb dM_learnAll_87 rfl (lv_at hl 0 rfl) ?_
                refine dw_get hx hb hts inMc hown hG 0 1 rfl rfl (by decide) hw495 rfl rfl dM_learnAll_88 ?_
                refine lv_icmp_ge (tgt := 244) hx hb dM_learnAll_91 (by decide) (fun h91 => ?_) (fun h91 => ?_)
                · skip
                  replace h91 := (nI_leI (a := n) (b := v) (by omega) (by omega)).mp h91
                  refine lv_goto (tgt := 78) hx hb dM_learnAll_244 (by decide) ?_
                  exact L78_ih (i + 1) (G2) (db_P n K X Y Nm (i + 1) db_f0) (c2) ls H locs (by omega) (by have := db_sofar_le hwf hn hsf h79; omega) rfl (by have e : v = n := (by omega); rw [e] at hg; rw [hg, hf] at hre; exact hre) (db_sofar_s hwf hn hsf h79 (by have e : v = n := (by omega); rw [e] at hlc hg; rw [hg, hf] at hlc; exact hlc)) (lv_sub hl [0, 1] rfl) hG
                replace h91 : ¬ n ≤ v := fun q => h91 ((nI_leI (a := n) (b := v) (by omega) (by omega)).mpr q)
                have hvn : v < n := by omega
                have hw1 : K v ≤ 13 := (hwf v hvn).1
                have hrk : db_rk (K v) ≤ 13 := db_rk_le hw1
                have hap : db_aps n g := by rw [hg]; exact db_aps_it hwf (by rw [hf]; exact db_P_aps hwf db_f0 i) v (by omega)
                have hap2 : db_ap (db_val K X Y Nm v g).1 (db_val K X Y Nm v g).2 := by have q := db_aps_st hwf (by omega : v < n) hap v (by omega); unfold db_st at q; rw [db_put_s1, db_put_s2] at q; exact q
                refine lv_aload_n hx hb dM_learnAll_94 rfl (lv_at hl 0 rfl) ?_
                refine dw_get hx hb hts inMc hown hG 0 2 rfl rfl (by decide) hw496 rfl rfl dM_learnAll_95 ?_
                refine lv_iload_n hx hb dM_learnAll_98 rfl (lv_at hl 2 rfl) ?_
                refine dw_ia (x := nI (db_rk (K v))) hx hb hG 1 0 rfl rfl (v) rfl (by omega) (by decide) rfl dM_learnAll_99 ?_
                refine lv_bipush (v := 11) hx hb dM_learnAll_100 (by decide) ?_
                refine lv_icmp_eq (tgt := 113) hx hb dM_learnAll_102 (by decide) (fun h102 => ?_) (fun h102 => ?_)
                · skip
                  replace h102 := (nI_eq (a := db_rk (K v)) (b := 11) (by omega) (by omega)).mp h102
                  have hk13 : K v = 13 := (db_rk13 hw1).mp h102
                  have hxv := (hwf v hvn).2.2.2.1 (by unfold db_ux; omega)
                  refine lv_iconst (v := 0) hx hb dM_learnAll_113 (by decide) ?_
                  refine lv_istore_n (lv' := [(3, .int (0)), (0, .ref m0), (1, .int (c2)), (2, .int (nI (v)))]) hx hb dM_learnAll_114 rfl hl (by decide) rfl (fun ls hl => ?_)
                  have L115 : ∀ (zz : Nat) (k : Nat) (G3 : Nat → Int32) (c3 : Int32) (ls : Array Slot) (H : Heap) (locs : List Loc), 32 - k < zz → k ≤ 32 → db_out G2 G3 v → db_mix G3 v k (g.1 v) (g.2 v) (g.1 v &&& g.1 (X v) &&& g.1 (Y v)) (g.2 v &&& g.2 (X v) &&& g.2 (Y v)) → db_chg c3 c2 k (g.1 v) (g.2 v) (g.1 v &&& g.1 (X v) &&& g.1 (Y v)) (g.2 v &&& g.2 (X v) &&& g.2 (Y v)) → lv_has ls 6 [(0, .ref m0), (1, .int (c3)), (2, .int (nI (v))), (3, .int (nI (k)))] → dw_G (dC, dI) vwCl [(cI, .int), (cZ, .boolean)] A s.heap s [(m0, .inr (5, [.int (ft), .int (nI (n)), .ref aMd, .ref aO1, .ref aT2, .int (rs), .ref aSh, .ref aMk, .ref aFa, .ref aDe, .ref aNe, .ref aBy, .ref aPi, .int (pd), .ref aNw, .ref aNs, .ref aBf, .int (rn), .int (rr)])), (aMd, .inl (cI, 24, .inl (fun w => nI (db_rk (K w))))), (aO1, .inl (cI, 24, .inl (db_one1 K X Nm))), (aT2, .inl (cI, 24, .inl (db_two2 K Y Nm))), (aFa, .inl (cI, 768, .inl (G3)))] H locs → W p l e (headSpec wsM_learnAll { frames := 3, cells := 0, slots := 0, locals := 100 }).room s m [.ref m0].toArray below meth c H locs 0 0 Q (F0 m 115 ls []) := by
                    intro zz
                    induction zz with
                    | zero => intro k G3 c3 ls H locs hz; exact absurd hz (Nat.not_lt_zero _)
                    | succ zz L115_ih =>
                      intro k G3 c3 ls H locs hz hk ho hmx hch hl hG
                      refine lv_iload_n hx hb dM_learnAll_115 rfl (lv_at hl 3 rfl) ?_
                      refine lv_bipush (v := 32) hx hb dM_learnAll_116 (by decide) ?_
                      refine lv_icmp_ge (tgt := 238) hx hb dM_learnAll_118 (by decide) (fun h118 => ?_) (fun h118 => ?_)
                      · skip
                        replace h118 := (nI_leI (a := 32) (b := k) (by omega) (by omega)).mp h118
                        refine lv_iinc (v := nI (v + 1)) (lv' := [(2, .int (nI (v + 1))), (0, .ref m0), (1, .int (c3)), (3, .int (nI (k)))]) hx hb dM_learnAll_238 hl (k := 2) rfl (dw_inc (v)) (by decide) rfl (fun ls hl => ?_)
                        refine lv_goto (tgt := 86) hx hb dM_learnAll_241 (by decide) ?_
                        exact L86_ih (v + 1) (G3) (db_put g v (db_val K X Y Nm v g)) (c3) ls H locs (by omega) (by omega) (by rw [hg]; rfl) (db_reps_put (fun w hw hne => hre w hw) ho (by rw [show k = 32 by omega] at hmx; rw [db_val_loop hk13]; exact hmx.1)) (db_lch_loop hlc (by rw [hg]; exact db_it_n (fun _ _ _ h => db_st_n h) f v v (Nat.le_refl v)) (by rw [show k = 32 by omega] at hch; rw [db_val_loop hk13]; exact db_chg_end (hap v (by omega)) (by have q := hap2; rw [db_val_loop hk13] at q; exact q) hch)) (lv_sub hl [1, 2, 0] rfl) hG
                      replace h118 : ¬ 32 ≤ k := fun q => h118 ((nI_leI (a := 32) (b := k) (by omega) (by omega)).mpr q)
                      refine lv_aload_n hx hb dM_learnAll_121 rfl (lv_at hl 0 rfl) ?_
                      refine dw_get hx hb hts inMc hown hG 0 8 rfl rfl (by decide) hw502 rfl rfl dM_learnAll_122 ?_
                      refine lv_bipush (v := 32) hx hb dM_learnAll_125 (by decide) ?_
                      refine lv_iload_n hx hb dM_learnAll_127 rfl (lv_at hl 2 rfl) ?_
                      refine lv_imul hx hb dM_learnAll_128 ?_
                      refine lv_topi (nm_r (pk_mul (32) (v)) ?_)
                      refine lv_iload_n hx hb dM_learnAll_129 rfl (lv_at hl 3 rfl) ?_
                      refine lv_iadd hx hb dM_learnAll_130 ?_
                      refine lv_topi (nm_r (nI_add (32 * (v)) (k)) ?_)
                      refine dw_ia (x := db_tri (bt (g.1 v) k) (bt (g.2 v) k)) hx hb hG 4 0 rfl rfl (32 * (v) + k) rfl (by omega) (by decide) (hmx.2 k (Nat.le_refl k) (by omega)) dM_learnAll_131 ?_
                      refine lv_istore (lv' := [(4, .int (db_tri (bt (g.1 v) k) (bt (g.2 v) k))), (0, .ref m0), (1, .int (c3)), (2, .int (nI (v))), (3, .int (nI (k)))]) hx hb dM_learnAll_132 hl (by decide) rfl (fun ls hl => ?_)
                      refine lv_iload hx hb dM_learnAll_134 (lv_at hl 0 rfl) ?_
                      refine lv_iconst (v := 2) hx hb dM_learnAll_136 (by decide) ?_
                      refine lv_icmp_eq (tgt := 186) hx hb dM_learnAll_137 (by decide) (fun h137 => ?_) (fun h137 => ?_)
                      · skip
                        refine lv_iconst (v := 0) hx hb dM_learnAll_186 (by decide) ?_
                        refine lv_istore (lv' := [(5, .int (0)), (4, .int (db_tri (bt (g.1 v) k) (bt (g.2 v) k))), (0, .ref m0), (1, .int (c3)), (2, .int (nI (v))), (3, .int (nI (k)))]) hx hb dM_learnAll_187 hl (by decide) rfl (fun ls hl => ?_)
                        refine lv_iload_n hx hb dM_learnAll_189 rfl (lv_at hl 3 rfl) ?_
                        refine lv_if_ne (tgt := 204) hx hb dM_learnAll_190 (by decide) (fun h190 => ?_) (fun h190 => ?_)
                        · skip
                          refine lv_iconst (v := 1) hx hb dM_learnAll_204 (by decide) ?_
                          refine lv_goto (tgt := 209) hx hb dM_learnAll_205 (by decide) ?_
                          refine lv_istore_n (lv' := [(1, .int (1)), (5, .int (0)), (4, .int (db_tri (bt (g.1 v) k) (bt (g.2 v) k))), (0, .ref m0), (2, .int (nI (v))), (3, .int (nI (k)))]) hx hb dM_learnAll_209 rfl hl (by decide) rfl (fun ls hl => ?_)
                          refine lv_aload_n hx hb dM_learnAll_210 rfl (lv_at hl 3 rfl) ?_
                          refine dw_get hx hb hts inMc hown hG 0 8 rfl rfl (by decide) hw502 rfl rfl dM_learnAll_211 ?_
                          refine lv_bipush (v := 32) hx hb dM_learnAll_214 (by decide) ?_
                          refine lv_iload_n hx hb dM_learnAll_216 rfl (lv_at hl 4 rfl) ?_
                          refine lv_imul hx hb dM_learnAll_217 ?_
                          refine lv_topi (nm_r (pk_mul (32) (v)) ?_)
                          refine lv_iload_n hx hb dM_learnAll_218 rfl (lv_at hl 5 rfl) ?_
                          refine lv_iadd hx hb dM_learnAll_219 ?_
                          refine lv_topi (nm_r (nI_add (32 * (v)) (k)) ?_)
                          refine lv_iload hx hb dM_learnAll_220 (lv_at hl 1 rfl) ?_
                          refine lv_if_eq (tgt := 230) hx hb dM_learnAll_222 (by decide) (fun h222 => ?_) (fun h222 => ?_)
                          · skip
                            replace h222 := (nI_eq (a := 0) (b := 0) (by omega) (by omega)).mp h222
                            refine lv_iconst (v := 2) hx hb dM_learnAll_230 (by decide) ?_
                            refine dw_is (ws' := [(m0, .inr (5, [.int (ft), .int (nI (n)), .ref aMd, .ref aO1, .ref aT2, .int (rs), .ref aSh, .ref aMk, .ref aFa, .ref aDe, .ref aNe, .ref aBy, .ref aPi, .int (pd), .ref aNw, .ref aNs, .ref aBf, .int (rn), .int (rr)])), (aMd, .inl (cI, 24, .inl (fun w => nI (db_rk (K w))))), (aO1, .inl (cI, 24, .inl (db_one1 K X Nm))), (aT2, .inl (cI, 24, .inl (db_two2 K Y Nm))), (aFa, .inl (cI, 768, .inl (upd (G3) (32 * (v) + k) (2))))]) hx hb hG 4 0 rfl rfl (32 * (v) + k) rfl (by omega) (by decide) dM_learnAll_231 rfl (fun H locs hG => ?_)
                            refine lv_iinc (v := nI (k + 1)) (lv' := [(3, .int (nI (k + 1))), (1, .int (1)), (5, .int (0)), (4, .int (db_tri (bt (g.1 v) k) (bt (g.2 v) k))), (0, .ref m0), (2, .int (nI (v)))]) hx hb dM_learnAll_232 hl (k := 5) rfl (dw_inc (k)) (by decide) rfl (fun ls hl => ?_)
                            refine lv_goto (tgt := 115) hx hb dM_learnAll_235 (by decide) ?_
                            have hnew := (db_lb_n (bt (g.1 v) k) (bt (g.2 v) k) (bt (g.1 (X v)) k) (bt (g.2 (X v)) k) (bt (g.1 (Y v)) k) (bt (g.2 (Y v)) k) (hap v (by omega) k (by omega)) (hap _ (hwf v hvn).2.1 k (by omega)) (hap _ (hwf v hvn).2.2.1 k (by omega)) (Or.inl h137))
                            rw [← b_and, ← b_and, ← b_and, ← b_and] at hnew
                            exact L115_ih (k + 1) (upd (G3) (32 * (v) + k) (2)) (1) ls H locs (by omega) (by omega) (db_out_upd _ ho (by omega)) (db_mix_s hmx hnew) (db_chg_1 hch h190) (lv_sub hl [4, 1, 5, 0] rfl) hG
                          replace h222 : ¬ 0 = 0 := fun q => h222 ((nI_eq (a := 0) (b := 0) (by omega) (by omega)).mpr q)
                          (exfalso; omega)
                        refine lv_iload hx hb dM_learnAll_193 (lv_at hl 1 rfl) ?_
                        refine lv_iconst (v := 2) hx hb dM_learnAll_195 (by decide) ?_
                        refine lv_icmp_eq (tgt := 208) hx hb dM_learnAll_196 (by decide) (fun h196 => ?_) (fun h196 => ?_)
                        · skip
                          refine lv_iconst (v := 0) hx hb dM_learnAll_208 (by decide) ?_
                          refine lv_istore_n (lv' := [(1, .int (0)), (5, .int (0)), (4, .int (db_tri (bt (g.1 v) k) (bt (g.2 v) k))), (0, .ref m0), (2, .int (nI (v))), (3, .int (nI (k)))]) hx hb dM_learnAll_209 rfl hl (by decide) rfl (fun ls hl => ?_)
                          refine lv_aload_n hx hb dM_learnAll_210 rfl (lv_at hl 3 rfl) ?_
                          refine dw_get hx hb hts inMc hown hG 0 8 rfl rfl (by decide) hw502 rfl rfl dM_learnAll_211 ?_
                          refine lv_bipush (v := 32) hx hb dM_learnAll_214 (by decide) ?_
                          refine lv_iload_n hx hb dM_learnAll_216 rfl (lv_at hl 4 rfl) ?_
                          refine lv_imul hx hb dM_learnAll_217 ?_
                          refine lv_topi (nm_r (pk_mul (32) (v)) ?_)
                          refine lv_iload_n hx hb dM_learnAll_218 rfl (lv_at hl 5 rfl) ?_
                          refine lv_iadd hx hb dM_learnAll_219 ?_
                          refine lv_topi (nm_r (nI_add (32 * (v)) (k)) ?_)
                          refine lv_iload hx hb dM_learnAll_220 (lv_at hl 1 rfl) ?_
                          refine lv_if_eq (tgt := 230) hx hb dM_learnAll_222 (by decide) (fun h222 => ?_) (fun h222 => ?_)
                          · skip
                            replace h222 := (nI_eq (a := 0) (b := 0) (by omega) (by omega)).mp h222
                            refine lv_iconst (v := 2) hx hb dM_learnAll_230 (by decide) ?_
                            refine dw_is (ws' := [(m0, .inr (5, [.int (ft), .int (nI (n)), .ref aMd, .ref aO1, .ref aT2, .int (rs), .ref aSh, .ref aMk, .ref aFa, .ref aDe, .ref aNe, .ref aBy, .ref aPi, .int (pd), .ref aNw, .ref aNs, .ref aBf, .int (rn), .int (rr)])), (aMd, .inl (cI, 24, .inl (fun w => nI (db_rk (K w))))), (aO1, .inl (cI, 24, .inl (db_one1 K X Nm))), (aT2, .inl (cI, 24, .inl (db_two2 K Y Nm))), (aFa, .inl (cI, 768, .inl (upd (G3) (32 * (v) + k) (2))))]) hx hb hG 4 0 rfl rfl (32 * (v) + k) rfl (by omega) (by decide) dM_learnAll_231 rfl (fun H locs hG => ?_)
                            refine lv_iinc (v := nI (k + 1)) (lv' := [(3, .int (nI (k + 1))), (1, .int (0)), (5, .int (0)), (4, .int (db_tri (bt (g.1 v) k) (bt (g.2 v) k))), (0, .ref m0), (2, .int (nI (v)))]) hx hb dM_learnAll_232 hl (k := 5) rfl (dw_inc (k)) (by decide) rfl (fun ls hl => ?_)
                            refine lv_goto (tgt := 115) hx hb dM_learnAll_235 (by decide) ?_
                            have hnew := (db_lb_n (bt (g.1 v) k) (bt (g.2 v) k) (bt (g.1 (X v)) k) (bt (g.2 (X v)) k) (bt (g.1 (Y v)) k) (bt (g.2 (Y v)) k) (hap v (by omega) k (by omega)) (hap _ (hwf v hvn).2.1 k (by omega)) (hap _ (hwf v hvn).2.2.1 k (by omega)) (Or.inl h137))
                            rw [← b_and, ← b_and, ← b_and, ← b_and] at hnew
                            exact L115_ih (k + 1) (upd (G3) (32 * (v) + k) (2)) (0) ls H locs (by omega) (by omega) (db_out_upd _ ho (by omega)) (db_mix_s hmx hnew) (db_chg_same hch h190 (by rw [← hnew, h137])) (lv_sub hl [4, 1, 5, 0] rfl) hG
                          replace h222 : ¬ 0 = 0 := fun q => h222 ((nI_eq (a := 0) (b := 0) (by omega) (by omega)).mpr q)
                          (exfalso; omega)
                        exact absurd h137 h196
                      refine lv_aload_n hx hb dM_learnAll_140 rfl (lv_at hl 1 rfl) ?_
                      refine dw_get hx hb hts inMc hown hG 0 8 rfl rfl (by decide) hw502 rfl rfl dM_learnAll_141 ?_
                      refine lv_bipush (v := 32) hx hb dM_learnAll_144 (by decide) ?_
                      refine lv_aload_n hx hb dM_learnAll_146 rfl (lv_at hl 1 rfl) ?_
                      refine dw_get hx hb hts inMc hown hG 0 3 rfl rfl (by decide) hw497 rfl rfl dM_learnAll_147 ?_
                      refine lv_iload_n hx hb dM_learnAll_150 rfl (lv_at hl 3 rfl) ?_
                      refine dw_ia (x := nI (X v)) hx hb hG 2 0 rfl rfl (v) rfl (by omega) (by decide) (db_one_x (by unfold db_ux; omega)) dM_learnAll_151 ?_
                      refine lv_imul hx hb dM_learnAll_152 ?_
                      refine lv_topi (nm_r (pk_mul (32) (X v)) ?_)
                      refine lv_iload_n hx hb dM_learnAll_153 rfl (lv_at hl 4 rfl) ?_
                      refine lv_iadd hx hb dM_learnAll_154 ?_
                      refine lv_topi (nm_r (nI_add (32 * (X v)) (k)) ?_)
                      refine dw_ia (x := db_tri (bt (g.1 (X v)) k) (bt (g.2 (X v)) k)) hx hb hG 4 0 rfl rfl (32 * (X v) + k) rfl (by omega) (by decide) (by rw [ho _ (by omega)]; exact hre (X v) (by omega) k (by omega)) dM_learnAll_155 ?_
                      refine lv_iload hx hb dM_learnAll_156 (lv_at hl 0 rfl) ?_
                      refine lv_icmp_ne (tgt := 186) hx hb dM_learnAll_158 (by decide) (fun h158 => ?_) (fun h158 => ?_)
                      · skip
                        refine lv_iconst (v := 0) hx hb dM_learnAll_186 (by decide) ?_
                        refine lv_istore (lv' := [(5, .int (0)), (4, .int (db_tri (bt (g.1 v) k) (bt (g.2 v) k))), (0, .ref m0), (1, .int (c3)), (2, .int (nI (v))), (3, .int (nI (k)))]) hx hb dM_learnAll_187 hl (by decide) rfl (fun ls hl => ?_)
                        refine lv_iload_n hx hb dM_learnAll_189 rfl (lv_at hl 3 rfl) ?_
                        refine lv_if_ne (tgt := 204) hx hb dM_learnAll_190 (by decide) (fun h190 => ?_) (fun h190 => ?_)
                        · skip
                          refine lv_iconst (v := 1) hx hb dM_learnAll_204 (by decide) ?_
                          refine lv_goto (tgt := 209) hx hb dM_learnAll_205 (by decide) ?_
                          refine lv_istore_n (lv' := [(1, .int (1)), (5, .int (0)), (4, .int (db_tri (bt (g.1 v) k) (bt (g.2 v) k))), (0, .ref m0), (2, .int (nI (v))), (3, .int (nI (k)))]) hx hb dM_learnAll_209 rfl hl (by decide) rfl (fun ls hl => ?_)
                          refine lv_aload_n hx hb dM_learnAll_210 rfl (lv_at hl 3 rfl) ?_
                          refine dw_get hx hb hts inMc hown hG 0 8 rfl rfl (by decide) hw502 rfl rfl dM_learnAll_211 ?_
                          refine lv_bipush (v := 32) hx hb dM_learnAll_214 (by decide) ?_
                          refine lv_iload_n hx hb dM_learnAll_216 rfl (lv_at hl 4 rfl) ?_
                          refine lv_imul hx hb dM_learnAll_217 ?_
                          refine lv_topi (nm_r (pk_mul (32) (v)) ?_)
                          refine lv_iload_n hx hb dM_learnAll_218 rfl (lv_at hl 5 rfl) ?_
                          refine lv_iadd hx hb dM_learnAll_219 ?_
                          refine lv_topi (nm_r (nI_add (32 * (v)) (k)) ?_)
                          refine lv_iload hx hb dM_learnAll_220 (lv_at hl 1 rfl) ?_
                          refine lv_if_eq (tgt := 230) hx hb dM_learnAll_222 (by decide) (fun h222 => ?_) (fun h222 => ?_)
                          · skip
                            replace h222 := (nI_eq (a := 0) (b := 0) (by omega) (by omega)).mp h222
                            refine lv_iconst (v := 2) hx hb dM_learnAll_230 (by decide) ?_
                            refine dw_is (ws' := [(m0, .inr (5, [.int (ft), .int (nI (n)), .ref aMd, .ref aO1, .ref aT2, .int (rs), .ref aSh, .ref aMk, .ref aFa, .ref aDe, .ref aNe, .ref aBy, .ref aPi, .int (pd), .ref aNw, .ref aNs, .ref aBf, .int (rn), .int (rr)])), (aMd, .inl (cI, 24, .inl (fun w => nI (db_rk (K w))))), (aO1, .inl (cI, 24, .inl (db_one1 K X Nm))), (aT2, .inl (cI, 24, .inl (db_two2 K Y Nm))), (aFa, .inl (cI, 768, .inl (upd (G3) (32 * (v) + k) (2))))]) hx hb hG 4 0 rfl rfl (32 * (v) + k) rfl (by omega) (by decide) dM_learnAll_231 rfl (fun H locs hG => ?_)
                            refine lv_iinc (v := nI (k + 1)) (lv' := [(3, .int (nI (k + 1))), (1, .int (1)), (5, .int (0)), (4, .int (db_tri (bt (g.1 v) k) (bt (g.2 v) k))), (0, .ref m0), (2, .int (nI (v)))]) hx hb dM_learnAll_232 hl (k := 5) rfl (dw_inc (k)) (by decide) rfl (fun ls hl => ?_)
                            refine lv_goto (tgt := 115) hx hb dM_learnAll_235 (by decide) ?_
                            have hnew := (db_lb_n (bt (g.1 v) k) (bt (g.2 v) k) (bt (g.1 (X v)) k) (bt (g.2 (X v)) k) (bt (g.1 (Y v)) k) (bt (g.2 (Y v)) k) (hap v (by omega) k (by omega)) (hap _ (hwf v hvn).2.1 k (by omega)) (hap _ (hwf v hvn).2.2.1 k (by omega)) (Or.inr (Or.inl h158)))
                            rw [← b_and, ← b_and, ← b_and, ← b_and] at hnew
                            exact L115_ih (k + 1) (upd (G3) (32 * (v) + k) (2)) (1) ls H locs (by omega) (by omega) (db_out_upd _ ho (by omega)) (db_mix_s hmx hnew) (db_chg_1 hch h190) (lv_sub hl [4, 1, 5, 0] rfl) hG
                          replace h222 : ¬ 0 = 0 := fun q => h222 ((nI_eq (a := 0) (b := 0) (by omega) (by omega)).mpr q)
                          (exfalso; omega)
                        refine lv_iload hx hb dM_learnAll_193 (lv_at hl 1 rfl) ?_
                        refine lv_iconst (v := 2) hx hb dM_learnAll_195 (by decide) ?_
                        refine lv_icmp_eq (tgt := 208) hx hb dM_learnAll_196 (by decide) (fun h196 => ?_) (fun h196 => ?_)
                        · skip
                          exact absurd h196 h137
                        refine lv_iload hx hb dM_learnAll_199 (lv_at hl 0 rfl) ?_
                        refine lv_if_ne (tgt := 208) hx hb dM_learnAll_201 (by decide) (fun h201 => ?_) (fun h201 => ?_)
                        · skip
                          replace h201 : ¬ 0 = 0 := fun q => h201 ((nI_eq (a := 0) (b := 0) (by omega) (by omega)).mpr q)
                          (exfalso; omega)
                        replace h201 := (nI_eq (a := 0) (b := 0) (by omega) (by omega)).mp h201
                        refine lv_iconst (v := 1) hx hb dM_learnAll_204 (by decide) ?_
                        refine lv_goto (tgt := 209) hx hb dM_learnAll_205 (by decide) ?_
                        refine lv_istore_n (lv' := [(1, .int (1)), (5, .int (0)), (4, .int (db_tri (bt (g.1 v) k) (bt (g.2 v) k))), (0, .ref m0), (2, .int (nI (v))), (3, .int (nI (k)))]) hx hb dM_learnAll_209 rfl hl (by decide) rfl (fun ls hl => ?_)
                        refine lv_aload_n hx hb dM_learnAll_210 rfl (lv_at hl 3 rfl) ?_
                        refine dw_get hx hb hts inMc hown hG 0 8 rfl rfl (by decide) hw502 rfl rfl dM_learnAll_211 ?_
                        refine lv_bipush (v := 32) hx hb dM_learnAll_214 (by decide) ?_
                        refine lv_iload_n hx hb dM_learnAll_216 rfl (lv_at hl 4 rfl) ?_
                        refine lv_imul hx hb dM_learnAll_217 ?_
                        refine lv_topi (nm_r (pk_mul (32) (v)) ?_)
                        refine lv_iload_n hx hb dM_learnAll_218 rfl (lv_at hl 5 rfl) ?_
                        refine lv_iadd hx hb dM_learnAll_219 ?_
                        refine lv_topi (nm_r (nI_add (32 * (v)) (k)) ?_)
                        refine lv_iload hx hb dM_learnAll_220 (lv_at hl 1 rfl) ?_
                        refine lv_if_eq (tgt := 230) hx hb dM_learnAll_222 (by decide) (fun h222 => ?_) (fun h222 => ?_)
                        · skip
                          replace h222 := (nI_eq (a := 0) (b := 0) (by omega) (by omega)).mp h222
                          refine lv_iconst (v := 2) hx hb dM_learnAll_230 (by decide) ?_
                          refine dw_is (ws' := [(m0, .inr (5, [.int (ft), .int (nI (n)), .ref aMd, .ref aO1, .ref aT2, .int (rs), .ref aSh, .ref aMk, .ref aFa, .ref aDe, .ref aNe, .ref aBy, .ref aPi, .int (pd), .ref aNw, .ref aNs, .ref aBf, .int (rn), .int (rr)])), (aMd, .inl (cI, 24, .inl (fun w => nI (db_rk (K w))))), (aO1, .inl (cI, 24, .inl (db_one1 K X Nm))), (aT2, .inl (cI, 24, .inl (db_two2 K Y Nm))), (aFa, .inl (cI, 768, .inl (upd (G3) (32 * (v) + k) (2))))]) hx hb hG 4 0 rfl rfl (32 * (v) + k) rfl (by omega) (by decide) dM_learnAll_231 rfl (fun H locs hG => ?_)
                          refine lv_iinc (v := nI (k + 1)) (lv' := [(3, .int (nI (k + 1))), (1, .int (1)), (5, .int (0)), (4, .int (db_tri (bt (g.1 v) k) (bt (g.2 v) k))), (0, .ref m0), (2, .int (nI (v)))]) hx hb dM_learnAll_232 hl (k := 5) rfl (dw_inc (k)) (by decide) rfl (fun ls hl => ?_)
                          refine lv_goto (tgt := 115) hx hb dM_learnAll_235 (by decide) ?_
                          have hnew := (db_lb_n (bt (g.1 v) k) (bt (g.2 v) k) (bt (g.1 (X v)) k) (bt (g.2 (X v)) k) (bt (g.1 (Y v)) k) (bt (g.2 (Y v)) k) (hap v (by omega) k (by omega)) (hap _ (hwf v hvn).2.1 k (by omega)) (hap _ (hwf v hvn).2.2.1 k (by omega)) (Or.inr (Or.inl h158)))
                          rw [← b_and, ← b_and, ← b_and, ← b_and] at hnew
                          exact L115_ih (k + 1) (upd (G3) (32 * (v) + k) (2)) (1) ls H locs (by omega) (by omega) (db_out_upd _ ho (by omega)) (db_mix_s hmx hnew) (db_chg_new hch (fun q => h137 (q.symm.trans hnew.symm))) (lv_sub hl [4, 1, 5, 0] rfl) hG
                        replace h222 : ¬ 0 = 0 := fun q => h222 ((nI_eq (a := 0) (b := 0) (by omega) (by omega)).mpr q)
                        (exfalso; omega)
                      refine lv_aload_n hx hb dM_learnAll_161 rfl (lv_at hl 1 rfl) ?_
                      refine dw_get hx hb hts inMc hown hG 0 8 rfl rfl (by decide) hw502 rfl rfl dM_learnAll_162 ?_
                      refine lv_bipush (v := 32) hx hb dM_learnAll_165 (by decide) ?_
                      refine lv_aload_n hx hb dM_learnAll_167 rfl (lv_at hl 1 rfl) ?_
                      refine dw_get hx hb hts inMc hown hG 0 4 rfl rfl (by decide) hw498 rfl rfl dM_learnAll_168 ?_
                      refine lv_iload_n hx hb dM_learnAll_171 rfl (lv_at hl 3 rfl) ?_
                      refine dw_ia (x := nI (Y v)) hx hb hG 3 0 rfl rfl (v) rfl (by omega) (by decide) (db_two_y (by omega)) dM_learnAll_172 ?_
                      refine lv_imul hx hb dM_learnAll_173 ?_
                      refine lv_topi (nm_r (pk_mul (32) (Y v)) ?_)
                      refine lv_iload_n hx hb dM_learnAll_174 rfl (lv_at hl 4 rfl) ?_
                      refine lv_iadd hx hb dM_learnAll_175 ?_
                      refine lv_topi (nm_r (nI_add (32 * (Y v)) (k)) ?_)
                      refine dw_ia (x := db_tri (bt (g.1 (Y v)) k) (bt (g.2 (Y v)) k)) hx hb hG 4 0 rfl rfl (32 * (Y v) + k) rfl (by have := (hwf v hvn).2.2.1; omega) (by decide) ((Decidable.em (Y v = v)).elim (fun e => by rw [e]; exact hmx.2 k (Nat.le_refl k) (by omega)) (fun e => by rw [ho _ (by omega)]; exact hre (Y v) (hwf v hvn).2.2.1 k (by omega))) dM_learnAll_176 ?_
                      refine lv_iload hx hb dM_learnAll_177 (lv_at hl 0 rfl) ?_
                      refine lv_icmp_ne (tgt := 186) hx hb dM_learnAll_179 (by decide) (fun h179 => ?_) (fun h179 => ?_)
                      · skip
                        refine lv_iconst (v := 0) hx hb dM_learnAll_186 (by decide) ?_
                        refine lv_istore (lv' := [(5, .int (0)), (4, .int (db_tri (bt (g.1 v) k) (bt (g.2 v) k))), (0, .ref m0), (1, .int (c3)), (2, .int (nI (v))), (3, .int (nI (k)))]) hx hb dM_learnAll_187 hl (by decide) rfl (fun ls hl => ?_)
                        refine lv_iload_n hx hb dM_learnAll_189 rfl (lv_at hl 3 rfl) ?_
                        refine lv_if_ne (tgt := 204) hx hb dM_learnAll_190 (by decide) (fun h190 => ?_) (fun h190 => ?_)
                        · skip
                          refine lv_iconst (v := 1) hx hb dM_learnAll_204 (by decide) ?_
                          refine lv_goto (tgt := 209) hx hb dM_learnAll_205 (by decide) ?_
                          refine lv_istore_n (lv' := [(1, .int (1)), (5, .int (0)), (4, .int (db_tri (bt (g.1 v) k) (bt (g.2 v) k))), (0, .ref m0), (2, .int (nI (v))), (3, .int (nI (k)))]) hx hb dM_learnAll_209 rfl hl (by decide) rfl (fun ls hl => ?_)
                          refine lv_aload_n hx hb dM_learnAll_210 rfl (lv_at hl 3 rfl) ?_
                          refine dw_get hx hb hts inMc hown hG 0 8 rfl rfl (by decide) hw502 rfl rfl dM_learnAll_211 ?_
                          refine lv_bipush (v := 32) hx hb dM_learnAll_214 (by decide) ?_
                          refine lv_iload_n hx hb dM_learnAll_216 rfl (lv_at hl 4 rfl) ?_
                          refine lv_imul hx hb dM_learnAll_217 ?_
                          refine lv_topi (nm_r (pk_mul (32) (v)) ?_)
                          refine lv_iload_n hx hb dM_learnAll_218 rfl (lv_at hl 5 rfl) ?_
                          refine lv_iadd hx hb dM_learnAll_219 ?_
                          refine lv_topi (nm_r (nI_add (32 * (v)) (k)) ?_)
                          refine lv_iload hx hb dM_learnAll_220 (lv_at hl 1 rfl) ?_
                          refine lv_if_eq (tgt := 230) hx hb dM_learnAll_222 (by decide) (fun h222 => ?_) (fun h222 => ?_)
                          · skip
                            replace h222 := (nI_eq (a := 0) (b := 0) (by omega) (by omega)).mp h222
                            refine lv_iconst (v := 2) hx hb dM_learnAll_230 (by decide) ?_
                            refine dw_is (ws' := [(m0, .inr (5, [.int (ft), .int (nI (n)), .ref aMd, .ref aO1, .ref aT2, .int (rs), .ref aSh, .ref aMk, .ref aFa, .ref aDe, .ref aNe, .ref aBy, .ref aPi, .int (pd), .ref aNw, .ref aNs, .ref aBf, .int (rn), .int (rr)])), (aMd, .inl (cI, 24, .inl (fun w => nI (db_rk (K w))))), (aO1, .inl (cI, 24, .inl (db_one1 K X Nm))), (aT2, .inl (cI, 24, .inl (db_two2 K Y Nm))), (aFa, .inl (cI, 768, .inl (upd (G3) (32 * (v) + k) (2))))]) hx hb hG 4 0 rfl rfl (32 * (v) + k) rfl (by omega) (by decide) dM_learnAll_231 rfl (fun H locs hG => ?_)
                            refine lv_iinc (v := nI (k + 1)) (lv' := [(3, .int (nI (k + 1))), (1, .int (1)), (5, .int (0)), (4, .int (db_tri (bt (g.1 v) k) (bt (g.2 v) k))), (0, .ref m0), (2, .int (nI (v)))]) hx hb dM_learnAll_232 hl (k := 5) rfl (dw_inc (k)) (by decide) rfl (fun ls hl => ?_)
                            refine lv_goto (tgt := 115) hx hb dM_learnAll_235 (by decide) ?_
                            have hnew := (db_lb_n (bt (g.1 v) k) (bt (g.2 v) k) (bt (g.1 (X v)) k) (bt (g.2 (X v)) k) (bt (g.1 (Y v)) k) (bt (g.2 (Y v)) k) (hap v (by omega) k (by omega)) (hap _ (hwf v hvn).2.1 k (by omega)) (hap _ (hwf v hvn).2.2.1 k (by omega)) (Or.inr (Or.inr h179)))
                            rw [← b_and, ← b_and, ← b_and, ← b_and] at hnew
                            exact L115_ih (k + 1) (upd (G3) (32 * (v) + k) (2)) (1) ls H locs (by omega) (by omega) (db_out_upd _ ho (by omega)) (db_mix_s hmx hnew) (db_chg_1 hch h190) (lv_sub hl [4, 1, 5, 0] rfl) hG
                          replace h222 : ¬ 0 = 0 := fun q => h222 ((nI_eq (a := 0) (b := 0) (by omega) (by omega)).mpr q)
                          (exfalso; omega)
                        refine lv_iload hx hb dM_learnAll_193 (lv_at hl 1 rfl) ?_
                        refine lv_iconst (v := 2) hx hb dM_learnAll_195 (by decide) ?_
                        refine lv_icmp_eq (tgt := 208) hx hb dM_learnAll_196 (by decide) (fun h196 => ?_) (fun h196 => ?_)
                        · skip
                          exact absurd h196 h137
                        refine lv_iload hx hb dM_learnAll_199 (lv_at hl 0 rfl) ?_
                        refine lv_if_ne (tgt := 208) hx hb dM_learnAll_201 (by decide) (fun h201 => ?_) (fun h201 => ?_)
                        · skip
                          replace h201 : ¬ 0 = 0 := fun q => h201 ((nI_eq (a := 0) (b := 0) (by omega) (by omega)).mpr q)
                          (exfalso; omega)
                        replace h201 := (nI_eq (a := 0) (b := 0) (by omega) (by omega)).mp h201
                        refine lv_iconst (v := 1) hx hb dM_learnAll_204 (by decide) ?_
                        refine lv_goto (tgt := 209) hx hb dM_learnAll_205 (by decide) ?_
                        refine lv_istore_n (lv' := [(1, .int (1)), (5, .int (0)), (4, .int (db_tri (bt (g.1 v) k) (bt (g.2 v) k))), (0, .ref m0), (2, .int (nI (v))), (3, .int (nI (k)))]) hx hb dM_learnAll_209 rfl hl (by decide) rfl (fun ls hl => ?_)
                        refine lv_aload_n hx hb dM_learnAll_210 rfl (lv_at hl 3 rfl) ?_
                        refine dw_get hx hb hts inMc hown hG 0 8 rfl rfl (by decide) hw502 rfl rfl dM_learnAll_211 ?_
                        refine lv_bipush (v := 32) hx hb dM_learnAll_214 (by decide) ?_
                        refine lv_iload_n hx hb dM_learnAll_216 rfl (lv_at hl 4 rfl) ?_
                        refine lv_imul hx hb dM_learnAll_217 ?_
                        refine lv_topi (nm_r (pk_mul (32) (v)) ?_)
                        refine lv_iload_n hx hb dM_learnAll_218 rfl (lv_at hl 5 rfl) ?_
                        refine lv_iadd hx hb dM_learnAll_219 ?_
                        refine lv_topi (nm_r (nI_add (32 * (v)) (k)) ?_)
                        refine lv_iload hx hb dM_learnAll_220 (lv_at hl 1 rfl) ?_
                        refine lv_if_eq (tgt := 230) hx hb dM_learnAll_222 (by decide) (fun h222 => ?_) (fun h222 => ?_)
                        · skip
                          replace h222 := (nI_eq (a := 0) (b := 0) (by omega) (by omega)).mp h222
                          refine lv_iconst (v := 2) hx hb dM_learnAll_230 (by decide) ?_
                          refine dw_is (ws' := [(m0, .inr (5, [.int (ft), .int (nI (n)), .ref aMd, .ref aO1, .ref aT2, .int (rs), .ref aSh, .ref aMk, .ref aFa, .ref aDe, .ref aNe, .ref aBy, .ref aPi, .int (pd), .ref aNw, .ref aNs, .ref aBf, .int (rn), .int (rr)])), (aMd, .inl (cI, 24, .inl (fun w => nI (db_rk (K w))))), (aO1, .inl (cI, 24, .inl (db_one1 K X Nm))), (aT2, .inl (cI, 24, .inl (db_two2 K Y Nm))), (aFa, .inl (cI, 768, .inl (upd (G3) (32 * (v) + k) (2))))]) hx hb hG 4 0 rfl rfl (32 * (v) + k) rfl (by omega) (by decide) dM_learnAll_231 rfl (fun H locs hG => ?_)
                          refine lv_iinc (v := nI (k + 1)) (lv' := [(3, .int (nI (k + 1))), (1, .int (1)), (5, .int (0)), (4, .int (db_tri (bt (g.1 v) k) (bt (g.2 v) k))), (0, .ref m0), (2, .int (nI (v)))]) hx hb dM_learnAll_232 hl (k := 5) rfl (dw_inc (k)) (by decide) rfl (fun ls hl => ?_)
                          refine lv_goto (tgt := 115) hx hb dM_learnAll_235 (by decide) ?_
                          have hnew := (db_lb_n (bt (g.1 v) k) (bt (g.2 v) k) (bt (g.1 (X v)) k) (bt (g.2 (X v)) k) (bt (g.1 (Y v)) k) (bt (g.2 (Y v)) k) (hap v (by omega) k (by omega)) (hap _ (hwf v hvn).2.1 k (by omega)) (hap _ (hwf v hvn).2.2.1 k (by omega)) (Or.inr (Or.inr h179)))
                          rw [← b_and, ← b_and, ← b_and, ← b_and] at hnew
                          exact L115_ih (k + 1) (upd (G3) (32 * (v) + k) (2)) (1) ls H locs (by omega) (by omega) (db_out_upd _ ho (by omega)) (db_mix_s hmx hnew) (db_chg_new hch (fun q => h137 (q.symm.trans hnew.symm))) (lv_sub hl [4, 1, 5, 0] rfl) hG
                        replace h222 : ¬ 0 = 0 := fun q => h222 ((nI_eq (a := 0) (b := 0) (by omega) (by omega)).mpr q)
                        (exfalso; omega)
                      refine lv_iconst (v := 1) hx hb dM_learnAll_182 (by decide) ?_
                      refine lv_goto (tgt := 187) hx hb dM_learnAll_183 (by decide) ?_
                      refine lv_istore (lv' := [(5, .int (1)), (4, .int (db_tri (bt (g.1 v) k) (bt (g.2 v) k))), (0, .ref m0), (1, .int (c3)), (2, .int (nI (v))), (3, .int (nI (k)))]) hx hb dM_learnAll_187 hl (by decide) rfl (fun ls hl => ?_)
                      refine lv_iload_n hx hb dM_learnAll_189 rfl (lv_at hl 3 rfl) ?_
                      refine lv_if_ne (tgt := 204) hx hb dM_learnAll_190 (by decide) (fun h190 => ?_) (fun h190 => ?_)
                      · skip
                        refine lv_iconst (v := 1) hx hb dM_learnAll_204 (by decide) ?_
                        refine lv_goto (tgt := 209) hx hb dM_learnAll_205 (by decide) ?_
                        refine lv_istore_n (lv' := [(1, .int (1)), (5, .int (1)), (4, .int (db_tri (bt (g.1 v) k) (bt (g.2 v) k))), (0, .ref m0), (2, .int (nI (v))), (3, .int (nI (k)))]) hx hb dM_learnAll_209 rfl hl (by decide) rfl (fun ls hl => ?_)
                        refine lv_aload_n hx hb dM_learnAll_210 rfl (lv_at hl 3 rfl) ?_
                        refine dw_get hx hb hts inMc hown hG 0 8 rfl rfl (by decide) hw502 rfl rfl dM_learnAll_211 ?_
                        refine lv_bipush (v := 32) hx hb dM_learnAll_214 (by decide) ?_
                        refine lv_iload_n hx hb dM_learnAll_216 rfl (lv_at hl 4 rfl) ?_
                        refine lv_imul hx hb dM_learnAll_217 ?_
                        refine lv_topi (nm_r (pk_mul (32) (v)) ?_)
                        refine lv_iload_n hx hb dM_learnAll_218 rfl (lv_at hl 5 rfl) ?_
                        refine lv_iadd hx hb dM_learnAll_219 ?_
                        refine lv_topi (nm_r (nI_add (32 * (v)) (k)) ?_)
                        refine lv_iload hx hb dM_learnAll_220 (lv_at hl 1 rfl) ?_
                        refine lv_if_eq (tgt := 230) hx hb dM_learnAll_222 (by decide) (fun h222 => ?_) (fun h222 => ?_)
                        · skip
                          replace h222 := (nI_eq (a := 1) (b := 0) (by omega) (by omega)).mp h222
                          (exfalso; omega)
                        replace h222 : ¬ 1 = 0 := fun q => h222 ((nI_eq (a := 1) (b := 0) (by omega) (by omega)).mpr q)
                        refine lv_iload hx hb dM_learnAll_225 (lv_at hl 2 rfl) ?_
                        refine lv_goto (tgt := 231) hx hb dM_learnAll_227 (by decide) ?_
                        refine dw_is (ws' := [(m0, .inr (5, [.int (ft), .int (nI (n)), .ref aMd, .ref aO1, .ref aT2, .int (rs), .ref aSh, .ref aMk, .ref aFa, .ref aDe, .ref aNe, .ref aBy, .ref aPi, .int (pd), .ref aNw, .ref aNs, .ref aBf, .int (rn), .int (rr)])), (aMd, .inl (cI, 24, .inl (fun w => nI (db_rk (K w))))), (aO1, .inl (cI, 24, .inl (db_one1 K X Nm))), (aT2, .inl (cI, 24, .inl (db_two2 K Y Nm))), (aFa, .inl (cI, 768, .inl (upd (G3) (32 * (v) + k) (db_tri (bt (g.1 v) k) (bt (g.2 v) k)))))]) hx hb hG 4 0 rfl rfl (32 * (v) + k) rfl (by omega) (by decide) dM_learnAll_231 rfl (fun H locs hG => ?_)
                        refine lv_iinc (v := nI (k + 1)) (lv' := [(3, .int (nI (k + 1))), (1, .int (1)), (5, .int (1)), (4, .int (db_tri (bt (g.1 v) k) (bt (g.2 v) k))), (0, .ref m0), (2, .int (nI (v)))]) hx hb dM_learnAll_232 hl (k := 5) rfl (dw_inc (k)) (by decide) rfl (fun ls hl => ?_)
                        refine lv_goto (tgt := 115) hx hb dM_learnAll_235 (by decide) ?_
                        have hnew := (db_lb_y (bt (g.1 v) k) (bt (g.2 v) k) (bt (g.1 (X v)) k) (bt (g.2 (X v)) k) (bt (g.1 (Y v)) k) (bt (g.2 (Y v)) k) (hap v (by omega) k (by omega)) (hap _ (hwf v hvn).2.1 k (by omega)) (hap _ (hwf v hvn).2.2.1 k (by omega)) h137 h158 h179)
                        rw [← b_and, ← b_and, ← b_and, ← b_and] at hnew
                        exact L115_ih (k + 1) (upd (G3) (32 * (v) + k) (db_tri (bt (g.1 v) k) (bt (g.2 v) k))) (1) ls H locs (by omega) (by omega) (db_out_upd _ ho (by omega)) (db_mix_s hmx hnew) (db_chg_1 hch h190) (lv_sub hl [4, 1, 5, 0] rfl) hG
                      refine lv_iload hx hb dM_learnAll_193 (lv_at hl 1 rfl) ?_
                      refine lv_iconst (v := 2) hx hb dM_learnAll_195 (by decide) ?_
                      refine lv_icmp_eq (tgt := 208) hx hb dM_learnAll_196 (by decide) (fun h196 => ?_) (fun h196 => ?_)
                      · skip
                        exact absurd h196 h137
                      refine lv_iload hx hb dM_learnAll_199 (lv_at hl 0 rfl) ?_
                      refine lv_if_ne (tgt := 208) hx hb dM_learnAll_201 (by decide) (fun h201 => ?_) (fun h201 => ?_)
                      · skip
                        replace h201 : ¬ 1 = 0 := fun q => h201 ((nI_eq (a := 1) (b := 0) (by omega) (by omega)).mpr q)
                        refine lv_iconst (v := 0) hx hb dM_learnAll_208 (by decide) ?_
                        refine lv_istore_n (lv' := [(1, .int (0)), (5, .int (1)), (4, .int (db_tri (bt (g.1 v) k) (bt (g.2 v) k))), (0, .ref m0), (2, .int (nI (v))), (3, .int (nI (k)))]) hx hb dM_learnAll_209 rfl hl (by decide) rfl (fun ls hl => ?_)
                        refine lv_aload_n hx hb dM_learnAll_210 rfl (lv_at hl 3 rfl) ?_
                        refine dw_get hx hb hts inMc hown hG 0 8 rfl rfl (by decide) hw502 rfl rfl dM_learnAll_211 ?_
                        refine lv_bipush (v := 32) hx hb dM_learnAll_214 (by decide) ?_
                        refine lv_iload_n hx hb dM_learnAll_216 rfl (lv_at hl 4 rfl) ?_
                        refine lv_imul hx hb dM_learnAll_217 ?_
                        refine lv_topi (nm_r (pk_mul (32) (v)) ?_)
                        refine lv_iload_n hx hb dM_learnAll_218 rfl (lv_at hl 5 rfl) ?_
                        refine lv_iadd hx hb dM_learnAll_219 ?_
                        refine lv_topi (nm_r (nI_add (32 * (v)) (k)) ?_)
                        refine lv_iload hx hb dM_learnAll_220 (lv_at hl 1 rfl) ?_
                        refine lv_if_eq (tgt := 230) hx hb dM_learnAll_222 (by decide) (fun h222 => ?_) (fun h222 => ?_)
                        · skip
                          replace h222 := (nI_eq (a := 1) (b := 0) (by omega) (by omega)).mp h222
                          (exfalso; omega)
                        replace h222 : ¬ 1 = 0 := fun q => h222 ((nI_eq (a := 1) (b := 0) (by omega) (by omega)).mpr q)
                        refine lv_iload hx hb dM_learnAll_225 (lv_at hl 2 rfl) ?_
                        refine lv_goto (tgt := 231) hx hb dM_learnAll_227 (by decide) ?_
                        refine dw_is (ws' := [(m0, .inr (5, [.int (ft), .int (nI (n)), .ref aMd, .ref aO1, .ref aT2, .int (rs), .ref aSh, .ref aMk, .ref aFa, .ref aDe, .ref aNe, .ref aBy, .ref aPi, .int (pd), .ref aNw, .ref aNs, .ref aBf, .int (rn), .int (rr)])), (aMd, .inl (cI, 24, .inl (fun w => nI (db_rk (K w))))), (aO1, .inl (cI, 24, .inl (db_one1 K X Nm))), (aT2, .inl (cI, 24, .inl (db_two2 K Y Nm))), (aFa, .inl (cI, 768, .inl (upd (G3) (32 * (v) + k) (db_tri (bt (g.1 v) k) (bt (g.2 v) k)))))]) hx hb hG 4 0 rfl rfl (32 * (v) + k) rfl (by omega) (by decide) dM_learnAll_231 rfl (fun H locs hG => ?_)
                        refine lv_iinc (v := nI (k + 1)) (lv' := [(3, .int (nI (k + 1))), (1, .int (0)), (5, .int (1)), (4, .int (db_tri (bt (g.1 v) k) (bt (g.2 v) k))), (0, .ref m0), (2, .int (nI (v)))]) hx hb dM_learnAll_232 hl (k := 5) rfl (dw_inc (k)) (by decide) rfl (fun ls hl => ?_)
                        refine lv_goto (tgt := 115) hx hb dM_learnAll_235 (by decide) ?_
                        have hnew := (db_lb_y (bt (g.1 v) k) (bt (g.2 v) k) (bt (g.1 (X v)) k) (bt (g.2 (X v)) k) (bt (g.1 (Y v)) k) (bt (g.2 (Y v)) k) (hap v (by omega) k (by omega)) (hap _ (hwf v hvn).2.1 k (by omega)) (hap _ (hwf v hvn).2.2.1 k (by omega)) h137 h158 h179)
                        rw [← b_and, ← b_and, ← b_and, ← b_and] at hnew
                        exact L115_ih (k + 1) (upd (G3) (32 * (v) + k) (db_tri (bt (g.1 v) k) (bt (g.2 v) k))) (0) ls H locs (by omega) (by omega) (db_out_upd _ ho (by omega)) (db_mix_s hmx hnew) (db_chg_same hch h190 hnew.symm) (lv_sub hl [4, 1, 5, 0] rfl) hG
                      replace h201 := (nI_eq (a := 1) (b := 0) (by omega) (by omega)).mp h201
                      (exfalso; omega)
                  exact L115 _ (0) (G2) (c2) ls H locs (Nat.lt_succ_self _) (by omega) (db_out_rfl _ _) (db_mix0 _ _ (hre v (by omega))) (hlc.elim (fun q => Or.inl ⟨q.1, q.1, fun j hj => by omega⟩) (fun q => Or.inr ⟨q.1, Or.inl q.1⟩)) (lv_sub hl [1, 2, 3, 0] rfl) hG
                replace h102 : ¬ db_rk (K v) = 11 := fun q => h102 ((nI_eq (a := db_rk (K v)) (b := 11) (by omega) (by omega)).mpr q)
                have hk13 : ¬ K v = 13 := fun q => h102 ((db_rk13 hw1).mpr q)
                have hk12 : K v ≤ 12 := by omega
                have hxn := (hwf v hvn).2.1
                have hyn := (hwf v hvn).2.2.1
                refine lv_aload_n hx hb dM_learnAll_105 rfl (lv_at hl 0 rfl) ?_
                refine lv_iload_n hx hb dM_learnAll_106 rfl (lv_at hl 2 rfl) ?_
                refine dw_callv (wc := [(m0, .inr (5, [.int (ft), .int (nI (n)), .ref aMd, .ref aO1, .ref aT2, .int (rs), .ref aSh, .ref aMk, .ref aFa, .ref aDe, .ref aNe, .ref aBy, .ref aPi, .int (pd), .ref aNw, .ref aNs, .ref aBf, .int (rn), .int (rr)])), (aMd, .inl (cI, 24, .inl (fun w => nI (db_rk (K w))))), (aO1, .inl (cI, 24, .inl (db_one1 K X Nm))), (aT2, .inl (cI, 24, .inl (db_two2 K Y Nm))), (aFa, .inl (cI, 768, .inl (G2)))]) (wr := []) hG [0, 1, 2, 3, 4] [] rfl rfl (by decide) (by decide) (va_runV (As := [.int (nI (v))]) (rest := []) ⟨hx, hb, hml, hown, hts⟩ (rf_learn l dC dI cI cZ m0 aMd aO1 aT2 aSh aMk aFa aDe aNe aBy aPi aNw aNs aBf ft (nI n) rs pd rn rr v (X v) (Y v) (Nm v) (fun w => nI (db_rk (K w))) (db_one1 K X Nm) (db_two2 K Y Nm) (G2) (g.1 (X v)) (g.2 (X v)) (g.1 (Y v)) (g.2 (Y v)) (K v) H.size (by omega) (by omega) rfl (fun q => ⟨(hwf v hvn).2.2.2.1 q, db_one_x q, hre _ (by have := (hwf v hvn).2.2.2.1 q; omega), hap _ (by have := (hwf v hvn).2.2.2.1 q; omega)⟩) (fun q => ⟨(hwf v hvn).2.2.2.2.1 q, db_two_y (Or.inl q), hre _ (by have := (hwf v hvn).2.2.2.2.1 q; omega), hap _ (by have := (hwf v hvn).2.2.2.2.1 q; omega)⟩) (fun q => ⟨db_two_d q, (hwf v hvn).2.2.2.2.2.1 q⟩) (fun q => db_one_c (Or.inr q))) (dc_V 1 hts tw_609 tw_611 tp_M_learn tw_7 tw_612 rfl rfl (by decide +kernel) ⟨Nat.le_of_ble_eq_true rfl, Nat.le_of_ble_eq_true rfl⟩) (dw_preV (ci := 5) hG [0, 1, 2, 3, 4] [0, 1] rfl rfl (by decide) rfl rfl (q0 := 0) rfl) rfl rfl hl.1 rfl (lv_room (Nat.le_of_ble_eq_true rfl)) dM_learnAll_107 ⟨Nat.le_refl _, Nat.le_refl _⟩) (fun u H locs hp hG => ?_)
                rw [db_val_0 (by omega)] at hp
                have hG : dw_G (dC, dI) vwCl [(cI, .int), (cZ, .boolean)] A s.heap s [(m0, .inr (5, [.int (ft), .int (nI (n)), .ref aMd, .ref aO1, .ref aT2, .int (rs), .ref aSh, .ref aMk, .ref aFa, .ref aDe, .ref aNe, .ref aBy, .ref aPi, .int (pd), .ref aNw, .ref aNs, .ref aBf, .int (rn), .int (rr)])), (aMd, .inl (cI, 24, .inl (fun w => nI (db_rk (K w))))), (aO1, .inl (cI, 24, .inl (db_one1 K X Nm))), (aT2, .inl (cI, 24, .inl (db_two2 K Y Nm))), (aFa, .inl (cI, 768, .inl (u)))] H locs := hG
                refine lv_goto (tgt := 238) hx hb dM_learnAll_110 (by decide) ?_
                refine lv_iinc (v := nI (v + 1)) (lv' := [(2, .int (nI (v + 1))), (0, .ref m0), (1, .int (c2))]) hx hb dM_learnAll_238 hl (k := 2) rfl (dw_inc (v)) (by decide) rfl (fun ls hl => ?_)
                refine lv_goto (tgt := 86) hx hb dM_learnAll_241 (by decide) ?_
                exact L86_ih (v + 1) (u) (db_put g v (db_val K X Y Nm v g)) (c2) ls H locs (by omega) (by omega) (by rw [hg]; rfl) (db_reps_put (fun w hw hne => hre w hw) hp.1 hp.2) (db_lch_else hlc hk13) (lv_sub hl [1, 2, 0] rfl) hG
            exact L86 _ (0) (G) (f) (0) ls H locs (Nat.lt_succ_self _) (Nat.zero_le _) rfl hrf (db_lch0 _ _) (lv_sub hl [2, 1, 0] rfl) hG
        exact L78 _ (0) (G) (db_P n K X Y Nm 0 db_f0) (1) ls H locs (Nat.lt_succ_self _) (by omega) rfl (by have e : v = n := (by omega); rw [e] at hre hg; rw [hg] at hre; exact hre) (Or.inl ⟨rfl, fun j hj => by omega⟩) (lv_sub hl [1, 0] rfl) hG
      replace h7 : ¬ n ≤ v := fun q => h7 ((nI_leI (a := n) (b := v) (by omega) (by omega)).mpr q)
      have hvn : v < n := by omega
      have hw1 : K v ≤ 13 := (hwf v hvn).1
      have hrk : db_rk (K v) ≤ 13 := db_rk_le hw1
      have hap : db_aps v g := by rw [hg]; exact db_aps_p0 hwf db_f0 v (by omega)
      refine lv_aload_n hx hb dM_learnAll_10 rfl (lv_at hl 0 rfl) ?_
      refine dw_get hx hb hts inMc hown hG 0 2 rfl rfl (by decide) hw496 rfl rfl dM_learnAll_11 ?_
      refine lv_iload_n hx hb dM_learnAll_14 rfl (lv_at hl 1 rfl) ?_
      refine dw_ia (x := nI (db_rk (K v))) hx hb hG 1 0 rfl rfl (v) rfl (by omega) (by decide) rfl dM_learnAll_15 ?_
      refine lv_bipush (v := 11) hx hb dM_learnAll_16 (by decide) ?_
      refine lv_icmp_ne (tgt := 65) hx hb dM_learnAll_18 (by decide) (fun h18 => ?_) (fun h18 => ?_)
      · skip
        replace h18 : ¬ db_rk (K v) = 11 := fun q => h18 ((nI_eq (a := db_rk (K v)) (b := 11) (by omega) (by omega)).mpr q)
        have hk13 : ¬ K v = 13 := fun q => h18 ((db_rk13 hw1).mpr q)
        have hk12 : K v ≤ 12 := by omega
        refine lv_aload_n hx hb dM_learnAll_65 rfl (lv_at hl 0 rfl) ?_
        refine lv_iload_n hx hb dM_learnAll_66 rfl (lv_at hl 1 rfl) ?_
        refine dw_callv (wc := [(m0, .inr (5, [.int (ft), .int (nI (n)), .ref aMd, .ref aO1, .ref aT2, .int (rs), .ref aSh, .ref aMk, .ref aFa, .ref aDe, .ref aNe, .ref aBy, .ref aPi, .int (pd), .ref aNw, .ref aNs, .ref aBf, .int (rn), .int (rr)])), (aMd, .inl (cI, 24, .inl (fun w => nI (db_rk (K w))))), (aO1, .inl (cI, 24, .inl (db_one1 K X Nm))), (aT2, .inl (cI, 24, .inl (db_two2 K Y Nm))), (aFa, .inl (cI, 768, .inl (G)))]) (wr := []) hG [0, 1, 2, 3, 4] [] rfl rfl (by decide) (by decide) (va_runV (As := [.int (nI (v))]) (rest := []) ⟨hx, hb, hml, hown, hts⟩ (rf_learn l dC dI cI cZ m0 aMd aO1 aT2 aSh aMk aFa aDe aNe aBy aPi aNw aNs aBf ft (nI n) rs pd rn rr v (X v) (Y v) (Nm v) (fun w => nI (db_rk (K w))) (db_one1 K X Nm) (db_two2 K Y Nm) (G) (g.1 (X v)) (g.2 (X v)) (g.1 (Y v)) (g.2 (Y v)) (K v) H.size (by omega) (by omega) rfl (fun q => ⟨(hwf v hvn).2.2.2.1 q, db_one_x q, hre _ (by have := (hwf v hvn).2.2.2.1 q; omega), hap _ (by have := (hwf v hvn).2.2.2.1 q; omega)⟩) (fun q => ⟨(hwf v hvn).2.2.2.2.1 q, db_two_y (Or.inl q), hre _ (by have := (hwf v hvn).2.2.2.2.1 q; omega), hap _ (by have := (hwf v hvn).2.2.2.2.1 q; omega)⟩) (fun q => ⟨db_two_d q, (hwf v hvn).2.2.2.2.2.1 q⟩) (fun q => db_one_c (Or.inr q))) (dc_V 1 hts tw_609 tw_611 tp_M_learn tw_7 tw_612 rfl rfl (by decide +kernel) ⟨Nat.le_of_ble_eq_true rfl, Nat.le_of_ble_eq_true rfl⟩) (dw_preV (ci := 5) hG [0, 1, 2, 3, 4] [0, 1] rfl rfl (by decide) rfl rfl (q0 := 0) rfl) rfl rfl hl.1 rfl (lv_room (Nat.le_of_ble_eq_true rfl)) dM_learnAll_67 ⟨Nat.le_refl _, Nat.le_refl _⟩) (fun u H locs hp hG => ?_)
        rw [db_val_0 (by omega)] at hp
        have hG : dw_G (dC, dI) vwCl [(cI, .int), (cZ, .boolean)] A s.heap s [(m0, .inr (5, [.int (ft), .int (nI (n)), .ref aMd, .ref aO1, .ref aT2, .int (rs), .ref aSh, .ref aMk, .ref aFa, .ref aDe, .ref aNe, .ref aBy, .ref aPi, .int (pd), .ref aNw, .ref aNs, .ref aBf, .int (rn), .int (rr)])), (aMd, .inl (cI, 24, .inl (fun w => nI (db_rk (K w))))), (aO1, .inl (cI, 24, .inl (db_one1 K X Nm))), (aT2, .inl (cI, 24, .inl (db_two2 K Y Nm))), (aFa, .inl (cI, 768, .inl (u)))] H locs := hG
        refine lv_iinc (v := nI (v + 1)) (lv' := [(1, .int (nI (v + 1))), (0, .ref m0)]) hx hb dM_learnAll_70 hl (k := 1) rfl (dw_inc (v)) (by decide) rfl (fun ls hl => ?_)
        refine lv_goto (tgt := 2) hx hb dM_learnAll_73 (by decide) ?_
        exact L2_ih (v + 1) (u) (db_put g v (db_val K X Y Nm v g)) ls H locs (by omega) (by omega) (by rw [hg]; exact (db_s0_else hk13).symm) (db_reps_put (fun w hw hne => hre w (by omega)) hp.1 hp.2) (lv_sub hl [1, 0] rfl) hG
      replace h18 := (nI_eq (a := db_rk (K v)) (b := 11) (by omega) (by omega)).mp h18
      have hk13 : K v = 13 := (db_rk13 hw1).mp h18
      have hxv := (hwf v hvn).2.2.2.1 (by unfold db_ux; omega)
      refine lv_iconst (v := 0) hx hb dM_learnAll_21 (by decide) ?_
      refine lv_istore_n (lv' := [(2, .int (0)), (0, .ref m0), (1, .int (nI (v)))]) hx hb dM_learnAll_22 rfl hl (by decide) rfl (fun ls hl => ?_)
      have L23 : ∀ (zz : Nat) (k : Nat) (G2 : Nat → Int32) (ls : Array Slot) (H : Heap) (locs : List Loc), 32 - k < zz → k ≤ 32 → db_out G G2 v → db_part G2 v k (g.1 (X v)) (g.2 (X v)) → lv_has ls 6 [(0, .ref m0), (1, .int (nI (v))), (2, .int (nI (k)))] → dw_G (dC, dI) vwCl [(cI, .int), (cZ, .boolean)] A s.heap s [(m0, .inr (5, [.int (ft), .int (nI (n)), .ref aMd, .ref aO1, .ref aT2, .int (rs), .ref aSh, .ref aMk, .ref aFa, .ref aDe, .ref aNe, .ref aBy, .ref aPi, .int (pd), .ref aNw, .ref aNs, .ref aBf, .int (rn), .int (rr)])), (aMd, .inl (cI, 24, .inl (fun w => nI (db_rk (K w))))), (aO1, .inl (cI, 24, .inl (db_one1 K X Nm))), (aT2, .inl (cI, 24, .inl (db_two2 K Y Nm))), (aFa, .inl (cI, 768, .inl (G2)))] H locs → W p l e (headSpec wsM_learnAll { frames := 3, cells := 0, slots := 0, locals := 100 }).room s m [.ref m0].toArray below meth c H locs 0 0 Q (F0 m 23 ls []) := by
        intro zz
        induction zz with
        | zero => intro k G2 ls H locs hz; exact absurd hz (Nat.not_lt_zero _)
        | succ zz L23_ih =>
          intro k G2 ls H locs hz hk ho hp9 hl hG
          refine lv_iload_n hx hb dM_learnAll_23 rfl (lv_at hl 2 rfl) ?_
          refine lv_bipush (v := 32) hx hb dM_learnAll_24 (by decide) ?_
          refine lv_icmp_ge (tgt := 62) hx hb dM_learnAll_26 (by decide) (fun h26 => ?_) (fun h26 => ?_)
          · skip
            replace h26 := (nI_leI (a := 32) (b := k) (by omega) (by omega)).mp h26
            refine lv_goto (tgt := 70) hx hb dM_learnAll_62 (by decide) ?_
            refine lv_iinc (v := nI (v + 1)) (lv' := [(1, .int (nI (v + 1))), (0, .ref m0), (2, .int (nI (k)))]) hx hb dM_learnAll_70 hl (k := 1) rfl (dw_inc (v)) (by decide) rfl (fun ls hl => ?_)
            refine lv_goto (tgt := 2) hx hb dM_learnAll_73 (by decide) ?_
            exact L2_ih (v + 1) (G2) (db_put g v (g.1 (X v), g.2 (X v))) ls H locs (by omega) (by omega) (by rw [hg]; exact (db_s0_loop hk13).symm) (db_reps_put (fun w hw hne => hre w (by omega)) ho (by rw [show k = 32 by omega] at hp9; exact hp9)) (lv_sub hl [1, 0] rfl) hG
          replace h26 : ¬ 32 ≤ k := fun q => h26 ((nI_leI (a := 32) (b := k) (by omega) (by omega)).mpr q)
          refine lv_aload_n hx hb dM_learnAll_29 rfl (lv_at hl 0 rfl) ?_
          refine dw_get hx hb hts inMc hown hG 0 8 rfl rfl (by decide) hw502 rfl rfl dM_learnAll_30 ?_
          refine lv_bipush (v := 32) hx hb dM_learnAll_33 (by decide) ?_
          refine lv_iload_n hx hb dM_learnAll_35 rfl (lv_at hl 1 rfl) ?_
          refine lv_imul hx hb dM_learnAll_36 ?_
          refine lv_topi (nm_r (pk_mul (32) (v)) ?_)
          refine lv_iload_n hx hb dM_learnAll_37 rfl (lv_at hl 2 rfl) ?_
          refine lv_iadd hx hb dM_learnAll_38 ?_
          refine lv_topi (nm_r (nI_add (32 * (v)) (k)) ?_)
          refine lv_aload_n hx hb dM_learnAll_39 rfl (lv_at hl 0 rfl) ?_
          refine dw_get hx hb hts inMc hown hG 0 8 rfl rfl (by decide) hw502 rfl rfl dM_learnAll_40 ?_
          refine lv_bipush (v := 32) hx hb dM_learnAll_43 (by decide) ?_
          refine lv_aload_n hx hb dM_learnAll_45 rfl (lv_at hl 0 rfl) ?_
          refine dw_get hx hb hts inMc hown hG 0 3 rfl rfl (by decide) hw497 rfl rfl dM_learnAll_46 ?_
          refine lv_iload_n hx hb dM_learnAll_49 rfl (lv_at hl 1 rfl) ?_
          refine dw_ia (x := nI (X v)) hx hb hG 2 0 rfl rfl (v) rfl (by omega) (by decide) (db_one_x (by unfold db_ux; omega)) dM_learnAll_50 ?_
          refine lv_imul hx hb dM_learnAll_51 ?_
          refine lv_topi (nm_r (pk_mul (32) (X v)) ?_)
          refine lv_iload_n hx hb dM_learnAll_52 rfl (lv_at hl 2 rfl) ?_
          refine lv_iadd hx hb dM_learnAll_53 ?_
          refine lv_topi (nm_r (nI_add (32 * (X v)) (k)) ?_)
          refine dw_ia (x := db_tri (bt (g.1 (X v)) k) (bt (g.2 (X v)) k)) hx hb hG 4 0 rfl rfl (32 * (X v) + k) rfl (by omega) (by decide) (by rw [ho _ (by omega)]; exact hre (X v) (by omega) k (by omega)) dM_learnAll_54 ?_
          refine dw_is (ws' := [(m0, .inr (5, [.int (ft), .int (nI (n)), .ref aMd, .ref aO1, .ref aT2, .int (rs), .ref aSh, .ref aMk, .ref aFa, .ref aDe, .ref aNe, .ref aBy, .ref aPi, .int (pd), .ref aNw, .ref aNs, .ref aBf, .int (rn), .int (rr)])), (aMd, .inl (cI, 24, .inl (fun w => nI (db_rk (K w))))), (aO1, .inl (cI, 24, .inl (db_one1 K X Nm))), (aT2, .inl (cI, 24, .inl (db_two2 K Y Nm))), (aFa, .inl (cI, 768, .inl (upd (G2) (32 * (v) + k) (db_tri (bt (g.1 (X v)) k) (bt (g.2 (X v)) k)))))]) hx hb hG 4 0 rfl rfl (32 * (v) + k) rfl (by omega) (by decide) dM_learnAll_55 rfl (fun H locs hG => ?_)
          refine lv_iinc (v := nI (k + 1)) (lv' := [(2, .int (nI (k + 1))), (0, .ref m0), (1, .int (nI (v)))]) hx hb dM_learnAll_56 hl (k := 2) rfl (dw_inc (k)) (by decide) rfl (fun ls hl => ?_)
          refine lv_goto (tgt := 23) hx hb dM_learnAll_59 (by decide) ?_
          exact L23_ih (k + 1) (upd (G2) (32 * (v) + k) (db_tri (bt (g.1 (X v)) k) (bt (g.2 (X v)) k))) ls H locs (by omega) (by omega) (db_out_upd _ ho (by omega)) (db_part_s hp9 rfl) (lv_sub hl [1, 2, 0] rfl) hG
      exact L23 _ (0) (G) ls H locs (Nat.lt_succ_self _) (by omega) (db_out_rfl _ _) (db_part0 _ _ _ _) (lv_sub hl [1, 2, 0] rfl) hG
  exact L2 _ (0) (Fa) (db_f0) ls H locs (Nat.lt_succ_self _) (Nat.zero_le _) rfl (fun w hw => by omega) (lv_sub hl [1, 0] rfl) hG

