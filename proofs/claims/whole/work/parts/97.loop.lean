/-! ===== the loop over the script ===== -/
theorem dl_and15 (x : Int32) : ∃ j, j < 16 ∧ (x &&& nI 15 : Int32) = nI j := by
  refine ⟨(x &&& nI 15 : Int32).toBitVec.toNat, ?_, ?_⟩
  · have h : (x &&& nI 15 : Int32).toBitVec.toNat ≤ 15 := by
      rw [Int32.toBitVec_and, BitVec.toNat_and]
      exact Nat.and_le_right
    omega
  · have h : (x &&& nI 15 : Int32).toBitVec.toNat < 2 ^ 32 := BitVec.isLt _
    apply Int32.toBitVec_inj.mp
    apply BitVec.eq_of_toNat_eq
    show _ = (BitVec.ofNat 32 (x &&& nI 15 : Int32).toBitVec.toNat).toNat
    rw [BitVec.toNat_ofNat, Nat.mod_eq_of_lt h]
theorem dl_gt {k L : Nat} (hk : k ≤ 512) (hL : L ≤ 2560) (h : ¬ (Int32.ofNat L - nI 5 < nI (5 * k))) : 5 * k + 5 ≤ L := by
  by_cases h5 : 5 ≤ L
  · have e : (Int32.ofNat L - nI 5 : Int32) = nI (L - 5) := by
      have := nI_add (L - 5) 5
      rw [show L - 5 + 5 = L from by omega] at this
      show nI L - nI 5 = nI (L - 5)
      rw [← this, Int32.add_sub_cancel]
    rw [e] at h
    have := mt (nI_ltI (a := L - 5) (b := 5 * k) (by omega) (by omega)).mpr h
    omega
  · exfalso
    apply h
    rw [Int32.lt_iff_toInt_lt, nI_toInt (by omega)]
    have e : (Int32.ofNat L - nI 5 : Int32).toInt = (L : Int) - 5 := by
      obtain rfl | rfl | rfl | rfl | rfl : L = 0 ∨ L = 1 ∨ L = 2 ∨ L = 3 ∨ L = 4 := by omega
      all_goals decide
    rw [e]
    omega
theorem dl_inc5 (k : Nat) : nI (5 * k) + 5 = nI (5 * (k + 1)) := nI_add (5 * k) 5
set_option maxRecDepth 100000 in
set_option maxHeartbeats 4000000 in
theorem ll_loop {p : Program} {e : Env} {s : State} {m : MethodId} {below : List Frame} {meth : Method} {c : Code} (l : Launch) (htr : l.stackTraces = false) {Q : State → Prop} (hx : p.tables.exec = Jvm.exec) (hb : c.code = cL_law) (hml : c.maxLocals = 7) (hown : s.vm.findClass RL = some m.cls) {c0 : Cond} {b : Nat} (hts : ∀ w ∈ c0 :: dt, w.before ([Value.ref b] : List Value).toArray s = true) (hNx : dx_N s) (hLx : dx_L s) {dC : Nat → ClassId} {dI : Nat → Nat → Nat} {cI cZ cJ : ClassId} {A : Nat → Prop} (hAn : ∀ q, q < s.heap.size → ¬ A q) {L : Nat} {xs : Nat → Int32} (hX : va_X b L xs s s.heap) (hbl : b < s.heap.size) (hbA : ¬ A b) (hL : L ≤ 2560) (b0 u0 aK aX aY aN aV aM f0 aZ aO e0 aD g0 aE aRp aNr aI c0 aW aS aBf h0 aW2 aS2 aB2 m0 rMd rO1 rT2 rSh rMk rFa rDe rNe rBy rPi rNw rNs rBf aOut : Nat) (kend : ∀ (k : Nat) (ls : Array Slot) (H : Heap) (locs : List Loc), k ≤ 512 → va_S A s.heap H locs → W p l e room_1 s m ([Value.ref b] : List Value).toArray below meth c H locs (41 + k) (4486 + 6 * k) Q (F0 m 1039 ls [])) :
    ∀ (zz : Nat) (n R rn rr : Nat) (K X Y : Nat → Nat) (Nm : Nat → Int32) (RV : Nat → Nat) (Ms : Nat → Int32) (Zs On D Rp D2 Nr : Nat → Int32) (ch ec gc an : Int32) (Nw Sn Bf Ns Ss Bg inp : Nat → Int32) (ft pd : Int32) (Fa De Ne By Pi Bef : Nat → Int32) (oF : Nat → Int64) (k : Nat) (ls : Array Slot) (H : Heap) (locs : List Loc), L - 5 * k < zz → k ≤ 512 → dl_Inv n R rn rr K X Y Nm RV Ms Zs On D Rp D2 Nr ch ec gc an Nw Sn Ns Ss → lv_has ls 7 [(4, .int (nI (5 * k))), (3, .ref aOut), (2, .ref m0), (1, .ref b0), (0, .ref b)] → dw_G (dC, dI) vwCl [(cI, .int), (cZ, .boolean), (cJ, .long)] A s.heap s [(b0, .inr (0, [.ref u0, .ref f0, .ref e0, .ref g0, .ref aRp, .ref aNr, .ref aI, .ref c0, .ref h0, .int (an)])), (u0, .inr (1, [.ref aK, .ref aX, .ref aY, .ref aN, .ref aV, .ref aM, .int (nI (n)), .int (nI (R))])), (aK, .inl (cI, 24, .inl (fun w => nI (K w)))), (aX, .inl (cI, 24, .inl (fun w => nI (X w)))), (aY, .inl (cI, 24, .inl (fun w => nI (Y w)))), (aN, .inl (cI, 24, .inl (Nm))), (aV, .inl (cI, 4, .inl (fun r => nI (RV r)))), (aM, .inl (cI, 4, .inl (Ms))), (f0, .inr (2, [.ref aZ, .ref aO, .int (ch)])), (aZ, .inl (cI, 24, .inl (Zs))), (aO, .inl (cI, 24, .inl (On))), (e0, .inr (3, [.ref aD, .int (ec)])), (aD, .inl (cI, 24, .inl (D))), (g0, .inr (3, [.ref aE, .int (gc)])), (aE, .inl (cI, 24, .inl (D2))), (aRp, .inl (cI, 24, .inl (Rp))), (aNr, .inl (cI, 24, .inl (Nr))), (c0, .inr (4, [.ref aW, .ref aS, .ref aBf])), (aW, .inl (cI, 24, .inl (Nw))), (aS, .inl (cI, 4, .inl (Sn))), (aBf, .inl (cI, 24, .inl (Bf))), (h0, .inr (4, [.ref aW2, .ref aS2, .ref aB2])), (aW2, .inl (cI, 24, .inl (Ns))), (aS2, .inl (cI, 4, .inl (Ss))), (aB2, .inl (cI, 24, .inl (Bg))), (aI, .inl (cI, 3, .inl (inp))), (m0, .inr (5, [.int (ft), .int (nI (n)), .ref rMd, .ref rO1, .ref rT2, .int (nI (R)), .ref rSh, .ref rMk, .ref rFa, .ref rDe, .ref rNe, .ref rBy, .ref rPi, .int (pd), .ref rNw, .ref rNs, .ref rBf, .int (nI (rn)), .int (nI (rr))])), (rMd, .inl (cI, 24, .inl (fun w => nI (db_rk (K w))))), (rO1, .inl (cI, 24, .inl (db_one1 K X Nm))), (rT2, .inl (cI, 24, .inl (db_two2 K Y Nm))), (rSh, .inl (cI, 4, .inl (fun r => nI (RV r)))), (rMk, .inl (cI, 4, .inl (Ms))), (rFa, .inl (cI, 768, .inl (Fa))), (rDe, .inl (cZ, 768, .inl (De))), (rNe, .inl (cZ, 768, .inl (Ne))), (rBy, .inl (cI, 24, .inl (By))), (rPi, .inl (cI, 1600, .inl (Pi))), (rNw, .inl (cI, 24, .inl (Nw))), (rNs, .inl (cI, 24, .inl (Ns))), (rBf, .inl (cI, 24, .inl (Bef))), (aOut, .inl (cJ, 1, .inr (.inl (oF))))] H locs → W p l e room_1 s m ([Value.ref b] : List Value).toArray below meth c H locs (41 + k) (4486 + 6 * k) Q (F0 m 23 ls []) := by
  intro zz
  induction zz with
  | zero =>
    intro n R rn rr K X Y Nm RV Ms Zs On D Rp D2 Nr ch ec gc an Nw Sn Bf Ns Ss Bg inp ft pd Fa De Ne By Pi Bef oF k ls H locs hz
    exact absurd hz (Nat.not_lt_zero _)
  | succ zz ih =>
    intro n R rn rr K X Y Nm RV Ms Zs On D Rp D2 Nr ch ec gc an Nw Sn Bf Ns Ss Bg inp ft pd Fa De Ne By Pi Bef oF k ls H locs hz hk hI hl hG
    refine lv_iload hx hb dL_law_23 (lv_at hl 0 rfl) ?_
    refine lv_aload_n hx hb dL_law_25 rfl (lv_at hl 4 rfl) ?_
    refine va_slen hx hb hX hbl hbA hG.2.2.2.1 dL_law_26 ?_
    refine lv_iconst (v := nI 5) hx hb dL_law_27 (by decide) ?_
    refine lv_isub hx hb dL_law_28 ?_
    refine lv_icmp_gt (tgt := 1039) hx hb dL_law_29 (by decide) (fun h => ?_) (fun h => ?_)
    · exact kend k ls H locs hk hG.2.2.2.1
    have hi : 5 * k + 5 ≤ L := dl_gt hk hL h
    refine lv_aload_n hx hb dL_law_32 rfl (lv_at hl 4 rfl) ?_
    refine lv_iload hx hb dL_law_33 (lv_at hl 0 rfl) ?_
    refine dw_sl (x := xs (5 * k)) hx hb hX hbl hbA hG (5 * k) rfl (by omega) hL rfl dL_law_35 ?_
    refine lv_bipush (v := nI 15) hx hb dL_law_36 (by decide) ?_
    refine lv_iand hx hb dL_law_38 ?_
    obtain ⟨j, hj, ej⟩ := dl_and15 (xs (5 * k))
    refine lv_topi (nm_r (show (xs (5 * k) &&& nI 15 : Int32) = nI j from ej) ?_)
    have K33 : ∀ (n R rn rr : Nat) (K X Y : Nat → Nat) (Nm : Nat → Int32) (RV : Nat → Nat) (Ms : Nat → Int32) (Zs On D Rp D2 Nr : Nat → Int32) (ch ec gc an : Int32) (Nw Sn Bf Ns Ss Bg inp : Nat → Int32) (ft pd : Int32) (Fa De Ne By Pi Bef : Nat → Int32) (oF : Nat → Int64) (ls : Array Slot) (H : Heap) (locs : List Loc), dl_Inv n R rn rr K X Y Nm RV Ms Zs On D Rp D2 Nr ch ec gc an Nw Sn Ns Ss → lv_has ls 7 [(4, .int (nI (5 * k))), (3, .ref aOut), (2, .ref m0), (1, .ref b0), (0, .ref b)] → dw_G (dC, dI) vwCl [(cI, .int), (cZ, .boolean), (cJ, .long)] A s.heap s [(b0, .inr (0, [.ref u0, .ref f0, .ref e0, .ref g0, .ref aRp, .ref aNr, .ref aI, .ref c0, .ref h0, .int (an)])), (u0, .inr (1, [.ref aK, .ref aX, .ref aY, .ref aN, .ref aV, .ref aM, .int (nI (n)), .int (nI (R))])), (aK, .inl (cI, 24, .inl (fun w => nI (K w)))), (aX, .inl (cI, 24, .inl (fun w => nI (X w)))), (aY, .inl (cI, 24, .inl (fun w => nI (Y w)))), (aN, .inl (cI, 24, .inl (Nm))), (aV, .inl (cI, 4, .inl (fun r => nI (RV r)))), (aM, .inl (cI, 4, .inl (Ms))), (f0, .inr (2, [.ref aZ, .ref aO, .int (ch)])), (aZ, .inl (cI, 24, .inl (Zs))), (aO, .inl (cI, 24, .inl (On))), (e0, .inr (3, [.ref aD, .int (ec)])), (aD, .inl (cI, 24, .inl (D))), (g0, .inr (3, [.ref aE, .int (gc)])), (aE, .inl (cI, 24, .inl (D2))), (aRp, .inl (cI, 24, .inl (Rp))), (aNr, .inl (cI, 24, .inl (Nr))), (c0, .inr (4, [.ref aW, .ref aS, .ref aBf])), (aW, .inl (cI, 24, .inl (Nw))), (aS, .inl (cI, 4, .inl (Sn))), (aBf, .inl (cI, 24, .inl (Bf))), (h0, .inr (4, [.ref aW2, .ref aS2, .ref aB2])), (aW2, .inl (cI, 24, .inl (Ns))), (aS2, .inl (cI, 4, .inl (Ss))), (aB2, .inl (cI, 24, .inl (Bg))), (aI, .inl (cI, 3, .inl (inp))), (m0, .inr (5, [.int (ft), .int (nI (n)), .ref rMd, .ref rO1, .ref rT2, .int (nI (R)), .ref rSh, .ref rMk, .ref rFa, .ref rDe, .ref rNe, .ref rBy, .ref rPi, .int (pd), .ref rNw, .ref rNs, .ref rBf, .int (nI (rn)), .int (nI (rr))])), (rMd, .inl (cI, 24, .inl (fun w => nI (db_rk (K w))))), (rO1, .inl (cI, 24, .inl (db_one1 K X Nm))), (rT2, .inl (cI, 24, .inl (db_two2 K Y Nm))), (rSh, .inl (cI, 4, .inl (fun r => nI (RV r)))), (rMk, .inl (cI, 4, .inl (Ms))), (rFa, .inl (cI, 768, .inl (Fa))), (rDe, .inl (cZ, 768, .inl (De))), (rNe, .inl (cZ, 768, .inl (Ne))), (rBy, .inl (cI, 24, .inl (By))), (rPi, .inl (cI, 1600, .inl (Pi))), (rNw, .inl (cI, 24, .inl (Nw))), (rNs, .inl (cI, 24, .inl (Ns))), (rBf, .inl (cI, 24, .inl (Bef))), (aOut, .inl (cJ, 1, .inr (.inl (oF))))] H locs → W p l e room_1 s m ([Value.ref b] : List Value).toArray below meth c H locs (41 + k + 1) (4486 + 6 * k + 6) Q (F0 m 1033 ls []) := by
      intro n R rn rr K X Y Nm RV Ms Zs On D Rp D2 Nr ch ec gc an Nw Sn Bf Ns Ss Bg inp ft pd Fa De Ne By Pi Bef oF ls H locs hI hl hG
      refine lv_iinc (v := nI (5 * (k + 1))) (lv' := [(4, .int (nI (5 * (k + 1)))), (3, .ref aOut), (2, .ref m0), (1, .ref b0), (0, .ref b)]) hx hb dL_law_1033 hl (k := 0) rfl (dl_inc5 k) (by decide) rfl (fun ls hl => ?_)
      refine lv_goto (tgt := 23) hx hb dL_law_1036 (by decide) ?_
      refine W.widen (k := 41 + (k + 1)) (n := 4486 + 6 * (k + 1)) (by omega) (by omega) ?_
      exact ih n R rn rr K X Y Nm RV Ms Zs On D Rp D2 Nr ch ec gc an Nw Sn Bf Ns Ss Bg inp ft pd Fa De Ne By Pi Bef oF (k + 1) ls H locs (by omega) (by omega) hI hl hG
    match j, hj with
    | 0, _ =>
      refine lv_tableIn (tgt := 108) hx hb dL_law_39 (by decide) (by decide) (off := 69) rfl (by decide) ?_
      exact lc_input l htr hx hb hml hown hts hNx hLx hAn hX hbl hbA hL b0 u0 aK aX aY aN aV aM f0 aZ aO e0 aD g0 aE aRp aNr aI c0 aW aS aBf h0 aW2 aS2 aB2 m0 rMd rO1 rT2 rSh rMk rFa rDe rNe rBy rPi rNw rNs rBf aOut n R rn rr K X Y Nm RV Ms Zs On D Rp D2 Nr ch ec gc an Nw Sn Bf Ns Ss Bg inp ft pd Fa De Ne By Pi Bef oF (5 * k) (41 + k) (4486 + 6 * k) hI hi (by omega) (by omega) hl hG K33
    | 1, _ =>
      refine lv_tableIn (tgt := 164) hx hb dL_law_39 (by decide) (by decide) (off := 125) rfl (by decide) ?_
      exact lc_constant l htr hx hb hml hown hts hNx hLx hAn hX hbl hbA hL b0 u0 aK aX aY aN aV aM f0 aZ aO e0 aD g0 aE aRp aNr aI c0 aW aS aBf h0 aW2 aS2 aB2 m0 rMd rO1 rT2 rSh rMk rFa rDe rNe rBy rPi rNw rNs rBf aOut n R rn rr K X Y Nm RV Ms Zs On D Rp D2 Nr ch ec gc an Nw Sn Bf Ns Ss Bg inp ft pd Fa De Ne By Pi Bef oF (5 * k) (41 + k) (4486 + 6 * k) hI hi (by omega) (by omega) hl hG K33
    | 2, _ =>
      refine lv_tableIn (tgt := 220) hx hb dL_law_39 (by decide) (by decide) (off := 181) rfl (by decide) ?_
      exact lc_binary l htr hx hb hml hown hts hNx hLx hAn hX hbl hbA hL b0 u0 aK aX aY aN aV aM f0 aZ aO e0 aD g0 aE aRp aNr aI c0 aW aS aBf h0 aW2 aS2 aB2 m0 rMd rO1 rT2 rSh rMk rFa rDe rNe rBy rPi rNw rNs rBf aOut n R rn rr K X Y Nm RV Ms Zs On D Rp D2 Nr ch ec gc an Nw Sn Bf Ns Ss Bg inp ft pd Fa De Ne By Pi Bef oF (5 * k) (41 + k) (4486 + 6 * k) hI hi (by omega) (by omega) hl hG K33
    | 3, _ =>
      refine lv_tableIn (tgt := 300) hx hb dL_law_39 (by decide) (by decide) (off := 261) rfl (by decide) ?_
      exact lc_shift l htr hx hb hml hown hts hNx hLx hAn hX hbl hbA hL b0 u0 aK aX aY aN aV aM f0 aZ aO e0 aD g0 aE aRp aNr aI c0 aW aS aBf h0 aW2 aS2 aB2 m0 rMd rO1 rT2 rSh rMk rFa rDe rNe rBy rPi rNw rNs rBf aOut n R rn rr K X Y Nm RV Ms Zs On D Rp D2 Nr ch ec gc an Nw Sn Bf Ns Ss Bg inp ft pd Fa De Ne By Pi Bef oF (5 * k) (41 + k) (4486 + 6 * k) hI hi (by omega) (by omega) hl hG K33
    | 4, _ =>
      refine lv_tableIn (tgt := 380) hx hb dL_law_39 (by decide) (by decide) (off := 341) rfl (by decide) ?_
      exact lc_extend l htr hx hb hml hown hts hNx hLx hAn hX hbl hbA hL b0 u0 aK aX aY aN aV aM f0 aZ aO e0 aD g0 aE aRp aNr aI c0 aW aS aBf h0 aW2 aS2 aB2 m0 rMd rO1 rT2 rSh rMk rFa rDe rNe rBy rPi rNw rNs rBf aOut n R rn rr K X Y Nm RV Ms Zs On D Rp D2 Nr ch ec gc an Nw Sn Bf Ns Ss Bg inp ft pd Fa De Ne By Pi Bef oF (5 * k) (41 + k) (4486 + 6 * k) hI hi (by omega) (by omega) hl hG K33
    | 5, _ =>
      refine lv_tableIn (tgt := 464) hx hb dL_law_39 (by decide) (by decide) (off := 425) rfl (by decide) ?_
      exact lc_loop l htr hx hb hml hown hts hNx hLx hAn hX hbl hbA hL b0 u0 aK aX aY aN aV aM f0 aZ aO e0 aD g0 aE aRp aNr aI c0 aW aS aBf h0 aW2 aS2 aB2 m0 rMd rO1 rT2 rSh rMk rFa rDe rNe rBy rPi rNw rNs rBf aOut n R rn rr K X Y Nm RV Ms Zs On D Rp D2 Nr ch ec gc an Nw Sn Bf Ns Ss Bg inp ft pd Fa De Ne By Pi Bef oF (5 * k) (41 + k) (4486 + 6 * k) hI hi (by omega) (by omega) hl hG K33
    | 6, _ =>
      refine lv_tableIn (tgt := 520) hx hb dL_law_39 (by decide) (by decide) (off := 481) rfl (by decide) ?_
      exact lc_back l htr hx hb hml hown hts hNx hLx hAn hX hbl hbA hL b0 u0 aK aX aY aN aV aM f0 aZ aO e0 aD g0 aE aRp aNr aI c0 aW aS aBf h0 aW2 aS2 aB2 m0 rMd rO1 rT2 rSh rMk rFa rDe rNe rBy rPi rNw rNs rBf aOut n R rn rr K X Y Nm RV Ms Zs On D Rp D2 Nr ch ec gc an Nw Sn Bf Ns Ss Bg inp ft pd Fa De Ne By Pi Bef oF (5 * k) (41 + k) (4486 + 6 * k) hI hi (by omega) (by omega) hl hG K33
    | 7, _ =>
      refine lv_tableIn (tgt := 568) hx hb dL_law_39 (by decide) (by decide) (off := 529) rfl (by decide) ?_
      exact lc_result l htr hx hb hml hown hts hNx hLx hAn hX hbl hbA hL b0 u0 aK aX aY aN aV aM f0 aZ aO e0 aD g0 aE aRp aNr aI c0 aW aS aBf h0 aW2 aS2 aB2 m0 rMd rO1 rT2 rSh rMk rFa rDe rNe rBy rPi rNw rNs rBf aOut n R rn rr K X Y Nm RV Ms Zs On D Rp D2 Nr ch ec gc an Nw Sn Bf Ns Ss Bg inp ft pd Fa De Ne By Pi Bef oF (5 * k) (41 + k) (4486 + 6 * k) hI hi (by omega) (by omega) hl hG K33
    | 8, _ =>
      refine lv_tableIn (tgt := 636) hx hb dL_law_39 (by decide) (by decide) (off := 597) rfl (by decide) ?_
      exact lc_bits l htr hx hb hml hown hts hNx hLx hAn hX hbl hbA hL b0 u0 aK aX aY aN aV aM f0 aZ aO e0 aD g0 aE aRp aNr aI c0 aW aS aBf h0 aW2 aS2 aB2 m0 rMd rO1 rT2 rSh rMk rFa rDe rNe rBy rPi rNw rNs rBf aOut n R rn rr K X Y Nm RV Ms Zs On D Rp D2 Nr ch ec gc an Nw Sn Bf Ns Ss Bg inp ft pd Fa De Ne By Pi Bef oF (5 * k) (41 + k) (4486 + 6 * k) hI hi (by omega) (by omega) hl hG K33
    | 9, _ =>
      refine lv_tableIn (tgt := 704) hx hb dL_law_39 (by decide) (by decide) (off := 665) rfl (by decide) ?_
      exact lc_replaced l htr hx hb hml hown hts hNx hLx hAn hX hbl hbA hL b0 u0 aK aX aY aN aV aM f0 aZ aO e0 aD g0 aE aRp aNr aI c0 aW aS aBf h0 aW2 aS2 aB2 m0 rMd rO1 rT2 rSh rMk rFa rDe rNe rBy rPi rNw rNs rBf aOut n R rn rr K X Y Nm RV Ms Zs On D Rp D2 Nr ch ec gc an Nw Sn Bf Ns Ss Bg inp ft pd Fa De Ne By Pi Bef oF (5 * k) (41 + k) (4486 + 6 * k) hI hi (by omega) (by omega) hl hG K33
    | 10, _ =>
      refine lv_tableIn (tgt := 760) hx hb dL_law_39 (by decide) (by decide) (off := 721) rfl (by decide) ?_
      exact lc_live l htr hx hb hml hown hts hNx hLx hAn hX hbl hbA hL b0 u0 aK aX aY aN aV aM f0 aZ aO e0 aD g0 aE aRp aNr aI c0 aW aS aBf h0 aW2 aS2 aB2 m0 rMd rO1 rT2 rSh rMk rFa rDe rNe rBy rPi rNw rNs rBf aOut n R rn rr K X Y Nm RV Ms Zs On D Rp D2 Nr ch ec gc an Nw Sn Bf Ns Ss Bg inp ft pd Fa De Ne By Pi Bef oF (5 * k) (41 + k) (4486 + 6 * k) hI hi (by omega) (by omega) hl hG K33
    | 11, _ =>
      refine lv_tableIn (tgt := 773) hx hb dL_law_39 (by decide) (by decide) (off := 734) rfl (by decide) ?_
      exact lc_run l htr hx hb hml hown hts hNx hLx hAn hX hbl hbA hL b0 u0 aK aX aY aN aV aM f0 aZ aO e0 aD g0 aE aRp aNr aI c0 aW aS aBf h0 aW2 aS2 aB2 m0 rMd rO1 rT2 rSh rMk rFa rDe rNe rBy rPi rNw rNs rBf aOut n R rn rr K X Y Nm RV Ms Zs On D Rp D2 Nr ch ec gc an Nw Sn Bf Ns Ss Bg inp ft pd Fa De Ne By Pi Bef oF (5 * k) (41 + k) (4486 + 6 * k) hI hi (by omega) (by omega) hl hG K33
    | 12, _ =>
      refine lv_tableIn (tgt := 865) hx hb dL_law_39 (by decide) (by decide) (off := 826) rfl (by decide) ?_
      exact lc_observed l htr hx hb hml hown hts hNx hLx hAn hX hbl hbA hL b0 u0 aK aX aY aN aV aM f0 aZ aO e0 aD g0 aE aRp aNr aI c0 aW aS aBf h0 aW2 aS2 aB2 m0 rMd rO1 rT2 rSh rMk rFa rDe rNe rBy rPi rNw rNs rBf aOut n R rn rr K X Y Nm RV Ms Zs On D Rp D2 Nr ch ec gc an Nw Sn Bf Ns Ss Bg inp ft pd Fa De Ne By Pi Bef oF (5 * k) (41 + k) (4486 + 6 * k) hI hi (by omega) (by omega) hl hG K33
    | 13, _ =>
      refine lv_tableIn (tgt := 949) hx hb dL_law_39 (by decide) (by decide) (off := 910) rfl (by decide) ?_
      exact lc_value l htr hx hb hml hown hts hNx hLx hAn hX hbl hbA hL b0 u0 aK aX aY aN aV aM f0 aZ aO e0 aD g0 aE aRp aNr aI c0 aW aS aBf h0 aW2 aS2 aB2 m0 rMd rO1 rT2 rSh rMk rFa rDe rNe rBy rPi rNw rNs rBf aOut n R rn rr K X Y Nm RV Ms Zs On D Rp D2 Nr ch ec gc an Nw Sn Bf Ns Ss Bg inp ft pd Fa De Ne By Pi Bef oF (5 * k) (41 + k) (4486 + 6 * k) hI hi (by omega) (by omega) hl hG K33
    | 14, _ =>
      refine lv_tableOut (tgt := 1033) hx hb dL_law_39 (Or.inr (by decide)) (by decide) ?_
      refine W.widen (k := 41 + k + 1) (n := 4486 + 6 * k + 6) (by omega) (by omega) ?_
      exact K33 n R rn rr K X Y Nm RV Ms Zs On D Rp D2 Nr ch ec gc an Nw Sn Bf Ns Ss Bg inp ft pd Fa De Ne By Pi Bef oF ls H locs hI hl hG
    | 15, _ =>
      refine lv_tableOut (tgt := 1033) hx hb dL_law_39 (Or.inr (by decide)) (by decide) ?_
      refine W.widen (k := 41 + k + 1) (n := 4486 + 6 * k + 6) (by omega) (by omega) ?_
      exact K33 n R rn rr K X Y Nm RV Ms Zs On D Rp D2 Nr ch ec gc an Nw Sn Bf Ns Ss Bg inp ft pd Fa De Ne By Pi Bef oF ls H locs hI hl hG
    | j + 16, hj => exact absurd hj (by omega)
