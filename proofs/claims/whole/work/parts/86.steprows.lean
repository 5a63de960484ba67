/-! ===== rows of a step of the law ===== -/
section DX6
variable {p : Program} {l : Launch} {e : Env} {R : Room} {s : State} {m : MethodId} {args : Array Value} {below : List Frame} {meth : Method} {c : Code} {H : Heap} {locs : List Loc} {cells slots : Nat} {Q : State → Prop}
variable {cc : ByteArray} {pc : Nat} {ls : Array Slot} {rest st0 : List Value} {D : va_G} {cl : List vw_C} {A : Nat → Prop} {tys : List (ClassId × FieldType)} {ws : va_W} {H0 : Heap}
theorem dw_sl (hx : p.tables.exec = Jvm.exec) (hb : c.code = cc) {b L : Nat} {xs : Nat → Int32} (hX : va_X b L xs s H0) (hbl : b < H0.size) (hbA : ¬ A b) (hG : dw_G D cl tys A H0 s ws H locs) {i : Int32} (j : Nat) (hi : i = nI j) (hj : j < L) (hL : L ≤ 2560) {x : Int32} (hv : xs j = x) (hdg : decode cc pc = .ok (.iaload, 1))
    (kk : W p l e R s m args below meth c H locs cells slots Q (F0 m (pc + 1) ls (.int x :: rest))) : W p l e R s m args below meth c H locs cells slots Q (F0 m pc ls (.int i :: .ref b :: rest)) := by
  subst hi
  subst hv
  have hL2 : L < 2 ^ 31 := Nat.lt_of_le_of_lt hL (by decide)
  refine va_sld hx hb hX hbl hbA hG.2.2.2.1 (vp_in_nI hj hL2) hdg ?_
  rw [nI_clamp (Nat.lt_trans hj hL2)]
  exact kk
theorem dw_calliK {S : Type} {post : Int32 → S → Prop} {W1 : S → va_W} {wc wr : va_W} {tc : List (ClassId × FieldType)} {av : Array Value} {mc ms : Nat} (hG : dw_G D cl tys A H0 s ws H locs) (isC isR : List Nat) (hC : isC.map (fun i => ws[i]?) = wc.map some) (hR : isR.map (fun i => ws[i]?) = wr.map some) (hn : va_nd isR = true) (hdis : ∀ i ∈ isR, i ∉ isC)
    (hr : va_Run p l e R s m args below meth c H locs cells slots mc ms (F0 m pc ls st0) rest (va_Qi post (fun u t => dw_post D cl (W1 u) tc (va_A wc H.size) t) (va_A wc H.size) av) (va_A wc H.size))
    (kk : ∀ (r : Int32) (u : S) (H1 : Heap) (locs1 : List Loc), post r u → dw_G D cl tys A H0 s (wr ++ W1 u) H1 locs1 → W p l e R s m args below meth c H1 locs1 (cells + mc) (slots + ms) Q (F0 m (pc + 3) ls (.int r :: rest))) : W p l e R s m args below meth c H locs cells slots Q (F0 m pc ls st0) := by
  have hFc := va_free (wc := wc) hG.2.2.1 hG.2.2.2.1 hG.2.2.2.2.1 isC hC
  refine va_calli hr hG.2.2.2.1 (fun q _ h => hFc q h) hFc (fun r u t H1 locs1 ht hvm hp hB hz hk hS => ?_)
  obtain ⟨hP1, hK1, hD1⟩ := hB
  rw [ht] at hP1
  obtain ⟨hP, hD⟩ := va_join (wr := wr) (w1 := W1 u) hG.2.1 hG.2.2.1 isC isR hC hR hn hdis hk hFc hP1 hD1
  exact kk r u H1 locs1 hp ⟨hG.1, hP, hD, hS, hG.2.2.2.2⟩
/-- a refusing wrapper's start, at the law -/
theorem dw_preX {As : List Value} {wc : va_W} {tc : List (ClassId × FieldType)} (hG : dw_G D cl tys A s.heap s ws H locs) (hAn : ∀ q, q < s.heap.size → ¬ A q) (hN : dx_N s) (hL : dx_L s) (isC isT : List Nat) (hC : isC.map (fun i => ws[i]?) = wc.map some) (hC2 : isC.filterMap (fun i => ws[i]?) = wc) (hn : va_nd isC = true) (hT : isT.filterMap (fun i => tys[i]?) = tc) :
    PreS s H (fun a U => va_Pc As (dw_pre D cl wc tc H.size) a U ∧ dx_N U ∧ dx_L U) As := by
  have h := dw_preS (As := As) hG isC isT hC hC2 hn hT
  refine ⟨fun a U g mk q => ⟨h.1 a U g mk q.1, q.2.1.blind g mk a, q.2.2.blind g mk a⟩, fun U hU hW => ?_⟩
  have hH : ∀ q : Nat, q < s.heap.size → U.heap[q]? = s.heap[q]? := fun q hq => by rw [hU]; exact hG.2.2.2.1.2.1 q hq (hAn q hq)
  exact ⟨h.2 U hU hW, hN.law hW hH, hL.law hW hH⟩
end DX6
