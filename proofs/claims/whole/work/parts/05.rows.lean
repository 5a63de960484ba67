/-! ===== rows of my own over the kit's: the world in one hypothesis ===== -/
/-- links to nest mates' private methods: no word of dt, so they go with the state -/
def dw_N (U : State) : Prop := ∀ q ∈ dw_nest, va_Nw (.methodLinkNest q.1 q.2.1 q.2.2.1 q.2.2.2) U
theorem dw_N.same {u U : State} (h : u.vm = U.vm) (hN : dw_N u) : dw_N U := fun q hq => va_Nw.same rfl h (hN q hq)
theorem dw_N.warm {s U : State} (h : s.WarmedH U.vm) (hN : dw_N s) : dw_N U := fun q hq => va_Nw.warmM h (hN q hq)
def dw_G (D : va_G) (cl : List vw_C) (tys : List (ClassId × FieldType)) (A : Nat → Prop) (H0 : Heap) (s : State) (ws : va_W) (H : Heap) (locs : List Loc) : Prop :=
  va_K D cl tys s ∧ va_P D cl ws H ∧ va_D A ws ∧ va_S A H0 H locs ∧ (∀ q, H0.size ≤ q → A q) ∧ dw_N s
def dw_pre (D : va_G) (cl : List vw_C) (ws : va_W) (tys : List (ClassId × FieldType)) (sz : Nat) : State → Prop := fun U => U.heap.size = sz ∧ va_P D cl ws U.heap ∧ va_K D cl tys U ∧ va_D (fun _ => True) ws ∧ dw_N U
def dw_post (D : va_G) (cl : List vw_C) (ws : va_W) (tys : List (ClassId × FieldType)) (A : Nat → Prop) : State → Prop := fun t => va_P D cl ws t.heap ∧ va_K D cl tys t ∧ va_D A ws
section DW
variable {p : Program} {l : Launch} {e : Env} {R : Room} {s : State} {m : MethodId} {args : Array Value} {below : List Frame} {meth : Method} {c : Code} {H : Heap} {locs : List Loc} {cells slots : Nat} {Q : State → Prop}
variable {cc : ByteArray} {pc : Nat} {ls : Array Slot} {rest st0 : List Value} {D : va_G} {cl : List vw_C} {A : Nat → Prop} {a : Nat} {tys : List (ClassId × FieldType)} {ws : va_W} {H0 : Heap}
theorem dw_Q {g : JFrame} (h : ∀ Q', Q' = Q → W p l e R s m args below meth c H locs cells slots Q' g) : W p l e R s m args below meth c H locs cells slots Q g := h Q rfl
theorem dw_enter {av : List Value} {sz : Nat} (h : va_Pc av (dw_pre D cl ws tys sz) args s) : args = av.toArray ∧ s.heap.size = sz ∧ dw_G D cl tys (va_A ws sz) s.heap s ws s.heap [] := by
  obtain ⟨h1, h2, h3, h4, h5, h6⟩ := h
  refine ⟨h1, h2, h4, h3, h5.self, va_S.rf, fun q hq => Or.inr ?_, h6⟩
  rw [← h2]; exact hq
theorem dw_perm {ws' : va_W} (hG : dw_G D cl tys A H0 s ws H locs) (is : List Nat) (hn : va_nd is = true) (hs : is.map (fun i => ws[i]?) = ws'.map some) (hs2 : is.filterMap (fun i => ws[i]?) = ws') : dw_G D cl tys A H0 s ws' H locs :=
  ⟨hG.1, hG.2.1.sub is hs2, hG.2.2.1.sub is hn hs, hG.2.2.2.1, hG.2.2.2.2⟩
theorem dw_ia (hx : p.tables.exec = Jvm.exec) (hb : c.code = cc) (hG : dw_G D cl tys A H0 s ws H locs) (q0 t0 : Nat) {cA : ClassId} {n : Nat} {f : Nat → Int32} (ha : ws[q0]? = some (a, .inl (cA, n, .inl f))) (ht : tys[t0]? = some (cA, .int)) {i : Int32} (j : Nat) (hi : i = nI j) (hj : j < n) (hn : n < 2 ^ 31) {x : Int32} (hv : f j = x) (hdg : decode cc pc = .ok (.iaload, 1))
    (kk : W p l e R s m args below meth c H locs cells slots Q (F0 m (pc + 1) ls (.int x :: rest))) : W p l e R s m args below meth c H locs cells slots Q (F0 m pc ls (.int i :: .ref a :: rest)) := by
  subst hi
  subst hv
  refine va_iald hx hb hG.1 hG.2.1 q0 t0 ha ht (vp_in_nI hj hn) hdg ?_
  rw [nI_clamp (Nat.lt_trans hj hn)]
  exact kk
theorem dw_za (hx : p.tables.exec = Jvm.exec) (hb : c.code = cc) (hG : dw_G D cl tys A H0 s ws H locs) (q0 t0 : Nat) {cA : ClassId} {n : Nat} {f : Nat → Int32} (ha : ws[q0]? = some (a, .inl (cA, n, .inl f))) (ht : tys[t0]? = some (cA, .boolean)) {i : Int32} (j : Nat) (hi : i = nI j) (hj : j < n) (hn : n < 2 ^ 31) {x : Int32} (hv : f j = x) (hdg : decode cc pc = .ok (.baload, 1))
    (kk : W p l e R s m args below meth c H locs cells slots Q (F0 m (pc + 1) ls (.int x :: rest))) : W p l e R s m args below meth c H locs cells slots Q (F0 m pc ls (.int i :: .ref a :: rest)) := by
  subst hi
  subst hv
  refine va_zald hx hb hG.1 hG.2.1 q0 t0 ha ht (vp_in_nI hj hn) hdg ?_
  rw [nI_clamp (Nat.lt_trans hj hn)]
  exact kk
theorem dw_is {ws' : va_W} (hx : p.tables.exec = Jvm.exec) (hb : c.code = cc) (hG : dw_G D cl tys A H0 s ws H locs) (q0 t0 : Nat) {cA : ClassId} {n : Nat} {f : Nat → Int32} (ha : ws[q0]? = some (a, .inl (cA, n, .inl f))) (ht : tys[t0]? = some (cA, .int)) {i x : Int32} (j : Nat) (hi : i = nI j) (hj : j < n) (hn : n < 2 ^ 31) (hdg : decode cc pc = .ok (.iastore, 1)) (hw : ws.set q0 (a, .inl (cA, n, .inl (upd f j x))) = ws')
    (kk : ∀ (H1 : Heap) (locs1 : List Loc), dw_G D cl tys A H0 s ws' H1 locs1 → W p l e R s m args below meth c H1 locs1 cells slots Q (F0 m (pc + 1) ls rest)) : W p l e R s m args below meth c H locs cells slots Q (F0 m pc ls (.int x :: .int i :: .ref a :: rest)) := by
  subst hi
  refine va_iast hx hb hG.1 hG.2.1 hG.2.2.1 hG.2.2.2.1 q0 t0 ha ht (vp_in_nI hj hn) hdg ?_
  rw [nI_clamp (Nat.lt_trans hj hn), hw]
  exact fun H1 l1 h1 h2 h3 => kk H1 l1 ⟨hG.1, h1, h2, h3, hG.2.2.2.2⟩
theorem dw_zs {ws' : va_W} (hx : p.tables.exec = Jvm.exec) (hb : c.code = cc) (hG : dw_G D cl tys A H0 s ws H locs) (q0 t0 : Nat) {cA : ClassId} {n : Nat} {f : Nat → Int32} (ha : ws[q0]? = some (a, .inl (cA, n, .inl f))) (ht : tys[t0]? = some (cA, .boolean)) {i x : Int32} (j : Nat) (hi : i = nI j) (hj : j < n) (hn : n < 2 ^ 31) (hz : vp_nar .boolean x = x) (hdg : decode cc pc = .ok (.bastore, 1)) (hw : ws.set q0 (a, .inl (cA, n, .inl (upd f j x))) = ws')
    (kk : ∀ (H1 : Heap) (locs1 : List Loc), dw_G D cl tys A H0 s ws' H1 locs1 → W p l e R s m args below meth c H1 locs1 cells slots Q (F0 m (pc + 1) ls rest)) : W p l e R s m args below meth c H locs cells slots Q (F0 m pc ls (.int x :: .int i :: .ref a :: rest)) := by
  subst hi
  refine va_zast hx hb hG.1 hG.2.1 hG.2.2.1 hG.2.2.2.1 q0 t0 ha ht (vp_in_nI hj hn) hdg ?_
  rw [nI_clamp (Nat.lt_trans hj hn), hz, hw]
  exact fun H1 l1 h1 h2 h3 => kk H1 l1 ⟨hG.1, h1, h2, h3, hG.2.2.2.2⟩
theorem dw_get (hx : p.tables.exec = Jvm.exec) (hb : c.code = cc) {own ref C : String} {T : u_T} {N ci index : Nat} {Ts : List Cond} (hts : ∀ w ∈ Ts, w.before args s = true) (hin : ∀ w ∈ u_ws C T N, w ∈ Ts) (hown : s.vm.findClass own = some m.cls) (hG : dw_G D cl tys A H0 s ws H locs) (q0 k : Nat) {fs : List Value} {v : Value} (he : ws[q0]? = some (a, .inr (ci, fs))) (hc : cl[ci]? = some (C, T, N)) (hk : k < N) (hlink : (Cond.fieldLink own index ref (T k).2.1 (T k).2.2.1).before args s = true) (href : ref = (T k).1) (hv : fs[k]? = some v) (hdg : decode cc pc = .ok (.getfield index, 3))
    (kk : W p l e R s m args below meth c H locs cells slots Q (F0 m (pc + 3) ls (v :: rest))) : W p l e R s m args below meth c H locs cells slots Q (F0 m pc ls (.ref a :: rest)) :=
  va_get hx hb hts hin hown hG.1 hG.2.1 q0 he hc k hk hlink (fun x h => by rw [href]; exact h) hv hdg kk
theorem dw_put {ws' : va_W} (hx : p.tables.exec = Jvm.exec) (hb : c.code = cc) {own ref C : String} {T : u_T} {N ci index : Nat} {Ts : List Cond} (hts : ∀ w ∈ Ts, w.before args s = true) (hin : ∀ w ∈ u_ws C T N, w ∈ Ts) (ty0 : Nat → FieldType) (hty : ∀ k, k < N → parseFieldDescriptor (T k).2.2.1 = some (ty0 k)) (hnm : ∀ a, a < N → ∀ b, b < N → a ≠ b → (T a).2.1 ≠ (T b).2.1) (hown : s.vm.findClass own = some m.cls) (hG : dw_G D cl tys A H0 s ws H locs) (q0 k : Nat) {fs : List Value} {v : Value} (he : ws[q0]? = some (a, .inr (ci, fs))) (hc : cl[ci]? = some (C, T, N)) (hk : k < N) (hlink : (Cond.fieldLink own index ref (T k).2.1 (T k).2.2.1).before args s = true) (href : ref = (T k).1) (hfin : (T k).2.2.2 = false) {ty : FieldType} (hd : parseFieldDescriptor (T k).2.2.1 = some ty) (hn : narrow ty v = v) (hfit : fits ty v = true) (hl : k < fs.length) (hdg : decode cc pc = .ok (.putfield index, 3)) (hw : ws.set q0 (a, .inr (ci, fs.set k v)) = ws')
    (kk : ∀ (H1 : Heap) (locs1 : List Loc), dw_G D cl tys A H0 s ws' H1 locs1 → W p l e R s m args below meth c H1 locs1 cells slots Q (F0 m (pc + 3) ls rest)) : W p l e R s m args below meth c H locs cells slots Q (F0 m pc ls (v :: .ref a :: rest)) := by
  refine va_put hx hb hts hin ty0 hty hnm hown hG.1 hG.2.1 hG.2.2.1 hG.2.2.2.1 q0 he hc k hk hlink (fun x h => by rw [href]; exact h) hfin hd hn hfit hl hdg ?_
  rw [hw]
  exact fun H1 l1 h1 h2 h3 => kk H1 l1 ⟨hG.1, h1, h2, h3, hG.2.2.2.2⟩
/-! calls -/
theorem dw_blind {av : List Value} {wc : va_W} {tc : List (ClassId × FieldType)} {sz : Nat} : FrameBlind (va_Pc av (dw_pre D cl wc tc sz)) := fun a U g mk q => by
  obtain ⟨q0, q1, qP, qK, qD, qN⟩ := q
  exact ⟨q0, q1, qP, va_K.moved (u := U) (U := U.calling g mk a) (Vm.Alike.refl U.vm) qK, qD, qN.same rfl⟩
theorem dw_preS {As : List Value} {wc : va_W} {tc : List (ClassId × FieldType)} (hG : dw_G D cl tys A H0 s ws H locs) (isC isT : List Nat) (hC : isC.map (fun i => ws[i]?) = wc.map some) (hC2 : isC.filterMap (fun i => ws[i]?) = wc) (hn : va_nd isC = true) (hT : isT.filterMap (fun i => tys[i]?) = tc) : PreS s H (va_Pc As (dw_pre D cl wc tc H.size)) As :=
  ⟨dw_blind, fun U hU hW => ⟨rfl, by rw [hU], by rw [hU]; exact hG.2.1.sub isC hC2, va_K.moved hW.alike (hG.1.sub isT hT), (hG.2.2.1.sub isC hn hC).weaken (fun _ _ _ _ => trivial), hG.2.2.2.2.2.warm hW⟩⟩
theorem dw_preV {As : List Value} {wc : va_W} {tc : List (ClassId × FieldType)} {b q0 ci : Nat} {fs : List Value} {q : vw_C} (hG : dw_G D cl tys A H0 s ws H locs) (isC isT : List Nat) (hC : isC.map (fun i => ws[i]?) = wc.map some) (hC2 : isC.filterMap (fun i => ws[i]?) = wc) (hn : va_nd isC = true) (hT : isT.filterMap (fun i => tys[i]?) = tc) (hc : cl[ci]? = some q) (he : ws[q0]? = some (b, .inr (ci, fs))) : PreV s H q.1 b (va_Pc (.ref b :: As) (dw_pre D cl wc tc H.size)) As :=
  ⟨dw_blind, va_recv hG.1 hG.2.1 hc he, fun U hU hW => ⟨rfl, by rw [hU], by rw [hU]; exact hG.2.1.sub isC hC2, va_K.moved hW.alike (hG.1.sub isT hT), (hG.2.2.1.sub isC hn hC).weaken (fun _ _ _ _ => trivial), hG.2.2.2.2.2.warm hW⟩⟩
theorem dw_calli {S : Type} {post : Int32 → S → Prop} {W1 : S → va_W} {wc wr : va_W} {tc : List (ClassId × FieldType)} {av : Array Value} (hG : dw_G D cl tys A H0 s ws H locs) (isC isR : List Nat) (hC : isC.map (fun i => ws[i]?) = wc.map some) (hR : isR.map (fun i => ws[i]?) = wr.map some) (hn : va_nd isR = true) (hdis : ∀ i ∈ isR, i ∉ isC)
    (hr : va_Run p l e R s m args below meth c H locs cells slots 0 0 (F0 m pc ls st0) rest (va_Qi post (fun u t => dw_post D cl (W1 u) tc (va_A wc H.size) t) (va_A wc H.size) av) (va_A wc H.size))
    (kk : ∀ (r : Int32) (u : S) (H1 : Heap) (locs1 : List Loc), post r u → dw_G D cl tys A H0 s (wr ++ W1 u) H1 locs1 → W p l e R s m args below meth c H1 locs1 cells slots Q (F0 m (pc + 3) ls (.int r :: rest))) : W p l e R s m args below meth c H locs cells slots Q (F0 m pc ls st0) := by
  have hFc := va_free (wc := wc) hG.2.2.1 hG.2.2.2.1 hG.2.2.2.2.1 isC hC
  refine va_calli hr hG.2.2.2.1 (fun q _ h => hFc q h) hFc (fun r u t H1 locs1 ht hvm hp hB hz hk hS => ?_)
  obtain ⟨hP1, hK1, hD1⟩ := hB
  rw [ht] at hP1
  obtain ⟨hP, hD⟩ := va_join (wr := wr) (w1 := W1 u) hG.2.1 hG.2.2.1 isC isR hC hR hn hdis hk hFc hP1 hD1
  exact kk r u H1 locs1 hp ⟨hG.1, hP, hD, hS, hG.2.2.2.2⟩
theorem dw_callv {S : Type} {post : S → Prop} {W1 : S → va_W} {wc wr : va_W} {tc : List (ClassId × FieldType)} {av : Array Value} (hG : dw_G D cl tys A H0 s ws H locs) (isC isR : List Nat) (hC : isC.map (fun i => ws[i]?) = wc.map some) (hR : isR.map (fun i => ws[i]?) = wr.map some) (hn : va_nd isR = true) (hdis : ∀ i ∈ isR, i ∉ isC)
    (hr : va_Run p l e R s m args below meth c H locs cells slots 0 0 (F0 m pc ls st0) rest (va_Qv post (fun u t => dw_post D cl (W1 u) tc (va_A wc H.size) t) (va_A wc H.size) av) (va_A wc H.size))
    (kk : ∀ (u : S) (H1 : Heap) (locs1 : List Loc), post u → dw_G D cl tys A H0 s (wr ++ W1 u) H1 locs1 → W p l e R s m args below meth c H1 locs1 cells slots Q (F0 m (pc + 3) ls rest)) : W p l e R s m args below meth c H locs cells slots Q (F0 m pc ls st0) := by
  have hFc := va_free (wc := wc) hG.2.2.1 hG.2.2.2.1 hG.2.2.2.2.1 isC hC
  refine va_callv hr hG.2.2.2.1 (fun q _ h => hFc q h) hFc (fun u t H1 locs1 ht hvm hp hB hz hk hS => ?_)
  obtain ⟨hP1, hK1, hD1⟩ := hB
  rw [ht] at hP1
  obtain ⟨hP, hD⟩ := va_join (wr := wr) (w1 := W1 u) hG.2.1 hG.2.2.1 isC isR hC hR hn hdis hk hFc hP1 hD1
  exact kk u H1 locs1 hp ⟨hG.1, hP, hD, hS, hG.2.2.2.2⟩
/-! ends -/
theorem dw_iret {S : Type} {post : Int32 → S → Prop} {W1 : S → va_W} {v : Int32} (hx : p.tables.exec = Jvm.exec) (hb : c.code = cc) (hr : meth.sig.returnType = some .int) (hG : dw_G D cl tys A s.heap s ws H locs) (u : S) (hw : ws = W1 u) (hp : post v u) (hdg : decode cc pc = .ok (.ireturn, 1)) (hlocks : meth.locks = false) :
    W p l e R s m args below meth c H locs cells slots (MQ below (va_Qi post (fun u t => dw_post D cl (W1 u) tys A t) A) args s cells slots A) (F0 m pc ls [.int v]) := by
  subst hw
  exact W.iret hx hb hr (fun t ht hW => ⟨⟨v, u, rfl, hp, by rw [ht]; exact hG.2.1, va_K.moved hW.alike hG.1, hG.2.2.1⟩, hG.2.2.2.1.F ht⟩) hG.2.2.2.1.2.2 hdg hlocks
theorem dw_zret {S : Type} {post : Int32 → S → Prop} {W1 : S → va_W} {v : Int32} (hx : p.tables.exec = Jvm.exec) (hb : c.code = cc) (hr : meth.sig.returnType = some .boolean) (hz : narrow .boolean (.int v) = .int v) (hG : dw_G D cl tys A s.heap s ws H locs) (u : S) (hw : ws = W1 u) (hp : post v u) (hdg : decode cc pc = .ok (.ireturn, 1)) (hlocks : meth.locks = false) :
    W p l e R s m args below meth c H locs cells slots (MQ below (va_Qi post (fun u t => dw_post D cl (W1 u) tys A t) A) args s cells slots A) (F0 m pc ls [.int v]) := by
  subst hw
  exact W.zret hx hb hr hz (fun t ht hW => ⟨⟨v, u, rfl, hp, by rw [ht]; exact hG.2.1, va_K.moved hW.alike hG.1, hG.2.2.1⟩, hG.2.2.2.1.F ht⟩) hG.2.2.2.1.2.2 hdg hlocks
theorem dw_vret {S : Type} {post : S → Prop} {W1 : S → va_W} (hx : p.tables.exec = Jvm.exec) (hb : c.code = cc) (hr : meth.sig.returnType = none) (hG : dw_G D cl tys A s.heap s ws H locs) (u : S) (hw : ws = W1 u) (hp : post u) (hdg : decode cc pc = .ok (.return_, 1)) (hlocks : meth.locks = false) :
    W p l e R s m args below meth c H locs cells slots (MQ below (va_Qv post (fun u t => dw_post D cl (W1 u) tys A t) A) args s cells slots A) (F0 m pc ls []) := by
  subst hw
  exact W.vret hx hb hr (fun t ht hW => ⟨⟨u, rfl, hp, by rw [ht]; exact hG.2.1, va_K.moved hW.alike hG.1, hG.2.2.1⟩, hG.2.2.2.1.F ht⟩) hG.2.2.2.1.2.2 hdg hlocks
end DW
theorem dw_ix (x k : Nat) : (nI 32) * nI x + nI k = nI (32 * x + k) := by rw [pk_mul, nI_add]
