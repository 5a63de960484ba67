/-! ===== catching: the law's wrappers ===== -/
def dx_wl : List Cond := [.classLink "DemandedBitsLaw" 13 xIA, .classLink "DemandedBitsLaw" 15 xIS, .classLink "DemandedBitsLaw" 24 xIO, .castable xIA xIA, .castable xIS xIS, .castable xIO xIO,
  .not (.castable xIS xIA), .not (.castable xIO xIA), .not (.castable xIA xIS), .not (.castable xIO xIS), .not (.castable xIA xIO), .not (.castable xIS xIO)]
def dx_L (s : State) : Prop := ∀ (a : Array Value), ∀ w ∈ dx_wl, w.before a s = true
theorem dx_li {s : State} {a : Array Value} (h : dx_L s) (i : Nat) {w : Cond} (hw : dx_wl[i]? = some w) : w.before a s = true := h a w (List.mem_of_getElem? hw)
theorem dx_setTop (U : State) (g : JFrame) (X : List Frame) : (U.setTop g).setFrames X = U.setFrames X := by
  unfold State.setTop State.modifyTopJava State.setFrames
  have e : ((U.threads.modify U.cur fun t => match t.frames with | .java f :: rest => { t with frames := .java ((fun _ => g) f) :: rest } | _ => t).modify U.cur fun t => { t with frames := X }) = U.threads.modify U.cur fun t => { t with frames := X } := by
    apply Array.ext_getElem?
    intro i
    simp only [Array.getElem?_modify]
    by_cases hi : U.cur = i
    · simp only [if_pos hi]
      cases U.threads[i]? with
      | none => rfl
      | some t =>
        simp only [Option.map_some, Option.some.injEq]
        split <;> rfl
    · simp only [if_neg hi]
  exact congrArg (fun z => ({ U with threads := z } : State)) e
theorem dx_calling (U : State) (g : JFrame) (mk : MethodId) (a : Array Value) : ∃ fs, U.calling g mk a = U.setFrames fs := ⟨_, dx_setTop U g _⟩
theorem dx_N.blind {U : State} (h : dx_N U) (g : JFrame) (mk : MethodId) (a' : Array Value) : dx_N (U.calling g mk a') := fun a w hw => by
  obtain ⟨fs, e⟩ := dx_calling U g mk a'
  rw [e, Cond.before_setFrames]
  exact h a w hw
theorem dx_L.blind {U : State} (h : dx_L U) (g : JFrame) (mk : MethodId) (a' : Array Value) : dx_L (U.calling g mk a') := fun a w hw => by
  obtain ⟨fs, e⟩ := dx_calling U g mk a'
  rw [e, Cond.before_setFrames]
  exact h a w hw
def dx_ent (q : Nat × Nat × Nat × Nat) : ExceptionTableEntry := ⟨q.1, q.2.1, q.2.2.1, q.2.2.2⟩
theorem dx_tab (L : List ExceptionTableEntry) : (L.map fun h => (h.startPc, h.endPc, h.handlerPc, h.catchType)).map dx_ent = L := by
  induction L with
  | nil => rfl
  | cons x t ih => exact congrArg (x :: ·) ih
section DX3
variable {p : Program} {l : Launch} {e : Env} {R : Room} {s : State} {m : MethodId} {args : Array Value} {below : List Frame} {meth : Method} {c : Code} {cells slots : Nat} {Q : State → Prop} {H : Heap} {locs : List Loc}
variable {cc : ByteArray} {pc : Nat} {ls : Array Slot} {rest st0 : List Value} {D : va_G} {cl : List vw_C} {A : Nat → Prop} {a : Nat} {tys : List (ClassId × FieldType)} {w0 ws : va_W} {H0 : Heap}
/-- the table of a method whose head word is codeWith -/
theorem dx_table {y : MethodName} {S : Spec} {maxL : Nat} {ret : Option FieldType} {hh : List (Nat × Nat × Nat × Nat)} {s₁ : State} (B : BodyLoose p l y S cc maxL ret e s m args below meth c s₁) (h : (Cond.codeWith y cc maxL ret hh).before args s = true) : c.exceptionTable.toList = hh.map dx_ent := by
  obtain ⟨m', meth', c', hn', h1, h2, -, -, h5, -⟩ := Cond.codeWith_spec h
  cases B.named.symm.trans hn'
  cases B.method.symm.trans h1
  cases (Stand.of_body B).code.symm.trans h2
  rw [← h5, dx_tab]
theorem dx_catch {y : MethodName} {bytes : ByteArray} {maxL nL n index : Nat} {ret : Option FieldType} {wy Ts : List Cond} {rm : Room} {P0 : Array Value → State → Prop} {E own C : String} {b : Addr} {As : List Value}
    (S : CallFix p m c cc nL s args Ts own) (hM : dx_Met l y wy rm (fun a U => P0 a U ∧ dx_N U) E) (cw : CallW R s args own C index y bytes maxL ret wy rm 1 6 n) (hp : PreV s H C b P0 As) (hG : dw_G D cl tys A H0 s w0 H locs)
    (hN : ∀ (T : State), T.heap = H → Stand p l e R s m args below meth c T locs cells slots → dx_N T)
    (hn : As.length = n) (hsize : ls.size = nL) (hstack : st0 = As.reverse ++ .ref b :: rest) (hW : (rest.map fun v => v.category).sum ≤ 8) (hdg : decode cc pc = .ok (.invokevirtual index, 3)) (hf : cells + 1 ≤ R.cells ∧ slots + 6 ≤ R.slots)
    (pre : List ExceptionTableEntry) (x : ExceptionTableEntry) (post : List ExceptionTableEntry) (hsplit : c.exceptionTable.toList = pre ++ x :: post)
    (hpass : ∀ y ∈ pre, ∃ nm, y.catchType ≠ 0 ∧ (Cond.classLink own y.catchType nm).before args s = true ∧ (Cond.not (.castable E nm)).before args s = true)
    (hx : covers x pc = true) (h0 : x.catchType ≠ 0) (hlink : (Cond.classLink own x.catchType E).before args s = true) (hcast : (Cond.castable E E).before args s = true)
    (kk : ∀ (q : Nat) (H1 : Heap), dw_G D cl tys A H0 s w0 H1 locs → W p l e R s m args below meth c H1 locs (cells + 1) (slots + 6) Q (F0 m x.handlerPc ls [.ref q])) :
    W p l e R s m args below meth c H locs cells slots Q (F0 m pc ls st0) := by
  intro T hT X
  have hown := S.2.2.2.1
  obtain ⟨q, ce, U, X', h1, h2, h3, h4, h5, h6, st⟩ := dx_came S hM cw hp (g := F0 m pc ls st0) rfl hn hsize hstack (by simpa [JFrame.monitorRoom] using hW) hdg hf hT X (fun vm₁ X₁ => hN (T.setVm vm₁) hT X₁)
  have hpl : e.platform.magicAccessors = ({} : Platform).magicAccessors := by rw [X.admits.platform]
  obtain ⟨c2, t2, w1, w2, w3⟩ := Cond.castable_spec hcast
  cases h2.symm.trans w1
  cases h2.symm.trans w2
  obtain ⟨hend, hk0⟩ := X'.catches_of_link hown h0 hlink h2 w3
  obtain ⟨vm', X2, st2⟩ := X'.caughtThrough q (g := { F0 m pc ls st0 with stack := rest }) rfl h1 (by rw [h3]; rfl) hk0 pre x post hsplit
    (fun y hy => by obtain ⟨nm, g1, g2, g3⟩ := hpass y hy; exact RowPassed.of_words hpl hown g1 g2 h2 g3) hx hend
  have hG1 : dw_G D cl tys A H0 s w0 U.heap locs :=
    ⟨hG.1, hG.2.1.kept (fun k x hx => h6 _ ((hG.2.1 k x hx).lt)), hG.2.2.1, ⟨Nat.le_trans hG.2.2.2.1.1 h5, fun x z1 z2 => (h6 x (Nat.lt_of_lt_of_le z1 hG.2.2.2.1.1)).trans (hG.2.2.2.1.2.1 x z1 z2), hG.2.2.2.1.2.2⟩, hG.2.2.2.2⟩
  obtain ⟨t, a1, b1⟩ := kk q U.heap hG1 (U.setVm vm') rfl X2
  exact ⟨t, st _ (by rw [X'.pushThrowing_eq]; exact st2 _ a1), b1⟩
theorem dw_ls {ws' : va_W} (hx : p.tables.exec = Jvm.exec) (hb : c.code = cc) (hG : dw_G D cl tys A H0 s ws H locs) (q0 t0 : Nat) {cA : ClassId} {f : Nat → Int64} (ha : ws[q0]? = some (a, .inl (cA, 1, .inr (.inl f)))) (ht : tys[t0]? = some (cA, .long)) {x : Int64} (hdg : decode cc pc = .ok (.lastore, 1)) (hw : ws.set q0 (a, .inl (cA, 1, .inr (.inl (vp_updL f 0 x)))) = ws')
    (kk : ∀ (H1 : Heap) (locs1 : List Loc), dw_G D cl tys A H0 s ws' H1 locs1 → W p l e R s m args below meth c H1 locs1 cells slots Q (F0 m (pc + 1) ls rest)) : W p l e R s m args below meth c H locs cells slots Q (F0 m pc ls (.long x :: .int (nI 0) :: .ref a :: rest)) := by
  refine va_last hx hb hG.1 hG.2.1 hG.2.2.1 hG.2.2.2.1 q0 t0 ha ht (vp_in_nI (by decide) (by decide)) hdg ?_
  rw [nI_clamp (by decide), hw]
  exact fun H1 l1 h1 h2 h3 => kk H1 l1 ⟨hG.1, h1, h2, h3, hG.2.2.2.2⟩
theorem dw_ll (hx : p.tables.exec = Jvm.exec) (hb : c.code = cc) (hG : dw_G D cl tys A H0 s ws H locs) (q0 t0 : Nat) {cA : ClassId} {f : Nat → Int64} (ha : ws[q0]? = some (a, .inl (cA, 1, .inr (.inl f)))) (ht : tys[t0]? = some (cA, .long)) {x : Int64} (hv : f 0 = x) (hdg : decode cc pc = .ok (.laload, 1))
    (kk : W p l e R s m args below meth c H locs cells slots Q (F0 m (pc + 1) ls (.long x :: rest))) : W p l e R s m args below meth c H locs cells slots Q (F0 m pc ls (.int (nI 0) :: .ref a :: rest)) := by
  subst hv
  refine va_lald hx hb hG.1 hG.2.1 q0 t0 ha ht (vp_in_nI (by decide) (by decide)) hdg ?_
  rw [nI_clamp (by decide)]
  exact kk
end DX3
