/-! ===== throwing: a method that throws for sure, and has written nothing before ===== -/
def xIA : String := "java/lang/IllegalArgumentException"
def xIS : String := "java/lang/IllegalStateException"
def xIO : String := "java/lang/IndexOutOfBoundsException"
def xUp : List String := ["java/lang/RuntimeException", "java/lang/Exception"]
def dx_own : List Cond := [.classLink "DemandedBits" 59 xIA, .classLink "DemandedBits" 99 xIS, .classLink "DemandedBits" 136 xIO, .initialized xIA, .initialized xIS, .initialized xIO,
  .stringRef "DemandedBits" 61 "no such input", .stringRef "DemandedBits" 149 "too many values", .stringRef "DemandedBits" 70 "no such operation", .stringRef "DemandedBits" 147 "no such value", .stringRef "DemandedBits" 76 "no such shift", .stringRef "DemandedBits" 78 "no such distance", .stringRef "DemandedBits" 87 "no loop", .stringRef "DemandedBits" 101 "too many results", .stringRef "DemandedBits" 108 "no such bits", .stringRef "DemandedBits" 126 "no such number of rounds", .stringRef "DemandedBits" 138 "no such result"]
def dx_ws : List Cond := dx_own ++ (Bundle.ownAtoms "DemandedBits" 63 xIA xUp ++ (Bundle.ownAtoms "DemandedBits" 103 xIS xUp ++ Bundle.ownAtoms "DemandedBits" 140 xIO xUp))
def dx_k : Cond → Bool
  | .stringRef .. => true
  | w => w.keepsFace
theorem dx_face : ∀ w ∈ dx_ws, dx_k w = true := by decide +kernel
theorem dx_warm {w : Cond} (hk : dx_k w = true) {a : Array Value} {s : State} {vm' : Vm} (hW : s.WarmedH vm') (h : w.before a s = true) : w.before a (s.setVm vm') = true := by
  unfold dx_k at hk
  split at hk
  · exact Cond.stringRef_warmed hW h
  · exact Cond.before_shiftedFace (State.Shifted.of_warmed hW) _ hk h
/-- the words of throwing hold, for whatever arguments -/
def dx_N (s : State) : Prop := ∀ (a : Array Value), ∀ w ∈ dx_ws, w.before a s = true
def dx_T (E : String) : Array Value → State → Outcome → State → Prop := fun _ st o t => ∃ (q : Addr) (ce : Cell), o = .threw q ∧ t.heap[q]? = some ce ∧ st.vm.findClass E = some ce.cls ∧ ce.vm = .none ∧ st.heap.size ≤ q ∧ st.WarmedH t.vm ∧ st.sameButNew ({ t with vm := st.vm } : State) [] 1 6
def dx_Met (l : Launch) (y : MethodName) (ws : List Cond) (rm : Room) (Pc : Array Value → State → Prop) (E : String) : Prop := MetFree l y (headSpec ws rm) Pc (fun _ _ _ _ _ => True) (dx_T E)
def dx_MQ (below : List Frame) (E : String) (a : Array Value) (s : State) : State → Prop := fun t => ∃ o, t.status = .running ∧ Ended t below o ∧ dx_T E a s o t
section DX
variable {p : Program} {l : Launch} {e : Env} {R : Room} {s : State} {m : MethodId} {args : Array Value} {below : List Frame} {meth : Method} {c : Code} {cells slots : Nat} {Q : State → Prop}
variable {cc : ByteArray} {pc : Nat} {ls : Array Slot} {rest st0 : List Value}
theorem dx_ofW {y : MethodName} {ws ws' : List Cond} {rm : Room} {Pc : Array Value → State → Prop} {E : String} {maxL : Nat} {ret : Option FieldType}
    (hy : plainName y.cls = true) (hw : ws = Cond.code y cc maxL ret :: ws')
    (body : ∀ p e s m args below meth c s₁, BodyLoose p l y (headSpec ws rm) cc maxL ret e s m args below meth c s₁ → c.maxLocals = maxL → Pc args s →
      W p l e (headSpec ws rm).room s m args below meth c s.heap [] 0 0 (dx_MQ below E args s) (entryFrame m args maxL)) : dx_Met l y ws rm Pc E := by
  refine MetFree.of_bodyS (code := cc) (maxLocals := maxL) (ret := ret) hy ?_ ?_
  · intro args s m h hn
    obtain ⟨meth, c, h1, h2, h3, h4, h5, h6, -, -⟩ := Cond.code_spec hn (atoms_spec (ws := ws) h _ (by rw [hw]; exact List.mem_cons_self))
    exact ⟨meth, c, h1, h2, h3, h4, h5, h6⟩
  · intro p e s m args below meth c s₁ B hml hP _
    have hh0 : s₁.heap = s.heap := by rw [B.state]; rfl
    obtain ⟨t, a1, o, b1, b2, b3⟩ := body p e s m args below meth c s₁ B hml hP s₁ hh0 (Stand.of_body B)
    exact ⟨t, o, a1, b1, b2, b3⟩
theorem dx_throw {H : Heap} (hx : p.tables.exec = Jvm.exec) (hb : c.code = cc) (htr : l.stackTraces = false) (hno : c.exceptionTable.isEmpty = true) (hlocks : meth.locks = false) (hml : ls.size = c.maxLocals) (hH : H = s.heap)
    {own E text : String} {names : List String} {ic ci cs : Nat} (hown : s.vm.findClass own = some m.cls) (hN : dx_N s) (w1 : Cond.classLink own ci E ∈ dx_ws) (w2 : Cond.initialized E ∈ dx_ws) (w3 : Cond.stringRef own cs text ∈ dx_ws) (w4 : ∀ a ∈ Bundle.ownAtoms own ic E names, a ∈ dx_ws)
    (hE : Bundle.fit E = true) (hn : ∀ n ∈ names, Bundle.fit n = true) (hfr : names.length + 3 < R.frames) (hlo : (rest.map fun v => v.category).sum + 1 + (13 * (names.length + 1) + 42) ≤ R.locals) (hc : 0 + 1 ≤ R.cells) (hs : 0 + 6 ≤ R.slots)
    (d0 : decode cc pc = .ok (.new ci, 3)) (d3 : decode cc (pc + 3) = .ok (.dup, 1)) (d4 : decode cc (pc + 4) = .ok (.ldc cs, 2)) (d6 : decode cc (pc + 6) = .ok (.invokespecial ic, 3)) (d9 : decode cc (pc + 9) = .ok (.athrow, 1)) :
    W p l e R s m args below meth c H [] 0 0 (dx_MQ below E args s) (F0 m pc ls rest) := by
  intro T hT X
  have hTs : T.heap.size = s.heap.size := by rw [hT, hH]
  have htr' : e.platform.stackTraces = false := by rw [X.admits.platform]; exact htr
  have hins : (Cond.instantiable E 6).before args s = true := hN args _ (w4 _ (by simp [Bundle.ownAtoms]))
  obtain ⟨vm₁, cX, kX, hfX, hkX, -, -, X₁, st1⟩ := X.newCold hx (own := own) (C := E) (index := ci) (n := 6) hown (hN args _ w1) hins (hN args _ w2) (g := F0 m pc ls rest) rfl (by rw [hb]; exact d0) hc hs
  generalize hT1 : (T.setVm vm₁).pushCell { cls := cX, slots := kX.instanceTypes.map defaultValue, vm := .none } = T1 at X₁ st1
  have hcellA : T1.heap[T.heap.size]? = some (freshCell cX kX) := by rw [← hT1]; exact State.heap_pushCell_size _ _
  obtain ⟨k, cf, i, a', hk, hcf, hcp, -, hr, hev⟩ := Cond.stringRef_spec hown (hN args _ w3)
  have st2 := X₁.ldcString hx hown (hN args _ w3) hev (g := F0 m (pc + 4) ls (.ref T.heap.size :: .ref T.heap.size :: rest)) rfl (by rw [hb]; exact d4)
  obtain ⟨U, hsteps, hrun, hend, hW, hsame, ce, hce, K⟩ := X₁.ctorThrowS hx htr' (own := own) (cls := E) (names := names) (ic := ic) hown hE hn (fun y hy => hN args y (w4 y hy)) (fun y hy => by cases hy) hfX hkX hcellA (by rw [hTs]; exact Nat.le_refl _) (msg := .ref a') rfl
    (g := F0 m (pc + 6) ls (.ref a' :: .ref T.heap.size :: .ref T.heap.size :: rest)) rfl hml rfl rfl (rest := rest) rfl (by rw [hb]; exact d6) (by rw [hb]; exact d9) (covers_of_empty hno _) hfr (by simp [JFrame.monitorRoom, Value.category] at hlo ⊢; omega) hlocks
  refine ⟨U, st1 _ ?_, .threw T.heap.size, hrun, hend, T.heap.size, ce, rfl, hce, K.cls, K.vm, by rw [hTs]; exact Nat.le_refl _, hW, hsame⟩
  show Steps p.tables e below (T1.setTop (F0 m (pc + 3) ls (.ref T.heap.size :: rest))) U
  jvm_step X₁.here [X₁.here.top, hx, hb, d3, Value.category]
  exact st2 _ hsteps
theorem dx_N.here {T : State} (hN : dx_N s) (X : Stand p l e R s m args below meth c T [] 0 0) : dx_N T := fun a w hw => X.before_of (fun vm' hW => dx_warm (dx_face w hw) hW (hN a w hw))
theorem dx_N.call {T : State} (hN : dx_N T) (h : At T m c below) (g : JFrame) (mk : MethodId) (a' : Array Value) : dx_N (T.calling g mk a') := fun a w hw => by
  rw [State.calling_eq h.top, Cond.before_setFrames]
  exact hN a w hw
/-- a call of a method that throws: the note lies over the caller's frame; nothing that was there has changed -/
theorem dx_came {H : Heap} {locs : List Loc} {y : MethodName} {bytes : ByteArray} {maxL nL n index : Nat} {ret : Option FieldType} {ws Ts : List Cond} {rm : Room} {P0 : Array Value → State → Prop} {E own C : String} {b : Addr} {As rest : List Value} {g : JFrame}
    (S : CallFix p m c cc nL s args Ts own) (hM : dx_Met l y ws rm (fun a U => P0 a U ∧ dx_N U) E) (cw : CallW R s args own C index y bytes maxL ret ws rm 1 6 n) (hp : PreV s H C b P0 As)
    (hg : g.method = m) (hn : As.length = n) (hsize : g.locals.size = nL) (hstack : g.stack = As.reverse ++ .ref b :: rest) (hW : 2 * g.monitorRoom + (rest.map fun v => v.category).sum ≤ 8) (hdg : decode cc g.pc = .ok (.invokevirtual index, 3)) (hf : cells + 1 ≤ R.cells ∧ slots + 6 ≤ R.slots)
    {T : State} (hT : T.heap = H) (X : Stand p l e R s m args below meth c T locs cells slots) (hN : ∀ vm₁, Stand p l e R s m args below meth c (T.setVm vm₁) locs cells slots → dx_N (T.setVm vm₁)) :
    ∃ (q : Addr) (ce : Cell) (U : State), Stand p l e R s m args below meth c U locs (cells + 1) (slots + 6) ∧ U.heap[q]? = some ce ∧ s.vm.findClass E = some ce.cls ∧ ce.vm = .none ∧ H.size ≤ q ∧ H.size ≤ U.heap.size ∧ (∀ a, a < H.size → U.heap[a]? = H[a]?) ∧
      ∀ tg, Steps p.tables e below ((U.setTop { g with stack := rest }).pushFrame (.throwing q)) tg → Steps p.tables e below (T.setTop g) tg := by
  obtain ⟨⟨hrc, hrs, hfr, hlo, hws, hcw, hcode, hini, hy, hlen, hl⟩, hin, hse⟩ := cw
  obtain ⟨hx, hb, hml, ho, -⟩ := S
  obtain ⟨hblind, ⟨cellB, hcB, hoB, hclB⟩, hPc⟩ := hp
  subst hb
  obtain ⟨mk, methM, hnamed, hmethM, hstM, habM⟩ := Cond.instanceMethod_spec hin
  obtain ⟨methM', cM, hmethM', hcM, -, hlM, -, -, -, hsigM⟩ := Cond.code_spec hnamed hcode
  cases hmethM.symm.trans hmethM'
  obtain ⟨c2, r2, m2, q1, q2, q3, q4, kP, hkP, hkPi⟩ := Cond.selects_spec hse
  cases hclB.symm.trans q1
  cases (State.methodFound?_of_named hnamed hy).symm.trans q2
  cases hnamed.symm.trans q3
  have hselP : selectMethod e.platform s.vm cellB.cls mk = .method mk := by rw [Launch.admits_selectMethod X.admits]; exact q4
  obtain ⟨vm₁, X₁, hstep₁⟩ := X.invokevirtual hx ho hl hnamed hmethM hstM hkP hkPi hy (a := b) (cell := cellB) (by rw [hT]; exact hcB)
    (fun z h => by rw [h] at hoB; cases hoB) hselP hmethM habM hkP hkPi (g := g) hg (argsL := As) (rest := rest) (hn.trans (hlen _ hsigM)) hstack hdg
  have hN₁ := hN vm₁ X₁
  have hUH : (T.setVm vm₁).heap = H := hT
  have hPU := hPc _ hUH X₁.warmed
  generalize T.setVm vm₁ = U at X₁ hstep₁ hN₁ hUH hPU
  have hnU := X₁.named hnamed
  obtain ⟨methY, cY, hmY, hcY, -, hlY, -, -, -, -⟩ := Cond.code_spec hnU (hws _ hcw (Value.ref b :: As).toArray U X₁.warmed)
  obtain ⟨kY, hkY, -⟩ := className_of_methodNamed hnU
  have hinitY : kY.init = .initialized := Cond.initialized_spec (args := args) (findClass_of_methodNamed hnU) hkY (word_at X₁.warmed (Or.inl (by first | rfl | simp [Cond.onTables, Cond.keeps, Cond.steady])) hini)
  obtain ⟨g', hg'⟩ : ∃ g' : JFrame, g' = { g with stack := rest } := ⟨_, rfl⟩
  have hgm : g'.method = m := by rw [hg']; exact hg
  have h : At U g'.method c below := by rw [hgm]; exact X₁.here
  have happ : (headSpec ws rm).appliesLoose y e.platform (U.calling g' mk (Value.ref b :: As).toArray) = true :=
    Spec.appliesLoose_calling (g := g') h (by rw [hg']; exact hdg) hnU hkY hinitY
      (X₁.room_calling (g := g') (R' := rm) (by rw [hg']; exact hsize.trans hml.symm) hmY hcY hfr (by rw [hlY, hg']; have := hW; simp only [JFrame.monitorRoom] at this ⊢; omega) (by rw [hrc]; exact hf.1) (by rw [hrs]; exact hf.2)) (atoms_intro fun w hw => hws w hw _ _ X₁.warmed)
  obtain ⟨mid, hmid⟩ := h.above
  have hfr' : (U.setTop g').frames = (.java g' :: mid) ++ below := by rw [State.frames_setTop' g' h.top, hmid]; rfl
  obtain ⟨o, s₂, hsteps, -, hend, hq⟩ := Steps.callFree hM p X₁.admits X₁.cas X₁.clock (acts := []) hfr' happ ⟨hblind _ _ g' mk hPU, hN₁.call h g' mk _⟩ trivial
  rw [State.frames_setTop' g' h.top] at hend
  obtain ⟨q, ce, rfl, hce, hcls, hcv, hq0, hW₂, hsb⟩ := hq
  have hsb' : (U.calling g' mk (Value.ref b :: As).toArray).sameButNew ({ s₂ with vm := (U.calling g' mk (Value.ref b :: As).toArray).vm } : State) [] 1 6 := hsb
  obtain ⟨e2, k2, k3, k4, k5, k6⟩ := hsb'
  have e3 : s₂ = ({ (U.calling g' mk (Value.ref b :: As).toArray).setFrames s₂.frames with heap := s₂.heap, slotsUsed := s₂.slotsUsed } : State).setVm s₂.vm := by
    have : s₂ = ({ s₂ with vm := (U.calling g' mk (Value.ref b :: As).toArray).vm } : State).setVm s₂.vm := rfl
    rw [e2] at this
    exact this
  have hf₂ : s₂.frames = .throwing q :: .java g' :: U.frames.tail := hend
  have hW' : U.WarmedH s₂.vm := hW₂
  obtain ⟨g₀, hg0⟩ := Option.isSome_iff_exists.mp h.top
  obtain ⟨r, hr⟩ := State.topJava?_eq_some.mp hg0
  have hs₂ : s₂ = ((({ U with heap := s₂.heap, slotsUsed := s₂.slotsUsed } : State).setVm s₂.vm).setTop g').pushFrame (.throwing q) := by
    have hr' : (({ U with heap := s₂.heap, slotsUsed := s₂.slotsUsed } : State).setVm s₂.vm).frames = .java g₀ :: r := hr
    refine e3.trans ?_
    rw [hf₂, State.calling_eq h.top, State.setFrames_setFrames, State.pushFrame, State.setTop_of_frames _ hr', State.setFrames_setFrames, State.frames_setFrames _ (State.cur_lt_of_frames hr'), hr]
    rfl
  have hsame : U.sameButNew ({ U with heap := s₂.heap, slotsUsed := s₂.slotsUsed } : State) [] 1 6 := by
    refine ⟨?_, k2, k3, k4, k5, k6⟩
    obtain ⟨t, ht, -⟩ := State.frames_cons hr
    show ({ U with heap := s₂.heap, slotsUsed := s₂.slotsUsed } : State) = { U.setFrames U.frames with heap := s₂.heap, slotsUsed := s₂.slotsUsed }
    rw [State.setFrames_self ht]
  have hX : Stand p l e R s m args below meth c (({ U with heap := s₂.heap, slotsUsed := s₂.slotsUsed } : State).setVm s₂.vm) (locs ++ []) (cells + 1) (slots + 6) :=
    ⟨X₁.admits, X₁.cas, X₁.clock, X₁.frames, X₁.room, X₁.hears, X₁.method, X₁.code, (X₁.here.setHeapUsed s₂.heap s₂.slotsUsed).setVm hW'.alike, X₁.tail, State.WarmedH.trans X₁.warmed hW', X₁.limits, X₁.bytes, X₁.same.trans (hsame.setVm s.vm)⟩
  rw [List.append_nil] at hX
  refine ⟨q, ce, _, hX, hce, ?_, hcv, ?_, ?_, ?_, fun tg h9 => hstep₁ _ fun acts => ?_⟩
  · rw [← X₁.warmed.alike.findClass]; exact hcls
  · rw [← hUH]; exact hq0
  · rw [← hUH]; exact k2
  · intro a ha
    rw [← hUH] at ha ⊢
    have hc := Array.getElem?_eq_getElem (xs := U.heap) ha
    rw [hc]
    exact hsame.old_cell hc
  · rw [doInvoke_state, ← hg']
    refine hsteps.trans ?_
    rw [hs₂, hg']
    exact h9
/-- a call of a method that throws, no handler: this method throws -/
theorem dx_callT {H : Heap} {y : MethodName} {bytes : ByteArray} {maxL nL n index : Nat} {ret : Option FieldType} {ws Ts : List Cond} {rm : Room} {P0 : Array Value → State → Prop} {E own C : String} {b : Addr} {As : List Value}
    (S : CallFix p m c cc nL s args Ts own) (hM : dx_Met l y ws rm (fun a U => P0 a U ∧ dx_N U) E) (cw : CallW R s args own C index y bytes maxL ret ws rm 1 6 n) (hp : PreV s H C b P0 As) (hH : H = s.heap) (hN : dx_N s) (hno : c.exceptionTable.isEmpty = true) (hlocks : meth.locks = false)
    (hn : As.length = n) (hsize : ls.size = nL) (hstack : st0 = As.reverse ++ .ref b :: rest) (hW : (rest.map fun v => v.category).sum ≤ 8) (hdg : decode cc pc = .ok (.invokevirtual index, 3)) (hf : 0 + 1 ≤ R.cells ∧ 0 + 6 ≤ R.slots) :
    W p l e R s m args below meth c H [] 0 0 (dx_MQ below E args s) (F0 m pc ls st0) := by
  intro T hT X
  obtain ⟨q, ce, U, X', h1, h2, h3, h4, h5, h6, st⟩ := dx_came S hM cw hp (g := F0 m pc ls st0) rfl hn hsize hstack (by simpa [JFrame.monitorRoom] using hW) hdg hf hT X (fun vm₁ X₁ => hN.here X₁)
  obtain ⟨k1, k2, k3, k4, k5⟩ := X'.leaveThrown q (g := { F0 m pc ls st0 with stack := rest }) rfl rfl rfl (covers_of_empty hno _) hlocks
  exact ⟨_, st _ k1, .threw q, k2, k3, q, ce, rfl, h1, h2, h3, by rw [← hH]; exact h4, k4, k5⟩
end DX
