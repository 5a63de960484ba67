/-! ===== rows of the law's own walk ===== -/
theorem dt_tbl {w : Cond} (h : w ∈ dt) : w ∈ lw_tbl := (List.mem_filter.mp h).1
def dx_s : Cond → Bool
  | .isRef (.static ..) => true
  | .castable .. => true
  | .laysStatic .. => true
  | .stringRef .. => true
  | .not (.castable ..) => true
  | w => w.onTables
theorem dx_s1 : ∀ w ∈ dx_ws, dx_s w = true := by decide +kernel
theorem dx_s2 : ∀ w ∈ dx_wl, dx_s w = true := by decide +kernel
theorem dx_isr {C n d : String} {a a' : Array Value} {s U : State} (hW : s.WarmedH U.vm) (hH : ∀ q : Nat, q < s.heap.size → U.heap[q]? = s.heap[q]?) (h : (Cond.isRef (.static C n d)).before a s = true) : (Cond.isRef (.static C n d)).before a' U = true := by
  cases hf : s.fieldFound? C n d with
  | none => simp [Cond.before, Cond.holds, Cond.value, Term.eval, State.fieldNamed?, hf] at h
  | some q =>
    obtain ⟨c, k, i, f⟩ := q
    obtain ⟨k', hf0, he⟩ := State.fieldFound?_setVm hW.alike hf
    have hf' : U.fieldFound? C n d = some (c, k', i, f) := hf0
    have hks' : k'.statics = k.statics := by rw [he]
    cases hst : f.isStatic with
    | false => simp [Cond.before, Cond.holds, Cond.value, Term.eval, State.fieldNamed?, hf, hst] at h
    | true =>
      cases hks : k.statics with
      | none => simp [Cond.before, Cond.holds, Cond.value, Term.eval, State.fieldNamed?, hf, hst, hks] at h
      | some x =>
        cases hc : s.heap[x]? with
        | none => simp [Cond.before, Cond.holds, Cond.value, Term.eval, State.fieldNamed?, hf, hst, hks, hc] at h
        | some cell =>
          have hc' : U.heap[x]? = some cell := (hH x (Array.getElem?_eq_some_iff.mp hc).1).trans hc
          simp only [Cond.before, Cond.holds, Cond.value, Term.eval, State.fieldNamed?, hf, hf', Option.bind_eq_bind, Option.bind_some, hst, beq_self_eq_true, if_true, Option.pure_def, hks, hks', hc, hc'] at h ⊢
          exact h
theorem dx_lst {C n d : String} {a a' : Array Value} {s U : State} (hW : s.WarmedH U.vm) (hH : ∀ q : Nat, q < s.heap.size → U.heap[q]? = s.heap[q]?) (h : (Cond.laysStatic C n d).before a s = true) : (Cond.laysStatic C n d).before a' U = true := by
  obtain ⟨c, k, i, f, x, cell, hc, hi, hst, hx, hcell, hs, hcls, hlt, hty⟩ := Cond.laysStatic_spec h
  obtain ⟨k', hf0, he⟩ := State.fieldFound?_setVm hW.alike hi
  have hf' : U.fieldFound? C n d = some (c, k', i, f) := hf0
  have hc' : U.heap[x]? = some cell := (hH x (Array.getElem?_eq_some_iff.mp hcell).1).trans hcell
  exact Cond.laysStatic_of (by rw [hW.alike.findClass]; exact hc) hf' hst (by rw [he]; exact hx) hc' hs hcls hlt (by rw [he]; exact hty)
theorem dx_cast {E F : String} {a a' : Array Value} {s U : State} (hW : s.WarmedH U.vm) (h : (Cond.castable E F).before a s = true) : (Cond.castable E F).before a' U = true := by
  simp only [Cond.before, Cond.holds, Cond.value] at h ⊢
  simp only [hW.alike.findClass, hW.alike.assignable]
  exact h
theorem dx_ncast {E F : String} {a a' : Array Value} {s U : State} (hW : s.WarmedH U.vm) (h : (Cond.not (.castable E F)).before a s = true) : (Cond.not (.castable E F)).before a' U = true := by
  simp only [Cond.before, Cond.holds, Cond.value] at h ⊢
  simp only [hW.alike.findClass, hW.alike.assignable]
  exact h
theorem dx_sref {C t : String} {i : Nat} {a a' : Array Value} {s U : State} (hW : s.WarmedH U.vm) (h : (Cond.stringRef C i t).before a s = true) : (Cond.stringRef C i t).before a' U = true := by
  have h1 : (Cond.stringRef C i t).before a (s.setVm U.vm) = true := Cond.stringRef_warmed hW h
  exact h1
theorem dx_move {w : Cond} (hs : dx_s w = true) (hk : dx_k w = true ∨ w ∈ dx_wl) {a a' : Array Value} {s U : State} (hW : s.WarmedH U.vm) (hH : ∀ q : Nat, q < s.heap.size → U.heap[q]? = s.heap[q]?) (h : w.before a s = true) : w.before a' U = true := by
  unfold dx_s at hs
  split at hs
  · exact dx_isr hW hH h
  · exact dx_cast hW h
  · exact dx_lst hW hH h
  · exact dx_sref hW h
  · exact dx_ncast hW h
  · rcases hk with hk | hk
    · have h1 := dx_warm hk hW h
      exact va_tabs hs (rfl : (s.setVm U.vm).vm = U.vm) h1
    · unfold dx_wl at hk
      simp only [List.mem_cons, List.not_mem_nil, or_false] at hk
      have hk2 : dx_k w = true := by
        rcases hk with rfl | rfl | rfl | rfl | rfl | rfl | rfl | rfl | rfl | rfl | rfl | rfl <;> first | rfl | (exact absurd hs (by decide))
      have h1 := dx_warm hk2 hW h
      exact va_tabs hs (rfl : (s.setVm U.vm).vm = U.vm) h1
theorem dx_N.law {s U : State} (hN : dx_N s) (hW : s.WarmedH U.vm) (hH : ∀ q : Nat, q < s.heap.size → U.heap[q]? = s.heap[q]?) : dx_N U := fun a w hw => dx_move (dx_s1 w hw) (Or.inl (dx_face w hw)) hW hH (hN a w hw)
theorem dx_L.law {s U : State} (hN : dx_L s) (hW : s.WarmedH U.vm) (hH : ∀ q : Nat, q < s.heap.size → U.heap[q]? = s.heap[q]?) : dx_L U := fun a w hw => dx_move (dx_s2 w hw) (Or.inr hw) hW hH (hN a w hw)
section DX4
variable {p : Program} {l : Launch} {e : Env} {R : Room} {s : State} {m : MethodId} {args : Array Value} {below : List Frame} {meth : Method} {c : Code} {H : Heap} {locs : List Loc} {cells slots : Nat} {Q : State → Prop}
abbrev dw_CH (R : Room) (s : State) (args : Array Value) (own : String) (index : Nat) (y : MethodName) (bytes : ByteArray) (maxL : Nat) (ret : Option FieldType) (hh : List (Nat × Nat × Nat × Nat)) (ws : List Cond) (rm : Room) (mc ms n : Nat) : Prop :=
  rm.cells = mc ∧ rm.slots = ms ∧ rm.frames + 1 ≤ R.frames ∧ 8 + (maxL + 11) + rm.locals ≤ R.locals ∧ (∀ w ∈ ws, ∀ (a' : Array Value) (U : State), s.WarmedH U.vm → w.before a' U = true) ∧ Cond.codeWith y bytes maxL ret hh ∈ ws ∧
  (Cond.codeWith y bytes maxL ret hh).before args s = true ∧ (Cond.initialized y.cls).before args s = true ∧ (y.cls ≠ "java/lang/invoke/MethodHandle" ∧ y.cls ≠ "java/lang/invoke/VarHandle") ∧ (∀ sig, parseMethodDescriptor y.desc = some sig → n = sig.parameters.length) ∧ (Cond.methodLink own index y).before args s = true ∧ (Cond.static y).before args s = true
theorem dc_H {own : String} {index maxL mc ms : Nat} {y : MethodName} {bytes : ByteArray} {ret : Option FieldType} {hh : List (Nat × Nat × Nat × Nat)} {rm : Room} {c0 : Cond} (n : Nat) (hts : ∀ w ∈ c0 :: dt, w.before args s = true) (m1 : Cond.methodLink own index y ∈ dt) (m2 : Cond.static y ∈ dt) (m3 : Cond.initialized y.cls ∈ dt) (m5 : Cond.codeWith y bytes maxL ret hh ∈ dt)
    (hrc : rm.cells = mc) (hrs : rm.slots = ms) (hd : y.cls ≠ "java/lang/invoke/MethodHandle" ∧ y.cls ≠ "java/lang/invoke/VarHandle" ∧ (parseMethodDescriptor y.desc).map (fun d => d.parameters.length) = some n) (hR : rm.frames + 1 ≤ R.frames ∧ 8 + (maxL + 11) + rm.locals ≤ R.locals) :
    dw_CH R s args own index y bytes maxL ret hh (Cond.codeWith y bytes maxL ret hh :: dt) rm mc ms n := by
  have hG : GoodIn (c0 :: dt) (Cond.codeWith y bytes maxL ret hh :: dt) := dc_in (fun w h => (List.mem_cons.mp h).elim (fun e => e ▸ m5) id)
  refine ⟨hrc, hrs, hR.1, hR.2, pay_in hts hG, List.mem_cons_self, hts _ (List.mem_cons_of_mem _ m5), hts _ (List.mem_cons_of_mem _ m3), ⟨hd.1, hd.2.1⟩, fun sig h => ?_, hts _ (List.mem_cons_of_mem _ m1), hts _ (List.mem_cons_of_mem _ m2)⟩
  have h2 := hd.2.2
  rw [h] at h2
  exact (Option.some.inj h2).symm
theorem dw_runSH {y : MethodName} {bytes cc : ByteArray} {maxL nL mc ms n index : Nat} {ret : Option FieldType} {hh : List (Nat × Nat × Nat × Nat)} {ws : List Cond} {rm : Room} {Pc : Array Value → State → Prop} {Qc : Array Value → State → Outcome → State → Prop} {free : Addr → Prop} {Ts : List Cond} {own : String} {As rest : List Value} {g : JFrame}
    (S : CallFix p m c cc nL s args Ts own) (hM : Met l y ws rm Pc Qc mc ms free) (cw : dw_CH R s args own index y bytes maxL ret hh ws rm mc ms n) (hp : PreS s H Pc As)
    (hg : g.method = m) (hn : As.length = n) (hsize : g.locals.size = nL) (hstack : g.stack = As.reverse ++ rest) (hW : 2 * g.monitorRoom + (rest.map fun v => v.category).sum ≤ 8) (hdg : decode cc g.pc = .ok (.invokestatic index, 3)) (hf : cells + mc ≤ R.cells ∧ slots + ms ≤ R.slots) :
    va_Run p l e R s m args below meth c H locs cells slots mc ms g rest (Qc As.toArray) (free) := by
  obtain ⟨hrc, hrs, hfr, hlo, hws, hcw, hcode, hini, hy, hlen, hl, hstt⟩ := cw
  have hK : Back l R p e below s args y 3 8 (PreOf R mc ms Pc) (PostOf Qc mc ms free) := va_backW (hh := hh) (bytes := bytes) (maxL := maxL) (ret := ret) hM hp.1 hrc hrs hfr hlo hws hcw (fun a' U hW => word_at hW (Or.inl (by first | rfl | simp [Cond.onTables, Cond.keeps, Cond.steady])) hini)
  obtain ⟨hx, hb, hml, ho, -⟩ := S
  have hPc := hp.2
  subst hb
  intro T hT X
  obtain ⟨mk, methM, cM, hnamed, hmethM, -, -, -, -, -, -, hsigM⟩ := Cond.codeWith_spec hcode
  have hstatic : methM.isStatic = true := Cond.static_spec hnamed hmethM hstt
  obtain ⟨kP, hkP, -⟩ := className_of_methodNamed hnamed
  have hinitP : kP.init = .initialized := Cond.initialized_spec (findClass_of_methodNamed hnamed) hkP hini
  obtain ⟨vm₁, X₁, hstep₁⟩ := X.invokestatic hx ho hl hnamed hmethM hstatic hkP hinitP hy (g := g) hg (argsL := As) (rest := rest) (hn.trans (hlen _ hsigM)) hstack hdg
  obtain ⟨v, ⟨U', l2, c2, s2⟩, X', ⟨g', mk', t, L, e1, e2, hq, h1, hL, h2, h3⟩, st⟩ := hK m meth c ⟨T.setVm vm₁, locs, cells, slots⟩ { g with stack := rest } (.invokestatic index) mk As.toArray X₁ hg (hsize.trans hml.symm) hdg hW (X₁.named hnamed) ⟨hf.1, hf.2, hPc (T.setVm vm₁) hT X₁.warmed⟩
  dsimp only [Pt.U, Pt.locs, Pt.cells, Pt.slots] at X' e1 e2 h1 h2 h3 st
  subst h1; subst h2; subst h3
  exact ⟨v, (T.setVm vm₁).calling g' mk' As.toArray, t, U', L, hT, X', hL, e1, e2, hq, fun target h => hstep₁ _ fun acts => by rw [doInvoke_state]; exact st.trans h⟩
end DX4
