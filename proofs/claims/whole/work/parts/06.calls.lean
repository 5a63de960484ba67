/-! ===== a call's words, out of the one list dt ===== -/
section DC
variable {R : Room} {s : State} {args : Array Value} {own C : String} {index maxL mc ms : Nat} {y : MethodName} {bytes : ByteArray} {ret : Option FieldType} {rm : Room} {c0 : Cond}
theorem dc_in {ws : List Cond} (h : ∀ w ∈ ws, w ∈ dt) : GoodIn (c0 :: dt) ws := dt_in (fun w hw => List.mem_cons_of_mem _ hw) h
theorem dc_V (n : Nat) (hts : ∀ w ∈ c0 :: dt, w.before args s = true) (m1 : Cond.methodLink own index y ∈ dt) (m2 : Cond.instanceMethod y ∈ dt) (m3 : Cond.selects C y y ∈ dt) (m4 : Cond.initialized C ∈ dt) (m5 : Cond.code y bytes maxL ret ∈ dt)
    (hrc : rm.cells = mc) (hrs : rm.slots = ms) (hd : y.cls = C ∧ y.cls ≠ "java/lang/invoke/MethodHandle" ∧ y.cls ≠ "java/lang/invoke/VarHandle" ∧ (parseMethodDescriptor y.desc).map (fun d => d.parameters.length) = some n) (hR : rm.frames + 1 ≤ R.frames ∧ 8 + (maxL + 11) + rm.locals ≤ R.locals) :
    CallW R s args own C index y bytes maxL ret (Cond.code y bytes maxL ret :: dt) rm mc ms n := by
  refine cwV n hts (dc_in ?_) rfl hrc hrs hd hR
  intro w hw
  unfold wsV at hw
  rcases List.mem_append.mp hw with h | h
  · rcases List.mem_cons.mp h with rfl | h
    · exact m1
    rcases List.mem_cons.mp h with rfl | h
    · exact m2
    rcases List.mem_cons.mp h with rfl | h
    · exact m3
    rcases List.mem_cons.mp h with rfl | h
    · exact m4
    cases h
  · rcases List.mem_cons.mp h with rfl | h
    · exact m5
    · exact h
theorem dc_S (n : Nat) (hts : ∀ w ∈ c0 :: dt, w.before args s = true) (m1 : Cond.methodLink own index y ∈ dt) (m2 : Cond.static y ∈ dt) (m3 : Cond.initialized y.cls ∈ dt) (m5 : Cond.code y bytes maxL ret ∈ dt)
    (hrc : rm.cells = mc) (hrs : rm.slots = ms) (hd : y.cls ≠ "java/lang/invoke/MethodHandle" ∧ y.cls ≠ "java/lang/invoke/VarHandle" ∧ (parseMethodDescriptor y.desc).map (fun d => d.parameters.length) = some n) (hR : rm.frames + 1 ≤ R.frames ∧ 8 + (maxL + 11) + rm.locals ≤ R.locals) :
    CallB R s args own index y bytes maxL ret (Cond.code y bytes maxL ret :: dt) rm mc ms n ∧ (Cond.static y).before args s = true :=
  ⟨callB_of n hts (dc_in (fun w h => (List.mem_cons.mp h).elim (fun e => e ▸ m5) id)) rfl hrc hrs (hts _ (List.mem_cons_of_mem _ m3)) (hts _ (List.mem_cons_of_mem _ m1)) hd hR, hts _ (List.mem_cons_of_mem _ m2)⟩
theorem dc_N (n : Nat) {host : String} (hts : ∀ w ∈ c0 :: dt, w.before args s = true) (hN : dw_N s) (i : Nat) (hi : dw_nest[i]? = some (own, index, y, host)) (m2 : Cond.static y ∈ dt) (m3 : Cond.initialized y.cls ∈ dt) (m5 : Cond.code y bytes maxL ret ∈ dt)
    (hrc : rm.cells = mc) (hrs : rm.slots = ms) (hd : y.cls ≠ "java/lang/invoke/MethodHandle" ∧ y.cls ≠ "java/lang/invoke/VarHandle" ∧ (parseMethodDescriptor y.desc).map (fun d => d.parameters.length) = some n) (hR : rm.frames + 1 ≤ R.frames ∧ 8 + (maxL + 11) + rm.locals ≤ R.locals) :
    va_CN R s args own index y host bytes maxL ret (Cond.code y bytes maxL ret :: dt) rm mc ms n ∧ (Cond.static y).before args s = true ∧ True :=
  ⟨va_cnB n hts (dc_in (fun w h => (List.mem_cons.mp h).elim (fun e => e ▸ m5) id)) rfl hrc hrs (hN _ (List.mem_of_getElem? hi)) (hts _ (List.mem_cons_of_mem _ m3)) hd hR, hts _ (List.mem_cons_of_mem _ m2), trivial⟩
end DC
theorem dw_inc (v : Nat) : nI v + Int32.ofInt 1 = nI (v + 1) := by rw [show Int32.ofInt 1 = 1 from rfl]; exact nI_1 v
theorem dw_dec (v : Nat) : nI (v + 1) + Int32.ofInt (-1) = nI v := by rw [show Int32.ofInt (-1) = -1 from rfl]; exact pk_m1 v
