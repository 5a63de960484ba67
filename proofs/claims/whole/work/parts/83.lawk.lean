/-! ===== the world's frame at the law's entry ===== -/
theorem lw_arr {ty : FieldType} {a : Array Value} {s : State} (h : (Cond.arrayClass ty).before a s = true) : ∃ (cA : ClassId) (kA : Class) (comp : ClassId), s.vm.findClass ("[" ++ ty.toString) = some cA ∧ s.vm.classes[cA]? = some kA ∧ kA.kind = .array comp ty := by
  simp only [Cond.before, Cond.holds, Cond.value] at h
  cases hf : s.vm.findClass ("[" ++ ty.toString) with
  | none => simp [hf] at h
  | some cA =>
    cases hk : s.vm.classes[cA]? with
    | none => simp [hf, hk] at h
    | some kA =>
      cases hd : kA.kind with
      | array comp t =>
        have e : t = ty := by simpa [hf, hk, hd] using h
        subst e
        exact ⟨cA, kA, comp, rfl, hk, hd⟩
      | _ => simp [hf, hk, hd] at h
theorem lw_Kn {s : State} {a : Array Value} {c0 : Cond} (hts : ∀ w ∈ c0 :: dt, w.before a s = true) : ∀ c : Nat, ∃ (cC : ClassId) (iS : Nat → Nat), ∀ q : vw_C, vwCl[c]? = some q → u_Kn s q.1 q.2.1 q.2.2 cC iS := by
  intro c
  match c with
  | 0 => obtain ⟨cC, iS, h⟩ := u_known hts inBc (hts _ (List.mem_cons_of_mem _ tw_17)); exact ⟨cC, iS, fun q hq => by cases hq; exact h⟩
  | 1 => obtain ⟨cC, iS, h⟩ := u_known hts inUc (hts _ (List.mem_cons_of_mem _ tw_25)); exact ⟨cC, iS, fun q hq => by cases hq; exact h⟩
  | 2 => obtain ⟨cC, iS, h⟩ := u_known hts inFc (hts _ (List.mem_cons_of_mem _ tw_84)); exact ⟨cC, iS, fun q hq => by cases hq; exact h⟩
  | 3 => obtain ⟨cC, iS, h⟩ := u_known hts inEc (hts _ (List.mem_cons_of_mem _ tw_104)); exact ⟨cC, iS, fun q hq => by cases hq; exact h⟩
  | 4 => obtain ⟨cC, iS, h⟩ := u_known hts inCc (hts _ (List.mem_cons_of_mem _ tw_118)); exact ⟨cC, iS, fun q hq => by cases hq; exact h⟩
  | 5 => obtain ⟨cC, iS, h⟩ := u_known hts inMc (hts _ (List.mem_cons_of_mem _ tw_489)); exact ⟨cC, iS, fun q hq => by cases hq; exact h⟩
  | _ + 6 => exact ⟨0, fun _ => 0, fun q hq => by cases hq⟩
theorem lw_K {s : State} {a : Array Value} {c0 : Cond} (hts : ∀ w ∈ c0 :: dt, w.before a s = true) (h1 : (Cond.arrayClass .int).before a s = true) (h2 : (Cond.arrayClass .boolean).before a s = true) (h3 : (Cond.arrayClass .long).before a s = true) :
    ∃ (dC : Nat → ClassId) (dI : Nat → Nat → Nat) (cI cZ cJ : ClassId), va_K (dC, dI) vwCl [(cI, .int), (cZ, .boolean), (cJ, .long)] s := by
  have hK := lw_Kn hts
  obtain ⟨cI, kI, pI, i1, i2, i3⟩ := lw_arr h1
  obtain ⟨cZ, kZ, pZ, z1, z2, z3⟩ := lw_arr h2
  obtain ⟨cJ, kJ, pJ, j1, j2, j3⟩ := lw_arr h3
  refine ⟨fun c => (hK c).choose, fun c => (hK c).choose_spec.choose, cI, cZ, cJ, fun c q hq => (hK c).choose_spec.choose_spec q hq, fun k q hq => ?_⟩
  match k, hq with
  | 0, hq => cases hq; exact ⟨fun n z => ⟨fun k h => (by cases h), kI, i2, pI, i3⟩, i1⟩
  | 1, hq => cases hq; exact ⟨fun n z => ⟨fun k h => (by cases h), kZ, z2, pZ, z3⟩, z1⟩
  | 2, hq => cases hq; exact ⟨fun n z => ⟨fun k h => (by cases h), kJ, j2, pJ, j3⟩, j1⟩
set_option maxRecDepth 100000 in
theorem lw_nest : ∀ q ∈ dw_nest, Cond.methodLinkNest q.1 q.2.1 q.2.2.1 q.2.2.2 ∈ lw_tbl := by decide +kernel
theorem lw_dN {s : State} {a : Array Value} (hts : ∀ w ∈ lw_tbl, w.before a s = true) : dw_N s := fun q hq => va_Nw.of rfl (hts _ (lw_nest q hq))
