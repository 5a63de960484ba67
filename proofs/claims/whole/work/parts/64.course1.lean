set_option maxRecDepth 100000 in
set_option maxHeartbeats 4000000 in
theorem cc_work0 (l : Launch) (dC : Nat → ClassId) (dI : Nat → Nat → Nat) (cI cZ : ClassId) (aI : Nat) (x y : Int32) (inp : Nat → Int32) (nm : Int32) (sz : Nat)  : Met l yC_workOut wsC_workOut { frames := 0, cells := 0, slots := 0, locals := 0 } (va_Pc [.int (0), .int (x), .int (y), .int (nm), .ref aI] (dw_pre (dC, dI) vwCl [(aI, .inl (cI, 3, .inl (inp)))] [(cI, .int), (cZ, .boolean)] sz)) (va_Qi (fun (r : Int32) (u : Unit) => r = db_op 0 x y (nm) inp) (fun u t => dw_post (dC, dI) vwCl [(aI, .inl (cI, 3, .inl (inp)))] [(cI, .int), (cZ, .boolean)] (va_A [(aI, .inl (cI, 3, .inl (inp)))] sz) t) (va_A [(aI, .inl (cI, 3, .inl (inp)))] sz)) 0 0 (va_A [(aI, .inl (cI, 3, .inl (inp)))] sz) := by
  refine Met.ofW (cc := cC_workOut) (maxL := 5) (ret := (some .int)) (by decide) rfl ?_
  intro p e s m args below meth c s₁ B hml hv0
  have hx := B.exec
  have hb := B.bytes
  have hr := B.returns
  have hts := atoms_spec (ws := wsC_workOut) B.pre
  have hown : s.vm.findClass RC = some m.cls := findClass_of_methodNamed B.named
  have hlocks := B.notSynchronized
  obtain ⟨rfl, hsz, hG⟩ := dw_enter hv0
  generalize va_A [(aI, .inl (cI, 3, .inl (inp)))] sz = A at hG ⊢
  have hl := lv_entry ([.int (0), .int (x), .int (y), .int (nm), .ref aI]) (n := 5) (Nat.le_of_ble_eq_true rfl)
  rw [lg_entry_eq]
  generalize (lg_sl ([.int (0), .int (x), .int (y), .int (nm), .ref aI]) ++ List.replicate (5 - (lg_sl ([.int (0), .int (x), .int (y), .int (nm), .ref aI])).length) Slot.unset).toArray = ls at hl ⊢
  have hl : lv_has ls 5 [(0, .int (0)), (1, .int (x)), (2, .int (y)), (3, .int (nm)), (4, .ref aI)] := hl
  refine dw_Q (fun Q hQ => ?_)
  suffices hgo : ∀ (H : Heap) (locs : List Loc), dw_G (dC, dI) vwCl [(cI, .int), (cZ, .boolean)] A s.heap s [(aI, .inl (cI, 3, .inl (inp)))] H locs → W p l e (headSpec wsC_workOut { frames := 0, cells := 0, slots := 0, locals := 0 }).room s m [.int (0), .int (x), .int (y), .int (nm), .ref aI].toArray below meth c H locs 0 0 Q (F0 m 0 ls []) from hgo _ _ hG
  clear hG
  intro H locs hG
  refine lv_iload_n hx hb dC_workOut_0 rfl (lv_at hl 0 rfl) ?_
  refine lv_tableIn (tgt := 68) hx hb dC_workOut_1 (by decide) (by decide) rfl (by decide) ?_
  refine lv_iload_n hx hb dC_workOut_68 rfl (lv_at hl 1 rfl) ?_
  refine lv_iload_n hx hb dC_workOut_69 rfl (lv_at hl 2 rfl) ?_
  refine lv_iadd hx hb dC_workOut_70 ?_
  subst hQ
  exact dw_iret hx hb hr hG (()) rfl rfl dC_workOut_71 hlocks

set_option maxRecDepth 100000 in
set_option maxHeartbeats 4000000 in
theorem cc_work1 (l : Launch) (dC : Nat → ClassId) (dI : Nat → Nat → Nat) (cI cZ : ClassId) (aI : Nat) (x y : Int32) (inp : Nat → Int32) (nm : Int32) (sz : Nat)  : Met l yC_workOut wsC_workOut { frames := 0, cells := 0, slots := 0, locals := 0 } (va_Pc [.int (1), .int (x), .int (y), .int (nm), .ref aI] (dw_pre (dC, dI) vwCl [(aI, .inl (cI, 3, .inl (inp)))] [(cI, .int), (cZ, .boolean)] sz)) (va_Qi (fun (r : Int32) (u : Unit) => r = db_op 1 x y (nm) inp) (fun u t => dw_post (dC, dI) vwCl [(aI, .inl (cI, 3, .inl (inp)))] [(cI, .int), (cZ, .boolean)] (va_A [(aI, .inl (cI, 3, .inl (inp)))] sz) t) (va_A [(aI, .inl (cI, 3, .inl (inp)))] sz)) 0 0 (va_A [(aI, .inl (cI, 3, .inl (inp)))] sz) := by
  refine Met.ofW (cc := cC_workOut) (maxL := 5) (ret := (some .int)) (by decide) rfl ?_
  intro p e s m args below meth c s₁ B hml hv0
  have hx := B.exec
  have hb := B.bytes
  have hr := B.returns
  have hts := atoms_spec (ws := wsC_workOut) B.pre
  have hown : s.vm.findClass RC = some m.cls := findClass_of_methodNamed B.named
  have hlocks := B.notSynchronized
  obtain ⟨rfl, hsz, hG⟩ := dw_enter hv0
  generalize va_A [(aI, .inl (cI, 3, .inl (inp)))] sz = A at hG ⊢
  have hl := lv_entry ([.int (1), .int (x), .int (y), .int (nm), .ref aI]) (n := 5) (Nat.le_of_ble_eq_true rfl)
  rw [lg_entry_eq]
  generalize (lg_sl ([.int (1), .int (x), .int (y), .int (nm), .ref aI]) ++ List.replicate (5 - (lg_sl ([.int (1), .int (x), .int (y), .int (nm), .ref aI])).length) Slot.unset).toArray = ls at hl ⊢
  have hl : lv_has ls 5 [(0, .int (1)), (1, .int (x)), (2, .int (y)), (3, .int (nm)), (4, .ref aI)] := hl
  refine dw_Q (fun Q hQ => ?_)
  suffices hgo : ∀ (H : Heap) (locs : List Loc), dw_G (dC, dI) vwCl [(cI, .int), (cZ, .boolean)] A s.heap s [(aI, .inl (cI, 3, .inl (inp)))] H locs → W p l e (headSpec wsC_workOut { frames := 0, cells := 0, slots := 0, locals := 0 }).room s m [.int (1), .int (x), .int (y), .int (nm), .ref aI].toArray below meth c H locs 0 0 Q (F0 m 0 ls []) from hgo _ _ hG
  clear hG
  intro H locs hG
  refine lv_iload_n hx hb dC_workOut_0 rfl (lv_at hl 0 rfl) ?_
  refine lv_tableIn (tgt := 72) hx hb dC_workOut_1 (by decide) (by decide) rfl (by decide) ?_
  refine lv_iload_n hx hb dC_workOut_72 rfl (lv_at hl 1 rfl) ?_
  refine lv_iload_n hx hb dC_workOut_73 rfl (lv_at hl 2 rfl) ?_
  refine lv_isub hx hb dC_workOut_74 ?_
  subst hQ
  exact dw_iret hx hb hr hG (()) rfl rfl dC_workOut_75 hlocks

set_option maxRecDepth 100000 in
set_option maxHeartbeats 4000000 in
theorem cc_work2 (l : Launch) (dC : Nat → ClassId) (dI : Nat → Nat → Nat) (cI cZ : ClassId) (aI : Nat) (x y : Int32) (inp : Nat → Int32) (nm : Int32) (sz : Nat)  : Met l yC_workOut wsC_workOut { frames := 0, cells := 0, slots := 0, locals := 0 } (va_Pc [.int (2), .int (x), .int (y), .int (nm), .ref aI] (dw_pre (dC, dI) vwCl [(aI, .inl (cI, 3, .inl (inp)))] [(cI, .int), (cZ, .boolean)] sz)) (va_Qi (fun (r : Int32) (u : Unit) => r = db_op 2 x y (nm) inp) (fun u t => dw_post (dC, dI) vwCl [(aI, .inl (cI, 3, .inl (inp)))] [(cI, .int), (cZ, .boolean)] (va_A [(aI, .inl (cI, 3, .inl (inp)))] sz) t) (va_A [(aI, .inl (cI, 3, .inl (inp)))] sz)) 0 0 (va_A [(aI, .inl (cI, 3, .inl (inp)))] sz) := by
  refine Met.ofW (cc := cC_workOut) (maxL := 5) (ret := (some .int)) (by decide) rfl ?_
  intro p e s m args below meth c s₁ B hml hv0
  have hx := B.exec
  have hb := B.bytes
  have hr := B.returns
  have hts := atoms_spec (ws := wsC_workOut) B.pre
  have hown : s.vm.findClass RC = some m.cls := findClass_of_methodNamed B.named
  have hlocks := B.notSynchronized
  obtain ⟨rfl, hsz, hG⟩ := dw_enter hv0
  generalize va_A [(aI, .inl (cI, 3, .inl (inp)))] sz = A at hG ⊢
  have hl := lv_entry ([.int (2), .int (x), .int (y), .int (nm), .ref aI]) (n := 5) (Nat.le_of_ble_eq_true rfl)
  rw [lg_entry_eq]
  generalize (lg_sl ([.int (2), .int (x), .int (y), .int (nm), .ref aI]) ++ List.replicate (5 - (lg_sl ([.int (2), .int (x), .int (y), .int (nm), .ref aI])).length) Slot.unset).toArray = ls at hl ⊢
  have hl : lv_has ls 5 [(0, .int (2)), (1, .int (x)), (2, .int (y)), (3, .int (nm)), (4, .ref aI)] := hl
  refine dw_Q (fun Q hQ => ?_)
  suffices hgo : ∀ (H : Heap) (locs : List Loc), dw_G (dC, dI) vwCl [(cI, .int), (cZ, .boolean)] A s.heap s [(aI, .inl (cI, 3, .inl (inp)))] H locs → W p l e (headSpec wsC_workOut { frames := 0, cells := 0, slots := 0, locals := 0 }).room s m [.int (2), .int (x), .int (y), .int (nm), .ref aI].toArray below meth c H locs 0 0 Q (F0 m 0 ls []) from hgo _ _ hG
  clear hG
  intro H locs hG
  refine lv_iload_n hx hb dC_workOut_0 rfl (lv_at hl 0 rfl) ?_
  refine lv_tableIn (tgt := 76) hx hb dC_workOut_1 (by decide) (by decide) rfl (by decide) ?_
  refine lv_iload_n hx hb dC_workOut_76 rfl (lv_at hl 1 rfl) ?_
  refine lv_iload_n hx hb dC_workOut_77 rfl (lv_at hl 2 rfl) ?_
  refine lv_imul hx hb dC_workOut_78 ?_
  subst hQ
  exact dw_iret hx hb hr hG (()) rfl rfl dC_workOut_79 hlocks

set_option maxRecDepth 100000 in
set_option maxHeartbeats 4000000 in
theorem cc_work3 (l : Launch) (dC : Nat → ClassId) (dI : Nat → Nat → Nat) (cI cZ : ClassId) (aI : Nat) (x y : Int32) (inp : Nat → Int32) (nm : Int32) (sz : Nat)  : Met l yC_workOut wsC_workOut { frames := 0, cells := 0, slots := 0, locals := 0 } (va_Pc [.int (3), .int (x), .int (y), .int (nm), .ref aI] (dw_pre (dC, dI) vwCl [(aI, .inl (cI, 3, .inl (inp)))] [(cI, .int), (cZ, .boolean)] sz)) (va_Qi (fun (r : Int32) (u : Unit) => r = db_op 3 x y (nm) inp) (fun u t => dw_post (dC, dI) vwCl [(aI, .inl (cI, 3, .inl (inp)))] [(cI, .int), (cZ, .boolean)] (va_A [(aI, .inl (cI, 3, .inl (inp)))] sz) t) (va_A [(aI, .inl (cI, 3, .inl (inp)))] sz)) 0 0 (va_A [(aI, .inl (cI, 3, .inl (inp)))] sz) := by
  refine Met.ofW (cc := cC_workOut) (maxL := 5) (ret := (some .int)) (by decide) rfl ?_
  intro p e s m args below meth c s₁ B hml hv0
  have hx := B.exec
  have hb := B.bytes
  have hr := B.returns
  have hts := atoms_spec (ws := wsC_workOut) B.pre
  have hown : s.vm.findClass RC = some m.cls := findClass_of_methodNamed B.named
  have hlocks := B.notSynchronized
  obtain ⟨rfl, hsz, hG⟩ := dw_enter hv0
  generalize va_A [(aI, .inl (cI, 3, .inl (inp)))] sz = A at hG ⊢
  have hl := lv_entry ([.int (3), .int (x), .int (y), .int (nm), .ref aI]) (n := 5) (Nat.le_of_ble_eq_true rfl)
  rw [lg_entry_eq]
  generalize (lg_sl ([.int (3), .int (x), .int (y), .int (nm), .ref aI]) ++ List.replicate (5 - (lg_sl ([.int (3), .int (x), .int (y), .int (nm), .ref aI])).length) Slot.unset).toArray = ls at hl ⊢
  have hl : lv_has ls 5 [(0, .int (3)), (1, .int (x)), (2, .int (y)), (3, .int (nm)), (4, .ref aI)] := hl
  refine dw_Q (fun Q hQ => ?_)
  suffices hgo : ∀ (H : Heap) (locs : List Loc), dw_G (dC, dI) vwCl [(cI, .int), (cZ, .boolean)] A s.heap s [(aI, .inl (cI, 3, .inl (inp)))] H locs → W p l e (headSpec wsC_workOut { frames := 0, cells := 0, slots := 0, locals := 0 }).room s m [.int (3), .int (x), .int (y), .int (nm), .ref aI].toArray below meth c H locs 0 0 Q (F0 m 0 ls []) from hgo _ _ hG
  clear hG
  intro H locs hG
  refine lv_iload_n hx hb dC_workOut_0 rfl (lv_at hl 0 rfl) ?_
  refine lv_tableIn (tgt := 80) hx hb dC_workOut_1 (by decide) (by decide) rfl (by decide) ?_
  refine lv_iload_n hx hb dC_workOut_80 rfl (lv_at hl 1 rfl) ?_
  refine lv_iload_n hx hb dC_workOut_81 rfl (lv_at hl 2 rfl) ?_
  refine lv_iand hx hb dC_workOut_82 ?_
  subst hQ
  exact dw_iret hx hb hr hG (()) rfl rfl dC_workOut_83 hlocks

set_option maxRecDepth 100000 in
set_option maxHeartbeats 4000000 in
theorem cc_work4 (l : Launch) (dC : Nat → ClassId) (dI : Nat → Nat → Nat) (cI cZ : ClassId) (aI : Nat) (x y : Int32) (inp : Nat → Int32) (nm : Int32) (sz : Nat)  : Met l yC_workOut wsC_workOut { frames := 0, cells := 0, slots := 0, locals := 0 } (va_Pc [.int (4), .int (x), .int (y), .int (nm), .ref aI] (dw_pre (dC, dI) vwCl [(aI, .inl (cI, 3, .inl (inp)))] [(cI, .int), (cZ, .boolean)] sz)) (va_Qi (fun (r : Int32) (u : Unit) => r = db_op 4 x y (nm) inp) (fun u t => dw_post (dC, dI) vwCl [(aI, .inl (cI, 3, .inl (inp)))] [(cI, .int), (cZ, .boolean)] (va_A [(aI, .inl (cI, 3, .inl (inp)))] sz) t) (va_A [(aI, .inl (cI, 3, .inl (inp)))] sz)) 0 0 (va_A [(aI, .inl (cI, 3, .inl (inp)))] sz) := by
  refine Met.ofW (cc := cC_workOut) (maxL := 5) (ret := (some .int)) (by decide) rfl ?_
  intro p e s m args below meth c s₁ B hml hv0
  have hx := B.exec
  have hb := B.bytes
  have hr := B.returns
  have hts := atoms_spec (ws := wsC_workOut) B.pre
  have hown : s.vm.findClass RC = some m.cls := findClass_of_methodNamed B.named
  have hlocks := B.notSynchronized
  obtain ⟨rfl, hsz, hG⟩ := dw_enter hv0
  generalize va_A [(aI, .inl (cI, 3, .inl (inp)))] sz = A at hG ⊢
  have hl := lv_entry ([.int (4), .int (x), .int (y), .int (nm), .ref aI]) (n := 5) (Nat.le_of_ble_eq_true rfl)
  rw [lg_entry_eq]
  generalize (lg_sl ([.int (4), .int (x), .int (y), .int (nm), .ref aI]) ++ List.replicate (5 - (lg_sl ([.int (4), .int (x), .int (y), .int (nm), .ref aI])).length) Slot.unset).toArray = ls at hl ⊢
  have hl : lv_has ls 5 [(0, .int (4)), (1, .int (x)), (2, .int (y)), (3, .int (nm)), (4, .ref aI)] := hl
  refine dw_Q (fun Q hQ => ?_)
  suffices hgo : ∀ (H : Heap) (locs : List Loc), dw_G (dC, dI) vwCl [(cI, .int), (cZ, .boolean)] A s.heap s [(aI, .inl (cI, 3, .inl (inp)))] H locs → W p l e (headSpec wsC_workOut { frames := 0, cells := 0, slots := 0, locals := 0 }).room s m [.int (4), .int (x), .int (y), .int (nm), .ref aI].toArray below meth c H locs 0 0 Q (F0 m 0 ls []) from hgo _ _ hG
  clear hG
  intro H locs hG
  refine lv_iload_n hx hb dC_workOut_0 rfl (lv_at hl 0 rfl) ?_
  refine lv_tableIn (tgt := 84) hx hb dC_workOut_1 (by decide) (by decide) rfl (by decide) ?_
  refine lv_iload_n hx hb dC_workOut_84 rfl (lv_at hl 1 rfl) ?_
  refine lv_iload_n hx hb dC_workOut_85 rfl (lv_at hl 2 rfl) ?_
  refine lv_ior hx hb dC_workOut_86 ?_
  subst hQ
  exact dw_iret hx hb hr hG (()) rfl rfl dC_workOut_87 hlocks

set_option maxRecDepth 100000 in
set_option maxHeartbeats 4000000 in
theorem cc_work5 (l : Launch) (dC : Nat → ClassId) (dI : Nat → Nat → Nat) (cI cZ : ClassId) (aI : Nat) (x y : Int32) (inp : Nat → Int32) (nm : Int32) (sz : Nat)  : Met l yC_workOut wsC_workOut { frames := 0, cells := 0, slots := 0, locals := 0 } (va_Pc [.int (5), .int (x), .int (y), .int (nm), .ref aI] (dw_pre (dC, dI) vwCl [(aI, .inl (cI, 3, .inl (inp)))] [(cI, .int), (cZ, .boolean)] sz)) (va_Qi (fun (r : Int32) (u : Unit) => r = db_op 5 x y (nm) inp) (fun u t => dw_post (dC, dI) vwCl [(aI, .inl (cI, 3, .inl (inp)))] [(cI, .int), (cZ, .boolean)] (va_A [(aI, .inl (cI, 3, .inl (inp)))] sz) t) (va_A [(aI, .inl (cI, 3, .inl (inp)))] sz)) 0 0 (va_A [(aI, .inl (cI, 3, .inl (inp)))] sz) := by
  refine Met.ofW (cc := cC_workOut) (maxL := 5) (ret := (some .int)) (by decide) rfl ?_
  intro p e s m args below meth c s₁ B hml hv0
  have hx := B.exec
  have hb := B.bytes
  have hr := B.returns
  have hts := atoms_spec (ws := wsC_workOut) B.pre
  have hown : s.vm.findClass RC = some m.cls := findClass_of_methodNamed B.named
  have hlocks := B.notSynchronized
  obtain ⟨rfl, hsz, hG⟩ := dw_enter hv0
  generalize va_A [(aI, .inl (cI, 3, .inl (inp)))] sz = A at hG ⊢
  have hl := lv_entry ([.int (5), .int (x), .int (y), .int (nm), .ref aI]) (n := 5) (Nat.le_of_ble_eq_true rfl)
  rw [lg_entry_eq]
  generalize (lg_sl ([.int (5), .int (x), .int (y), .int (nm), .ref aI]) ++ List.replicate (5 - (lg_sl ([.int (5), .int (x), .int (y), .int (nm), .ref aI])).length) Slot.unset).toArray = ls at hl ⊢
  have hl : lv_has ls 5 [(0, .int (5)), (1, .int (x)), (2, .int (y)), (3, .int (nm)), (4, .ref aI)] := hl
  refine dw_Q (fun Q hQ => ?_)
  suffices hgo : ∀ (H : Heap) (locs : List Loc), dw_G (dC, dI) vwCl [(cI, .int), (cZ, .boolean)] A s.heap s [(aI, .inl (cI, 3, .inl (inp)))] H locs → W p l e (headSpec wsC_workOut { frames := 0, cells := 0, slots := 0, locals := 0 }).room s m [.int (5), .int (x), .int (y), .int (nm), .ref aI].toArray below meth c H locs 0 0 Q (F0 m 0 ls []) from hgo _ _ hG
  clear hG
  intro H locs hG
  refine lv_iload_n hx hb dC_workOut_0 rfl (lv_at hl 0 rfl) ?_
  refine lv_tableIn (tgt := 88) hx hb dC_workOut_1 (by decide) (by decide) rfl (by decide) ?_
  refine lv_iload_n hx hb dC_workOut_88 rfl (lv_at hl 1 rfl) ?_
  refine lv_iload_n hx hb dC_workOut_89 rfl (lv_at hl 2 rfl) ?_
  refine lv_ixor hx hb dC_workOut_90 ?_
  subst hQ
  exact dw_iret hx hb hr hG (()) rfl rfl dC_workOut_91 hlocks

set_option maxRecDepth 100000 in
set_option maxHeartbeats 4000000 in
theorem cc_work6 (l : Launch) (dC : Nat → ClassId) (dI : Nat → Nat → Nat) (cI cZ : ClassId) (aI : Nat) (x y : Int32) (inp : Nat → Int32) (nm : Int32) (sz : Nat)  : Met l yC_workOut wsC_workOut { frames := 0, cells := 0, slots := 0, locals := 0 } (va_Pc [.int (6), .int (x), .int (y), .int (nm), .ref aI] (dw_pre (dC, dI) vwCl [(aI, .inl (cI, 3, .inl (inp)))] [(cI, .int), (cZ, .boolean)] sz)) (va_Qi (fun (r : Int32) (u : Unit) => r = db_op 6 x y (nm) inp) (fun u t => dw_post (dC, dI) vwCl [(aI, .inl (cI, 3, .inl (inp)))] [(cI, .int), (cZ, .boolean)] (va_A [(aI, .inl (cI, 3, .inl (inp)))] sz) t) (va_A [(aI, .inl (cI, 3, .inl (inp)))] sz)) 0 0 (va_A [(aI, .inl (cI, 3, .inl (inp)))] sz) := by
  refine Met.ofW (cc := cC_workOut) (maxL := 5) (ret := (some .int)) (by decide) rfl ?_
  intro p e s m args below meth c s₁ B hml hv0
  have hx := B.exec
  have hb := B.bytes
  have hr := B.returns
  have hts := atoms_spec (ws := wsC_workOut) B.pre
  have hown : s.vm.findClass RC = some m.cls := findClass_of_methodNamed B.named
  have hlocks := B.notSynchronized
  obtain ⟨rfl, hsz, hG⟩ := dw_enter hv0
  generalize va_A [(aI, .inl (cI, 3, .inl (inp)))] sz = A at hG ⊢
  have hl := lv_entry ([.int (6), .int (x), .int (y), .int (nm), .ref aI]) (n := 5) (Nat.le_of_ble_eq_true rfl)
  rw [lg_entry_eq]
  generalize (lg_sl ([.int (6), .int (x), .int (y), .int (nm), .ref aI]) ++ List.replicate (5 - (lg_sl ([.int (6), .int (x), .int (y), .int (nm), .ref aI])).length) Slot.unset).toArray = ls at hl ⊢
  have hl : lv_has ls 5 [(0, .int (6)), (1, .int (x)), (2, .int (y)), (3, .int (nm)), (4, .ref aI)] := hl
  refine dw_Q (fun Q hQ => ?_)
  suffices hgo : ∀ (H : Heap) (locs : List Loc), dw_G (dC, dI) vwCl [(cI, .int), (cZ, .boolean)] A s.heap s [(aI, .inl (cI, 3, .inl (inp)))] H locs → W p l e (headSpec wsC_workOut { frames := 0, cells := 0, slots := 0, locals := 0 }).room s m [.int (6), .int (x), .int (y), .int (nm), .ref aI].toArray below meth c H locs 0 0 Q (F0 m 0 ls []) from hgo _ _ hG
  clear hG
  intro H locs hG
  refine lv_iload_n hx hb dC_workOut_0 rfl (lv_at hl 0 rfl) ?_
  refine lv_tableIn (tgt := 92) hx hb dC_workOut_1 (by decide) (by decide) rfl (by decide) ?_
  refine lv_iload_n hx hb dC_workOut_92 rfl (lv_at hl 1 rfl) ?_
  refine lv_iload_n hx hb dC_workOut_93 rfl (lv_at hl 3 rfl) ?_
  refine lv_ishl hx hb dC_workOut_94 ?_
  subst hQ
  exact dw_iret hx hb hr hG (()) rfl rfl dC_workOut_95 hlocks

set_option maxRecDepth 100000 in
set_option maxHeartbeats 4000000 in
theorem cc_work7 (l : Launch) (dC : Nat → ClassId) (dI : Nat → Nat → Nat) (cI cZ : ClassId) (aI : Nat) (x y : Int32) (inp : Nat → Int32) (nm : Int32) (sz : Nat)  : Met l yC_workOut wsC_workOut { frames := 0, cells := 0, slots := 0, locals := 0 } (va_Pc [.int (7), .int (x), .int (y), .int (nm), .ref aI] (dw_pre (dC, dI) vwCl [(aI, .inl (cI, 3, .inl (inp)))] [(cI, .int), (cZ, .boolean)] sz)) (va_Qi (fun (r : Int32) (u : Unit) => r = db_op 7 x y (nm) inp) (fun u t => dw_post (dC, dI) vwCl [(aI, .inl (cI, 3, .inl (inp)))] [(cI, .int), (cZ, .boolean)] (va_A [(aI, .inl (cI, 3, .inl (inp)))] sz) t) (va_A [(aI, .inl (cI, 3, .inl (inp)))] sz)) 0 0 (va_A [(aI, .inl (cI, 3, .inl (inp)))] sz) := by
  refine Met.ofW (cc := cC_workOut) (maxL := 5) (ret := (some .int)) (by decide) rfl ?_
  intro p e s m args below meth c s₁ B hml hv0
  have hx := B.exec
  have hb := B.bytes
  have hr := B.returns
  have hts := atoms_spec (ws := wsC_workOut) B.pre
  have hown : s.vm.findClass RC = some m.cls := findClass_of_methodNamed B.named
  have hlocks := B.notSynchronized
  obtain ⟨rfl, hsz, hG⟩ := dw_enter hv0
  generalize va_A [(aI, .inl (cI, 3, .inl (inp)))] sz = A at hG ⊢
  have hl := lv_entry ([.int (7), .int (x), .int (y), .int (nm), .ref aI]) (n := 5) (Nat.le_of_ble_eq_true rfl)
  rw [lg_entry_eq]
  generalize (lg_sl ([.int (7), .int (x), .int (y), .int (nm), .ref aI]) ++ List.replicate (5 - (lg_sl ([.int (7), .int (x), .int (y), .int (nm), .ref aI])).length) Slot.unset).toArray = ls at hl ⊢
  have hl : lv_has ls 5 [(0, .int (7)), (1, .int (x)), (2, .int (y)), (3, .int (nm)), (4, .ref aI)] := hl
  refine dw_Q (fun Q hQ => ?_)
  suffices hgo : ∀ (H : Heap) (locs : List Loc), dw_G (dC, dI) vwCl [(cI, .int), (cZ, .boolean)] A s.heap s [(aI, .inl (cI, 3, .inl (inp)))] H locs → W p l e (headSpec wsC_workOut { frames := 0, cells := 0, slots := 0, locals := 0 }).room s m [.int (7), .int (x), .int (y), .int (nm), .ref aI].toArray below meth c H locs 0 0 Q (F0 m 0 ls []) from hgo _ _ hG
  clear hG
  intro H locs hG
  refine lv_iload_n hx hb dC_workOut_0 rfl (lv_at hl 0 rfl) ?_
  refine lv_tableIn (tgt := 96) hx hb dC_workOut_1 (by decide) (by decide) rfl (by decide) ?_
  refine lv_iload_n hx hb dC_workOut_96 rfl (lv_at hl 1 rfl) ?_
  refine lv_iload_n hx hb dC_workOut_97 rfl (lv_at hl 3 rfl) ?_
  refine lv_ishr hx hb dC_workOut_98 ?_
  subst hQ
  exact dw_iret hx hb hr hG (()) rfl rfl dC_workOut_99 hlocks

set_option maxRecDepth 100000 in
set_option maxHeartbeats 4000000 in
theorem cc_work8 (l : Launch) (dC : Nat → ClassId) (dI : Nat → Nat → Nat) (cI cZ : ClassId) (aI : Nat) (x y : Int32) (inp : Nat → Int32) (nm : Int32) (sz : Nat)  : Met l yC_workOut wsC_workOut { frames := 0, cells := 0, slots := 0, locals := 0 } (va_Pc [.int (8), .int (x), .int (y), .int (nm), .ref aI] (dw_pre (dC, dI) vwCl [(aI, .inl (cI, 3, .inl (inp)))] [(cI, .int), (cZ, .boolean)] sz)) (va_Qi (fun (r : Int32) (u : Unit) => r = db_op 8 x y (nm) inp) (fun u t => dw_post (dC, dI) vwCl [(aI, .inl (cI, 3, .inl (inp)))] [(cI, .int), (cZ, .boolean)] (va_A [(aI, .inl (cI, 3, .inl (inp)))] sz) t) (va_A [(aI, .inl (cI, 3, .inl (inp)))] sz)) 0 0 (va_A [(aI, .inl (cI, 3, .inl (inp)))] sz) := by
  refine Met.ofW (cc := cC_workOut) (maxL := 5) (ret := (some .int)) (by decide) rfl ?_
  intro p e s m args below meth c s₁ B hml hv0
  have hx := B.exec
  have hb := B.bytes
  have hr := B.returns
  have hts := atoms_spec (ws := wsC_workOut) B.pre
  have hown : s.vm.findClass RC = some m.cls := findClass_of_methodNamed B.named
  have hlocks := B.notSynchronized
  obtain ⟨rfl, hsz, hG⟩ := dw_enter hv0
  generalize va_A [(aI, .inl (cI, 3, .inl (inp)))] sz = A at hG ⊢
  have hl := lv_entry ([.int (8), .int (x), .int (y), .int (nm), .ref aI]) (n := 5) (Nat.le_of_ble_eq_true rfl)
  rw [lg_entry_eq]
  generalize (lg_sl ([.int (8), .int (x), .int (y), .int (nm), .ref aI]) ++ List.replicate (5 - (lg_sl ([.int (8), .int (x), .int (y), .int (nm), .ref aI])).length) Slot.unset).toArray = ls at hl ⊢
  have hl : lv_has ls 5 [(0, .int (8)), (1, .int (x)), (2, .int (y)), (3, .int (nm)), (4, .ref aI)] := hl
  refine dw_Q (fun Q hQ => ?_)
  suffices hgo : ∀ (H : Heap) (locs : List Loc), dw_G (dC, dI) vwCl [(cI, .int), (cZ, .boolean)] A s.heap s [(aI, .inl (cI, 3, .inl (inp)))] H locs → W p l e (headSpec wsC_workOut { frames := 0, cells := 0, slots := 0, locals := 0 }).room s m [.int (8), .int (x), .int (y), .int (nm), .ref aI].toArray below meth c H locs 0 0 Q (F0 m 0 ls []) from hgo _ _ hG
  clear hG
  intro H locs hG
  refine lv_iload_n hx hb dC_workOut_0 rfl (lv_at hl 0 rfl) ?_
  refine lv_tableIn (tgt := 100) hx hb dC_workOut_1 (by decide) (by decide) rfl (by decide) ?_
  refine lv_iload_n hx hb dC_workOut_100 rfl (lv_at hl 1 rfl) ?_
  refine lv_iload_n hx hb dC_workOut_101 rfl (lv_at hl 3 rfl) ?_
  refine lv_iushr (v := db_ushr (x) (nm)) hx hb dC_workOut_102 rfl ?_
  subst hQ
  exact dw_iret hx hb hr hG (()) rfl rfl dC_workOut_103 hlocks

set_option maxRecDepth 100000 in
set_option maxHeartbeats 4000000 in
theorem cc_work9 (l : Launch) (dC : Nat → ClassId) (dI : Nat → Nat → Nat) (cI cZ : ClassId) (aI : Nat) (x y : Int32) (inp : Nat → Int32) (d : Nat) (sz : Nat) (hd : d < 3) : Met l yC_workOut wsC_workOut { frames := 0, cells := 0, slots := 0, locals := 0 } (va_Pc [.int (9), .int (x), .int (y), .int (nI (d)), .ref aI] (dw_pre (dC, dI) vwCl [(aI, .inl (cI, 3, .inl (inp)))] [(cI, .int), (cZ, .boolean)] sz)) (va_Qi (fun (r : Int32) (u : Unit) => r = db_op 9 x y (nI (d)) inp) (fun u t => dw_post (dC, dI) vwCl [(aI, .inl (cI, 3, .inl (inp)))] [(cI, .int), (cZ, .boolean)] (va_A [(aI, .inl (cI, 3, .inl (inp)))] sz) t) (va_A [(aI, .inl (cI, 3, .inl (inp)))] sz)) 0 0 (va_A [(aI, .inl (cI, 3, .inl (inp)))] sz) := by
  refine Met.ofW (cc := cC_workOut) (maxL := 5) (ret := (some .int)) (by decide) rfl ?_
  intro p e s m args below meth c s₁ B hml hv0
  have hx := B.exec
  have hb := B.bytes
  have hr := B.returns
  have hts := atoms_spec (ws := wsC_workOut) B.pre
  have hown : s.vm.findClass RC = some m.cls := findClass_of_methodNamed B.named
  have hlocks := B.notSynchronized
  obtain ⟨rfl, hsz, hG⟩ := dw_enter hv0
  generalize va_A [(aI, .inl (cI, 3, .inl (inp)))] sz = A at hG ⊢
  have hl := lv_entry ([.int (9), .int (x), .int (y), .int (nI (d)), .ref aI]) (n := 5) (Nat.le_of_ble_eq_true rfl)
  rw [lg_entry_eq]
  generalize (lg_sl ([.int (9), .int (x), .int (y), .int (nI (d)), .ref aI]) ++ List.replicate (5 - (lg_sl ([.int (9), .int (x), .int (y), .int (nI (d)), .ref aI])).length) Slot.unset).toArray = ls at hl ⊢
  have hl : lv_has ls 5 [(0, .int (9)), (1, .int (x)), (2, .int (y)), (3, .int (nI (d))), (4, .ref aI)] := hl
  refine dw_Q (fun Q hQ => ?_)
  suffices hgo : ∀ (H : Heap) (locs : List Loc), dw_G (dC, dI) vwCl [(cI, .int), (cZ, .boolean)] A s.heap s [(aI, .inl (cI, 3, .inl (inp)))] H locs → W p l e (headSpec wsC_workOut { frames := 0, cells := 0, slots := 0, locals := 0 }).room s m [.int (9), .int (x), .int (y), .int (nI (d)), .ref aI].toArray below meth c H locs 0 0 Q (F0 m 0 ls []) from hgo _ _ hG
  clear hG
  intro H locs hG
  refine lv_iload_n hx hb dC_workOut_0 rfl (lv_at hl 0 rfl) ?_
  refine lv_tableIn (tgt := 110) hx hb dC_workOut_1 (by decide) (by decide) rfl (by decide) ?_
  refine lv_aload hx hb dC_workOut_110 (lv_at hl 4 rfl) ?_
  refine lv_iload_n hx hb dC_workOut_112 rfl (lv_at hl 3 rfl) ?_
  refine dw_ia (x := (inp) (d)) hx hb hG 0 0 rfl rfl (d) rfl (by omega) (by decide) rfl dC_workOut_113 ?_
  subst hQ
  exact dw_iret hx hb hr hG (()) rfl (db_op9 _ _ (by omega) inp) dC_workOut_114 hlocks

set_option maxRecDepth 100000 in
set_option maxHeartbeats 4000000 in
theorem cc_work10 (l : Launch) (dC : Nat → ClassId) (dI : Nat → Nat → Nat) (cI cZ : ClassId) (aI : Nat) (x y : Int32) (inp : Nat → Int32) (nm : Int32) (sz : Nat)  : Met l yC_workOut wsC_workOut { frames := 0, cells := 0, slots := 0, locals := 0 } (va_Pc [.int (10), .int (x), .int (y), .int (nm), .ref aI] (dw_pre (dC, dI) vwCl [(aI, .inl (cI, 3, .inl (inp)))] [(cI, .int), (cZ, .boolean)] sz)) (va_Qi (fun (r : Int32) (u : Unit) => r = db_op 10 x y (nm) inp) (fun u t => dw_post (dC, dI) vwCl [(aI, .inl (cI, 3, .inl (inp)))] [(cI, .int), (cZ, .boolean)] (va_A [(aI, .inl (cI, 3, .inl (inp)))] sz) t) (va_A [(aI, .inl (cI, 3, .inl (inp)))] sz)) 0 0 (va_A [(aI, .inl (cI, 3, .inl (inp)))] sz) := by
  refine Met.ofW (cc := cC_workOut) (maxL := 5) (ret := (some .int)) (by decide) rfl ?_
  intro p e s m args below meth c s₁ B hml hv0
  have hx := B.exec
  have hb := B.bytes
  have hr := B.returns
  have hts := atoms_spec (ws := wsC_workOut) B.pre
  have hown : s.vm.findClass RC = some m.cls := findClass_of_methodNamed B.named
  have hlocks := B.notSynchronized
  obtain ⟨rfl, hsz, hG⟩ := dw_enter hv0
  generalize va_A [(aI, .inl (cI, 3, .inl (inp)))] sz = A at hG ⊢
  have hl := lv_entry ([.int (10), .int (x), .int (y), .int (nm), .ref aI]) (n := 5) (Nat.le_of_ble_eq_true rfl)
  rw [lg_entry_eq]
  generalize (lg_sl ([.int (10), .int (x), .int (y), .int (nm), .ref aI]) ++ List.replicate (5 - (lg_sl ([.int (10), .int (x), .int (y), .int (nm), .ref aI])).length) Slot.unset).toArray = ls at hl ⊢
  have hl : lv_has ls 5 [(0, .int (10)), (1, .int (x)), (2, .int (y)), (3, .int (nm)), (4, .ref aI)] := hl
  refine dw_Q (fun Q hQ => ?_)
  suffices hgo : ∀ (H : Heap) (locs : List Loc), dw_G (dC, dI) vwCl [(cI, .int), (cZ, .boolean)] A s.heap s [(aI, .inl (cI, 3, .inl (inp)))] H locs → W p l e (headSpec wsC_workOut { frames := 0, cells := 0, slots := 0, locals := 0 }).room s m [.int (10), .int (x), .int (y), .int (nm), .ref aI].toArray below meth c H locs 0 0 Q (F0 m 0 ls []) from hgo _ _ hG
  clear hG
  intro H locs hG
  refine lv_iload_n hx hb dC_workOut_0 rfl (lv_at hl 0 rfl) ?_
  refine lv_tableIn (tgt := 115) hx hb dC_workOut_1 (by decide) (by decide) rfl (by decide) ?_
  refine lv_iload_n hx hb dC_workOut_115 rfl (lv_at hl 3 rfl) ?_
  subst hQ
  exact dw_iret hx hb hr hG (()) rfl rfl dC_workOut_116 hlocks

set_option maxRecDepth 100000 in
set_option maxHeartbeats 4000000 in
theorem cc_work11 (l : Launch) (dC : Nat → ClassId) (dI : Nat → Nat → Nat) (cI cZ : ClassId) (aI : Nat) (x y : Int32) (inp : Nat → Int32) (nm : Int32) (sz : Nat)  : Met l yC_workOut wsC_workOut { frames := 0, cells := 0, slots := 0, locals := 0 } (va_Pc [.int (11), .int (x), .int (y), .int (nm), .ref aI] (dw_pre (dC, dI) vwCl [(aI, .inl (cI, 3, .inl (inp)))] [(cI, .int), (cZ, .boolean)] sz)) (va_Qi (fun (r : Int32) (u : Unit) => r = db_op 11 x y (nm) inp) (fun u t => dw_post (dC, dI) vwCl [(aI, .inl (cI, 3, .inl (inp)))] [(cI, .int), (cZ, .boolean)] (va_A [(aI, .inl (cI, 3, .inl (inp)))] sz) t) (va_A [(aI, .inl (cI, 3, .inl (inp)))] sz)) 0 0 (va_A [(aI, .inl (cI, 3, .inl (inp)))] sz) := by
  refine Met.ofW (cc := cC_workOut) (maxL := 5) (ret := (some .int)) (by decide) rfl ?_
  intro p e s m args below meth c s₁ B hml hv0
  have hx := B.exec
  have hb := B.bytes
  have hr := B.returns
  have hts := atoms_spec (ws := wsC_workOut) B.pre
  have hown : s.vm.findClass RC = some m.cls := findClass_of_methodNamed B.named
  have hlocks := B.notSynchronized
  obtain ⟨rfl, hsz, hG⟩ := dw_enter hv0
  generalize va_A [(aI, .inl (cI, 3, .inl (inp)))] sz = A at hG ⊢
  have hl := lv_entry ([.int (11), .int (x), .int (y), .int (nm), .ref aI]) (n := 5) (Nat.le_of_ble_eq_true rfl)
  rw [lg_entry_eq]
  generalize (lg_sl ([.int (11), .int (x), .int (y), .int (nm), .ref aI]) ++ List.replicate (5 - (lg_sl ([.int (11), .int (x), .int (y), .int (nm), .ref aI])).length) Slot.unset).toArray = ls at hl ⊢
  have hl : lv_has ls 5 [(0, .int (11)), (1, .int (x)), (2, .int (y)), (3, .int (nm)), (4, .ref aI)] := hl
  refine dw_Q (fun Q hQ => ?_)
  suffices hgo : ∀ (H : Heap) (locs : List Loc), dw_G (dC, dI) vwCl [(cI, .int), (cZ, .boolean)] A s.heap s [(aI, .inl (cI, 3, .inl (inp)))] H locs → W p l e (headSpec wsC_workOut { frames := 0, cells := 0, slots := 0, locals := 0 }).room s m [.int (11), .int (x), .int (y), .int (nm), .ref aI].toArray below meth c H locs 0 0 Q (F0 m 0 ls []) from hgo _ _ hG
  clear hG
  intro H locs hG
  refine lv_iload_n hx hb dC_workOut_0 rfl (lv_at hl 0 rfl) ?_
  refine lv_tableIn (tgt := 104) hx hb dC_workOut_1 (by decide) (by decide) rfl (by decide) ?_
  refine lv_iload_n hx hb dC_workOut_104 rfl (lv_at hl 1 rfl) ?_
  refine lv_i2b hx hb dC_workOut_105 rfl ?_
  subst hQ
  exact dw_iret hx hb hr hG (()) rfl rfl dC_workOut_106 hlocks

set_option maxRecDepth 100000 in
set_option maxHeartbeats 4000000 in
theorem cc_work12 (l : Launch) (dC : Nat → ClassId) (dI : Nat → Nat → Nat) (cI cZ : ClassId) (aI : Nat) (x y : Int32) (inp : Nat → Int32) (nm : Int32) (sz : Nat)  : Met l yC_workOut wsC_workOut { frames := 0, cells := 0, slots := 0, locals := 0 } (va_Pc [.int (12), .int (x), .int (y), .int (nm), .ref aI] (dw_pre (dC, dI) vwCl [(aI, .inl (cI, 3, .inl (inp)))] [(cI, .int), (cZ, .boolean)] sz)) (va_Qi (fun (r : Int32) (u : Unit) => r = db_op 12 x y (nm) inp) (fun u t => dw_post (dC, dI) vwCl [(aI, .inl (cI, 3, .inl (inp)))] [(cI, .int), (cZ, .boolean)] (va_A [(aI, .inl (cI, 3, .inl (inp)))] sz) t) (va_A [(aI, .inl (cI, 3, .inl (inp)))] sz)) 0 0 (va_A [(aI, .inl (cI, 3, .inl (inp)))] sz) := by
  refine Met.ofW (cc := cC_workOut) (maxL := 5) (ret := (some .int)) (by decide) rfl ?_
  intro p e s m args below meth c s₁ B hml hv0
  have hx := B.exec
  have hb := B.bytes
  have hr := B.returns
  have hts := atoms_spec (ws := wsC_workOut) B.pre
  have hown : s.vm.findClass RC = some m.cls := findClass_of_methodNamed B.named
  have hlocks := B.notSynchronized
  obtain ⟨rfl, hsz, hG⟩ := dw_enter hv0
  generalize va_A [(aI, .inl (cI, 3, .inl (inp)))] sz = A at hG ⊢
  have hl := lv_entry ([.int (12), .int (x), .int (y), .int (nm), .ref aI]) (n := 5) (Nat.le_of_ble_eq_true rfl)
  rw [lg_entry_eq]
  generalize (lg_sl ([.int (12), .int (x), .int (y), .int (nm), .ref aI]) ++ List.replicate (5 - (lg_sl ([.int (12), .int (x), .int (y), .int (nm), .ref aI])).length) Slot.unset).toArray = ls at hl ⊢
  have hl : lv_has ls 5 [(0, .int (12)), (1, .int (x)), (2, .int (y)), (3, .int (nm)), (4, .ref aI)] := hl
  refine dw_Q (fun Q hQ => ?_)
  suffices hgo : ∀ (H : Heap) (locs : List Loc), dw_G (dC, dI) vwCl [(cI, .int), (cZ, .boolean)] A s.heap s [(aI, .inl (cI, 3, .inl (inp)))] H locs → W p l e (headSpec wsC_workOut { frames := 0, cells := 0, slots := 0, locals := 0 }).room s m [.int (12), .int (x), .int (y), .int (nm), .ref aI].toArray below meth c H locs 0 0 Q (F0 m 0 ls []) from hgo _ _ hG
  clear hG
  intro H locs hG
  refine lv_iload_n hx hb dC_workOut_0 rfl (lv_at hl 0 rfl) ?_
  refine lv_tableIn (tgt := 107) hx hb dC_workOut_1 (by decide) (by decide) rfl (by decide) ?_
  refine lv_iload_n hx hb dC_workOut_107 rfl (lv_at hl 1 rfl) ?_
  refine lv_i2s hx hb dC_workOut_108 rfl ?_
  subst hQ
  exact dw_iret hx hb hr hG (()) rfl rfl dC_workOut_109 hlocks

set_option maxRecDepth 100000 in
theorem cc_workOut (l : Launch) (dC : Nat → ClassId) (dI : Nat → Nat → Nat) (cI cZ : ClassId) (aI : Nat) (x y : Int32) (inp : Nat → Int32) (nm : Int32) (kd : Nat) (sz : Nat) (hkd : kd ≤ 12) (h9 : kd = 9 → ∃ d, d < 3 ∧ nm = nI d) : Met l yC_workOut wsC_workOut { frames := 0, cells := 0, slots := 0, locals := 0 } (va_Pc [.int (nI (kd)), .int (x), .int (y), .int (nm), .ref aI] (dw_pre (dC, dI) vwCl [(aI, .inl (cI, 3, .inl (inp)))] [(cI, .int), (cZ, .boolean)] sz)) (va_Qi (fun (r : Int32) (u : Unit) => r = db_op kd x y nm inp) (fun u t => dw_post (dC, dI) vwCl [(aI, .inl (cI, 3, .inl (inp)))] [(cI, .int), (cZ, .boolean)] (va_A [(aI, .inl (cI, 3, .inl (inp)))] sz) t) (va_A [(aI, .inl (cI, 3, .inl (inp)))] sz)) 0 0 (va_A [(aI, .inl (cI, 3, .inl (inp)))] sz) := by
  rcases (by omega : kd = 0 ∨ kd = 1 ∨ kd = 2 ∨ kd = 3 ∨ kd = 4 ∨ kd = 5 ∨ kd = 6 ∨ kd = 7 ∨ kd = 8 ∨ kd = 9 ∨ kd = 10 ∨ kd = 11 ∨ kd = 12) with e | e | e | e | e | e | e | e | e | e | e | e | e
  · subst e
    exact cc_work0 l dC dI cI cZ aI x y inp nm sz
  · subst e
    exact cc_work1 l dC dI cI cZ aI x y inp nm sz
  · subst e
    exact cc_work2 l dC dI cI cZ aI x y inp nm sz
  · subst e
    exact cc_work3 l dC dI cI cZ aI x y inp nm sz
  · subst e
    exact cc_work4 l dC dI cI cZ aI x y inp nm sz
  · subst e
    exact cc_work5 l dC dI cI cZ aI x y inp nm sz
  · subst e
    exact cc_work6 l dC dI cI cZ aI x y inp nm sz
  · subst e
    exact cc_work7 l dC dI cI cZ aI x y inp nm sz
  · subst e
    exact cc_work8 l dC dI cI cZ aI x y inp nm sz
  · subst e
    obtain ⟨d, hd, rfl⟩ := h9 rfl
    exact cc_work9 l dC dI cI cZ aI x y inp d sz hd
  · subst e
    exact cc_work10 l dC dI cI cZ aI x y inp nm sz
  · subst e
    exact cc_work11 l dC dI cI cZ aI x y inp nm sz
  · subst e
    exact cc_work12 l dC dI cI cZ aI x y inp nm sz

