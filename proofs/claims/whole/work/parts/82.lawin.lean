/-! ===== the words at the law's entry ===== -/
def lw_all : List Cond := lw_tbl ++ flatC (Jvm.Cond.and given_1 narrow_1)
set_option maxRecDepth 100000 in
set_option maxHeartbeats 4000000 in
theorem lw_in1 : ∀ w ∈ dx_ws, w ∈ lw_all := by decide +kernel
set_option maxRecDepth 100000 in
set_option maxHeartbeats 4000000 in
theorem lw_in2 : ∀ w ∈ dx_wl, w ∈ lw_all := by decide +kernel
theorem lw_N {s : State} {a0 : Array Value} (hts : ∀ w ∈ lw_tbl, w.before a0 s = true) (hgv : (Jvm.Cond.and given_1 narrow_1).before a0 s = true) : dx_N s ∧ dx_L s := by
  have hall : ∀ w ∈ lw_all, w.before a0 s = true := fun w hw => (List.mem_append.mp hw).elim (hts w) (flat_of_before _ hgv w)
  have hW : s.WarmedH s.vm := State.WarmedH.refl s
  exact ⟨fun a w hw => dx_move (dx_s1 w hw) (Or.inl (dx_face w hw)) hW (fun _ _ => rfl) (hall w (lw_in1 w hw)), fun a w hw => dx_move (dx_s2 w hw) (Or.inr hw) hW (fun _ _ => rfl) (hall w (lw_in2 w hw))⟩
