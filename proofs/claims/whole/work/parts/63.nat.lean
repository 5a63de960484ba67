theorem tn_arraycopy : Cond.native arraycopyName ∈ dt := dt_r 465 (by decide +kernel) rfl
