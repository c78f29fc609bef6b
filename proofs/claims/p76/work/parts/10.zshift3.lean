theorem okT_app {b : ByteArray} {l m : List (Nat × Instr × Nat)} (h : okT b l = true) (k : okT b m = true) : okT b (l ++ m) = true := by unfold okT at *; rw [List.all_append, h, k]; rfl
