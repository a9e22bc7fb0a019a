set_option maxRecDepth 1000000 in
theorem lk_c : (match run (0, fun _ => 0) 20000 60 325 0 [.ref 1000009, unset0, unset0, unset0] [] ([], fun _ _ => 0) with
  | some (some (.int v), h) => decide (v = 1) && decide (h.1.length < 400)
  | _ => false) = true := by decide +kernel
