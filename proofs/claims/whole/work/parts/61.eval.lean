/-! the pure machine runs the real program: the empty script, by evaluation -/
set_option maxRecDepth 1000000 in
theorem gEval0 : (xrun (xstep gNf 0 (fun _ => 0) gLit gMc) gP gMx gHd 3000 60 gLaw 0 (xent [.retAddr 0] 7) [] []).map (fun r => r.1) = some (.inl (some (.int 1))) := by decide +kernel
