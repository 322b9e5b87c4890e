
/-! ===== the hand-made runs, reckoned ===== -/
set_option maxRecDepth 1000000 in
theorem ev_letters : fL_lettersB st0 = some (1 : Int32) := by decide +kernel
set_option maxRecDepth 1000000 in
theorem ev_texts : fL_textsB st0 = some (1 : Int32) := by decide +kernel
set_option maxRecDepth 1000000 in
theorem ev_cheques : fL_chequesB st0 = some (1 : Int32) := by decide +kernel
