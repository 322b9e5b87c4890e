
set_option maxRecDepth 20000 in
theorem wd_709 : (.code yL_refusesOne cL_refusesOne 4 (some .boolean) : Cond) ∈ lw_all := in_all 709 (by rfl) (by decide +kernel)
set_option maxRecDepth 20000 in
theorem wd_713 : (.code yL_far cL_far 3 (some .int) : Cond) ∈ lw_all := in_all 713 (by decide +kernel) (by decide +kernel)
set_option maxRecDepth 20000 in
theorem wd_718 : (.code yL_letters cL_letters 1 (some .boolean) : Cond) ∈ lw_all := in_all 718 (by rfl) (by decide +kernel)
set_option maxRecDepth 20000 in
theorem wd_727 : (.code yL_cheques cL_cheques 1 (some .boolean) : Cond) ∈ lw_all := in_all 727 (by rfl) (by decide +kernel)
