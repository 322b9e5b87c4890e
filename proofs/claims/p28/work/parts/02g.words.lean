
set_option maxRecDepth 20000 in
theorem wd_731 : (.code yL_texts cL_texts 2 (some .boolean) : Cond) ∈ lw_all := in_all 731 (by rfl) (by decide +kernel)
set_option maxRecDepth 20000 in
theorem wd_735 : (.code yL_isError cL_isError 6 (some .boolean) : Cond) ∈ lw_all := in_all 735 (by decide +kernel) (by decide +kernel)
set_option maxRecDepth 20000 in
theorem wd_742 : (.code yL_types cL_types 6 (some .boolean) : Cond) ∈ lw_all := in_all 742 (by decide +kernel) (by decide +kernel)
