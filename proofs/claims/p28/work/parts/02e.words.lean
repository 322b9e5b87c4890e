
set_option maxRecDepth 20000 in
theorem wd_442 : (.code yL_part cL_part 2 (some .int) : Cond) ∈ lw_all := in_all 442 (by decide +kernel) (by decide +kernel)
set_option maxRecDepth 20000 in
theorem wd_446 : (.code yL_drawn cL_drawn 2 (some .int) : Cond) ∈ lw_all := in_all 446 (by decide +kernel) (by decide +kernel)
set_option maxRecDepth 20000 in
theorem wd_699 : (.code yL_seen cL_seen 4 (some .long) : Cond) ∈ lw_all := in_all 699 (by decide +kernel) (by decide +kernel)
set_option maxRecDepth 20000 in
theorem wd_706 : (.code yL_refused cL_refused 5 (some .boolean) : Cond) ∈ lw_all := in_all 706 (by decide +kernel) (by decide +kernel)
