theorem kw_Ob_im : Cond.instanceMethod Lib.objectInit ∈ lw_gt := lw_in 80 (by decide +kernel) (by decide +kernel)
theorem kw_Ob_code : Cond.code Lib.objectInit ⟨#[0xb1]⟩ 1 none ∈ lw_gt := lw_in 81 (by decide +kernel) (by decide +kernel)
