theorem kw_445 : Cond.methodLink RX3 1 objectInit ∈ lw_tbl := by decide +kernel
theorem kw_446 : Cond.arrayClass .boolean ∈ lw_tbl := by decide +kernel
theorem kw_447 : Cond.arrayClass .long ∈ lw_tbl := by decide +kernel
