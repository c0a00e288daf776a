theorem zz_end : True := trivial
theorem zz_good : lw_tbl.all goodWord = true := by decide +kernel
