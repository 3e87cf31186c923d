/-! areRight: too long to be compared byte by byte -/
set_option maxRecDepth 100000 in
theorem tb918 : lw_tbl[918]? = some (xword mL_areRight) := rfl
theorem kmL_areRight : KM mL_areRight 7 := ⟨xmem (i := 918) tb918 (by decide +kernel), xmem (i := 18) (by decide +kernel) (by decide +kernel), by decide +kernel, by decide +kernel, by decide +kernel, rfl, by decide⟩
