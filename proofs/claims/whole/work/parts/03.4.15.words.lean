theorem am_w8_ok : am_wd (am_w8.getD 1 0) (.native arraycopyName) && am_wd (am_w8.getD 2 0) (.static arraycopyName) && am_wd (am_w8.getD 3 0) (.initialized "java/lang/System") = true := by decide +kernel
theorem am_w9_ok : am_wd (am_w9.getD 0 0) (.instanceMethod Lib.objectInit) && am_wd (am_w9.getD 1 0) (.code Lib.objectInit ⟨#[0xb1]⟩ 1 none) = true := by decide +kernel
theorem am_wa_ok : am_wd (am_wa.getD 0 0) (.arrayClass .int) = true := by decide +kernel
theorem am_wm_max : (am_wd 1035 (.static Lib.Math.max.name) && am_wd 1036 (.code Lib.Math.max.name Lib.Math.max.code 2 (some .int)) && am_wd 1004 (.initialized "java/lang/Math")) = true := by decide +kernel
theorem am_wm_min : (am_wd 2118 (.static Lib.Math.min.name) && am_wd 2119 (.code Lib.Math.min.name Lib.Math.min.code 2 (some .int)) && am_wd 1004 (.initialized "java/lang/Math")) = true := by decide +kernel
theorem am_wm_abs : (am_wd 2182 (.static Lib.Math.abs.name) && am_wd 2183 (.code Lib.Math.abs.name Lib.Math.abs.code 1 (some .int)) && am_wd 1004 (.initialized "java/lang/Math")) = true := by decide +kernel
