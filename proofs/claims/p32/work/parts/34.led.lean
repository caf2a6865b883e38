abbrev rmX8_led : Room := { frames := 6, cells := 1, slots := 6, locals := 122 }
abbrev rmL_led : Room := { frames := 7, cells := 1, slots := 6, locals := 147 }
theorem okL_led : yOk yL_led 4 := by decide +kernel
theorem mW_cat : Cond.classLink "HillTapLaw" 13 nse ∈ tb := by decide +kernel
