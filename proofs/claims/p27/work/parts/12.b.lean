abbrev rmX2_goalOf : Room := { frames := 1, cells := 0, slots := 0, locals := 21 }
abbrev rmX2_towards : Room := { frames := 1, cells := 0, slots := 0, locals := 21 }
abbrev rmX2_fillByPlan : Room := { frames := 2, cells := 0, slots := 0, locals := 45 }
abbrev rmX2_fillSteady : Room := { frames := 2, cells := 0, slots := 0, locals := 43 }
abbrev rmX4_findsAt : Room := { frames := 0, cells := 0, slots := 0, locals := 0 }
abbrev rmX5_add : Room := { frames := 0, cells := 0, slots := 0, locals := 0 }
