abbrev rmX10_readVillage : Room := { frames := 8, cells := 0, slots := 0, locals := 171 }
abbrev rmX10_readKnower : Room := { frames := 8, cells := 0, slots := 0, locals := 171 }
