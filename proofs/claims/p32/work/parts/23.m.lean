abbrev rmX10_readLake : Room := { frames := 7, cells := 0, slots := 0, locals := 152 }
abbrev rmX10_readPeg : Room := { frames := 8, cells := 0, slots := 0, locals := 171 }
abbrev rmX10_readFrom : Room := { frames := 7, cells := 0, slots := 0, locals := 152 }
abbrev rmX10_readRain : Room := { frames := 7, cells := 0, slots := 0, locals := 152 }
