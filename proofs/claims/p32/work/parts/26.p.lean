abbrev rmX10_readLine : Room := { frames := 9, cells := 0, slots := 0, locals := 195 }
abbrev rmX10_readHill : Room := { frames := 10, cells := 0, slots := 0, locals := 215 }
