abbrev rmX10_readStory : Room := { frames := 8, cells := 0, slots := 0, locals := 171 }
