abbrev rm_X11_init : Room := { frames := 1, cells := 36, slots := 24231, locals := 12 }
