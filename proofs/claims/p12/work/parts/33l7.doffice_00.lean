/-! the rows of an office, where x8 is an address -/
abbrev x8r (a b c d e f g h : Nat → Int32) : Nat → Nat → Int32 := x8 a b c d e f g h
