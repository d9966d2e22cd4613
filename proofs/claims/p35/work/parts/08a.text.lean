/-! CommandText: its cells. -/
section MC
abbrev tx0 (f : Nat → Int32) (len : Int32) : List gE := [.inr (0, [.ref 1, .int len]), .inl (1, 80, .inl f)]
end MC
