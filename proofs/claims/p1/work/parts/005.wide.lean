/-- a name out of the rest of the library: so every part is read over the whole of it from the first round on -/
abbrev wide_0 (c : ClassId) (n : Nat) (v : Value) : Cell := Multi.innerC c n v
