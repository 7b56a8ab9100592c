abbrev TY3 (cI cR cJ : ClassId) : List (ClassId × FieldType) := [(cI, .int), (cR, .object "PacketStores$Row"), (cJ, .long)]
abbrev CO (cI cR cJ : ClassId) (ca qa : Nat → Nat) (wa : Nat) (u : CSt × (Nat → Int64)) : va_W := [(wa, .inl (cJ, 1, .inr (.inl u.2)))] ++ CW cI cR ca qa u.1
abbrev LSt : Type := CSt × MSt × (Nat → Int64)
abbrev LW (cI cR cJ : ClassId) (ca qa ma : Nat → Nat) (wa : Nat) (u : LSt) : va_W := [(wa, .inl (cJ, 1, .inr (.inl u.2.2)))] ++ (CW cI cR ca qa u.1 ++ MW cI ma u.2.1)
