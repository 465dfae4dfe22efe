abbrev rmk (n : Nat) : Room := { frames := 4 * n + 2, cells := 0, slots := 0, locals := 100 * n + 40 }
abbrev KT (k : Nat → ClassId) : List (ClassId × FieldType) := [(k 0, .int), (k 1, .byte), (k 2, .long), (k 3, .boolean), (k 4, .object "WheelMemory$World"), (k 5, .object "WheelMemory$State"), (k 6, .array .long)]
