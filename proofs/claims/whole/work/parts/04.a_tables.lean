/-- the classes whose objects the worlds hold, in their order; of each the kinds of its slots (0 int, 1 long, 2 a reference); the arrays' classes -/
abbrev cls : List vw_C := [(RX12, TX12, 57), (RX0, TX0, 5), (RX1, TX1, 2), (RX2, TX2, 5), (RX3, TX3, 6), (RX4, TX4, 13), (RX5, TX5, 3), (RX6, TX6, 8), (RX7, TX7, 4), (RX8, TX8, 3), (RX9, TX9, 3), (RX10, TX10, 5), (RX11, TX11, 18)]
def tcs : Nat → List Nat := fun k => match k with
  | 0 => [2, 0, 2, 2, 2, 2, 2, 2, 2, 0, 2, 2, 0, 0, 0, 0, 2, 2, 2, 2, 0, 0, 0, 0, 0, 0, 0, 0, 0, 0, 2, 2, 0, 0, 2, 0, 2, 2, 0, 0, 0, 0, 2, 0, 2, 2, 2, 2, 0, 0, 0, 0, 2, 2, 2, 2, 2]
  | 1 => [2, 2, 2, 2, 0]
  | 2 => [2, 0]
  | 3 => [0, 2, 0, 0, 1]
  | 4 => [0, 0, 0, 1, 2, 2]
  | 5 => [2, 2, 2, 2, 0, 0, 0, 2, 0, 0, 0, 0, 0]
  | 6 => [2, 0, 2]
  | 7 => [2, 2, 2, 0, 2, 2, 0, 2]
  | 8 => [0, 0, 0, 2]
  | 9 => [0, 0, 0]
  | 10 => [2, 2, 2]
  | 11 => [2, 0, 0, 0, 1]
  | 12 => [2, 0, 0, 2, 2, 2, 2, 2, 0, 2, 2, 2, 2, 2, 2, 2, 2, 2]
  | _ => []
abbrev tys (cy : Nat → ClassId) : List (ClassId × FieldType) := [(cy 50, .int), (cy 51, .long), (cy 52, .byte), (cy 53, .boolean), (cy 60, .array .int), (cy 61, .object "java/lang/String"), (cy 62, .object "SlopeKeeper$Chain"), (cy 63, .object "SlopeKeeper$Curve"), (cy 64, .object "SlopeKeeper$Step")]
/-- kinds of cells that are there from the start and never change: constants' bytes, static rows of ints, Strings -/
def roK (k : Nat) : Prop := k = 55 ∨ k = 56 ∨ k = 57
/-- statics: class, name, descriptor; a number, or a place of the row of references that stands at address 0 -/
abbrev sts : List (String × String × String × (Int32 ⊕ Nat)) := [("java/lang/String", "COMPACT_STRINGS", "Z", .inl 1), ("jdk/internal/util/Preconditions", "SIOOBE_FORMATTER", "Ljava/util/function/BiFunction;", .inr 27), ("SlopeKeeper", "NUMBERS", "[I", .inr 1), ("SlopeKeeper", "LOWEST_FIRST", "[I", .inr 2), ("SlopeKeeper", "HIGHEST_FIRST", "[I", .inr 3)]
/-- String constants: class, entry, text, place in that row -/
abbrev scs : List (String × Nat × String × Nat) := [("SlopeKeeper", 188, "nothing such is counted", 4), ("SlopeKeeper", 244, "a flat has nothing such", 5), ("SlopeKeeper", 463, "there is none such", 6), ("SlopeKeeper", 467, "the number is not as the document wants it", 7), ("SlopeKeeper", 493, "kink", 8), ("SlopeKeeper", 495, "over", 9), ("SlopeKeeper", 497, "under", 10), ("SlopeKeeper", 499, "drift", 11), ("SlopeKeeper", 501, "move", 12), ("SlopeKeeper", 503, "rise", 13), ("SlopeKeeper", 505, "fall", 14), ("SlopeKeeper", 507, "plus", 15), ("SlopeKeeper", 509, "and", 16), ("SlopeKeeper", 511, "", 17), ("SlopeKeeperModel", 9, "kink", 18), ("SlopeKeeperModel", 11, "over", 19), ("SlopeKeeperModel", 13, "under", 20), ("SlopeKeeperModel", 15, "drift", 21), ("SlopeKeeperModel", 17, "move", 22), ("SlopeKeeperModel", 19, "rise", 23), ("SlopeKeeperModel", 21, "fall", 24), ("SlopeKeeperModel", 23, "plus", 25), ("SlopeKeeperModel", 25, "and", 26)]
/-- links to private members of nest mates; classes over which there are arrays; casts that hold, casts that don't -/
abbrev nsf : List (String × Nat × String × String × String × String) := [("SlopeKeeper$Reader", 88, "SlopeKeeper", "LOWEST_FIRST", "[I", "SlopeKeeper"), ("SlopeKeeper$Reader", 91, "SlopeKeeper", "HIGHEST_FIRST", "[I", "SlopeKeeper")]
abbrev nsm : List (String × Nat × MethodName × String) := [("SlopeKeeper", 50, yX8_init, "SlopeKeeper"), ("SlopeKeeper$Curve", 67, yX11_clamp, "SlopeKeeper"), ("SlopeKeeper$Reader", 77, yX11_numbersOf, "SlopeKeeper"), ("SlopeKeeper$Reader", 101, yX11_wordOf, "SlopeKeeper"), ("SlopeKeeper$State", 42, yX11_isCost, "SlopeKeeper"), ("SlopeKeeper$Teller", 24, yX11_wordOf, "SlopeKeeper"), ("SlopeKeeper$Teller", 43, yX11_numbersOf, "SlopeKeeper"), ("SlopeKeeper$Trail", 63, yX11_clamp, "SlopeKeeper")]
abbrev aos : List String := ["SlopeKeeper$Chain", "SlopeKeeper$Curve", "SlopeKeeper$Step", "java/lang/String"]
abbrev cst : List (String × String) := [("java/util/NoSuchElementException", "java/util/NoSuchElementException"), ("java/lang/IllegalArgumentException", "java/lang/IllegalArgumentException"), ("[J", "java/lang/Cloneable")]
abbrev dcl : List MethodName := [Bundle.initS "java/lang/RuntimeException", Bundle.initS "java/lang/Exception", Bundle.initS Bundle.tN]
abbrev ncs : List (String × String) := [("java/lang/IllegalArgumentException", "java/util/NoSuchElementException")]
