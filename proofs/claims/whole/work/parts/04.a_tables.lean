/-- the classes whose objects the worlds hold, in their order; of each the kinds of its slots (0 int, 1 long, 2 a reference); the arrays' classes -/
abbrev cls : List vw_C := [(RX9, TX9, 57), (RJ0, TJ0, 4)]
def tcs : Nat → List Nat := fun k => match k with
  | 0 => [2, 0, 2, 2, 2, 2, 2, 2, 2, 0, 2, 2, 0, 0, 0, 0, 2, 2, 2, 2, 0, 0, 0, 0, 0, 0, 0, 0, 0, 0, 2, 2, 0, 0, 2, 0, 2, 2, 0, 0, 0, 0, 2, 0, 2, 2, 2, 2, 0, 0, 0, 0, 2, 2, 2, 2, 2]
  | 1 => [2, 0, 0, 0]
  | _ => []
abbrev tys (cy : Nat → ClassId) : List (ClassId × FieldType) := [(cy 50, .int), (cy 51, .long), (cy 52, .byte), (cy 53, .boolean), (cy 60, .array .int), (cy 61, .object "java/lang/String"), (cy 55, .byte), (cy 56, .int)]
/-- kinds of cells that are there from the start and never change: Strings, their bytes, static rows of ints -/
def roK (k : Nat) : Prop := k = 2 ∨ k = 55 ∨ k = 56
/-- statics: class, name, descriptor; a number, or a place of the row of references that stands at address 0 -/
abbrev sts : List (String × String × String × (Int32 ⊕ Nat)) := [("java/lang/String", "COMPACT_STRINGS", "Z", .inl 1), ("jdk/internal/util/Preconditions", "SIOOBE_FORMATTER", "Ljava/util/function/BiFunction;", .inr 0)]
/-- String constants: class, entry, text, place in that row -/
abbrev scs : List (String × Nat × String × Nat) := []
/-- links to private members of nest mates; classes over which there are arrays -/
abbrev nsf : List (String × Nat × String × String × String × String) := []
abbrev nsm : List (String × Nat × MethodName × String) := []
abbrev aos : List String := []
