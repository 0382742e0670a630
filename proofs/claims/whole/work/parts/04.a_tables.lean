/-- the classes whose objects the worlds hold, in their order; of each the kinds of its slots (0 int, 1 long, 2 a reference); the arrays' classes -/
abbrev cls : List vw_C := [(RX9, TX9, 57)]
def tcs : Nat → List Nat := fun k => match k with
  | 0 => [2, 0, 2, 2, 2, 2, 2, 2, 2, 0, 2, 2, 0, 0, 0, 0, 2, 2, 2, 2, 0, 0, 0, 0, 0, 0, 0, 0, 0, 0, 2, 2, 0, 0, 2, 0, 2, 2, 0, 0, 0, 0, 2, 0, 2, 2, 2, 2, 0, 0, 0, 0, 2, 2, 2, 2, 2]
  | _ => []
abbrev tys (cy : Nat → ClassId) : List (ClassId × FieldType) := [(cy 50, .int), (cy 51, .long), (cy 52, .byte), (cy 53, .boolean), (cy 60, .array .int), (cy 61, .object "java/lang/String")]
