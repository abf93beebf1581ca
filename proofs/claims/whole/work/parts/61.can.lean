def oI {α : Type} (o : Option α) : Int32 := match o with
  | none => 0
  | some _ => 1
