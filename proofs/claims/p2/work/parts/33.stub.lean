def dz_rk (g m e s : Int32) (a263 a265 : Nat → Int32) : Prop := True
