theorem jw_nfu {a b n d h : String} {i : Nat} {s : State} {args : Array Value} (hZ : va_Nw (.fieldLinkNest a i b n d h) s) : (Cond.fieldLinkNest a i b n d h).before args s = true := va_Nw.use rfl hZ
