def faMu (less : Int32) (far : Nat → Int32) : Nat := S36 far + (if less = 0 then 0 else 1)
