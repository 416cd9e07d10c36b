def amR (x : UInt64) (a b : Int32) : Bool := dge x (FP.i2d a) && dle x (FP.i2d b)
