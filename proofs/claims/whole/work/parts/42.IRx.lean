/-- byte k of a fed word, as the class takes it -/
def sp_cy (b : Int64) (k : Nat) : Int32 := ((((((b.toUInt64 >>> ((nI (8 * k)).toInt64.toUInt64 &&& Int64.toUInt64 63)).toInt64) &&& 255).toInt32).toUInt32 % 65536).toInt32)
