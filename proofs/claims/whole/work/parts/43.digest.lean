/-- one byte more in a digest -/
def dg (d : Int64) (b : Int32) : Int64 := (((d ^^^ (Int32.toInt64 b)) <<< (Int32.toInt64 (13 : Int32) &&& 63)) ||| ((Int64.toUInt64 (d ^^^ (Int32.toInt64 b)) >>> (Int64.toUInt64 (Int32.toInt64 (51 : Int32)) &&& Int64.toUInt64 63)).toInt64)) * (-7046029254386353131 : Int64)
theorem dg_m (d : Int64) (b : Int32) (x : mm_S) : e_m_digested d b x = dg d b := rfl
theorem dg_13 : (Int64.toUInt64 (Int32.toInt64 (-(13 : Int32))) &&& Int64.toUInt64 63) = (Int64.toUInt64 (Int32.toInt64 (51 : Int32)) &&& Int64.toUInt64 63) := by decide +kernel
