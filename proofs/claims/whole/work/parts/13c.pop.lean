/-! Long.bitCount's steps -/
section ZPop
def us (x : Int64) (k : Nat) : Int64 := (x.toUInt64 >>> UInt64.ofNat k).toInt64
theorem sh_1 : ((zI 1).toInt64.toUInt64 &&& Int64.toUInt64 63) = UInt64.ofNat 1 := by decide
theorem sh_2 : ((zI 2).toInt64.toUInt64 &&& Int64.toUInt64 63) = UInt64.ofNat 2 := by decide
theorem sh_4 : ((zI 4).toInt64.toUInt64 &&& Int64.toUInt64 63) = UInt64.ofNat 4 := by decide
theorem sh_8 : ((zI 8).toInt64.toUInt64 &&& Int64.toUInt64 63) = UInt64.ofNat 8 := by decide
theorem sh_16 : ((zI 16).toInt64.toUInt64 &&& Int64.toUInt64 63) = UInt64.ofNat 16 := by decide
theorem sh_32 : ((zI 32).toInt64.toUInt64 &&& Int64.toUInt64 63) = UInt64.ofNat 32 := by decide
def bc1 (x : Int64) : Int64 := x - (us x 1 &&& 6148914691236517205)
def bc2 (x : Int64) : Int64 := (bc1 x &&& 3689348814741910323) + (us (bc1 x) 2 &&& 3689348814741910323)
def bc3 (x : Int64) : Int64 := (bc2 x + us (bc2 x) 4) &&& 1085102592571150095
def bc4 (x : Int64) : Int64 := bc3 x + us (bc3 x) 8
def bc5 (x : Int64) : Int64 := bc4 x + us (bc4 x) 16
def bc6 (x : Int64) : Int64 := bc5 x + us (bc5 x) 32
theorem bc_pop (x : Int64) : (bc6 x).toInt32 &&& zI 127 = zI ((popc x : Nat) : Int) := by
  sorry
end ZPop
