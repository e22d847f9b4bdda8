/-! The state's words: numbers and arrays, the worlds of the class, its graph, the model. -/
abbrev FT : Type := Nat → Int32
abbrev AT : Type := Nat → Nat → Int32
def updA (f : AT) (k : Nat) (x : Nat → Int32) : AT := fun j => if j = k then x else f j
def wX (cI : ClassId) (b : Nat → Nat) (F : FT) (a : AT) : va_W := [(b 0, .inr (0, [.int (F 0), .int (F 1), .ref (b 1), .ref (b 2), .ref (b 3), .ref (b 4), .ref (b 5), .ref (b 6), .int (F 8), .int (F 9), .int (F 10), .int (F 11), .int (F 12), .int (F 13), .int (F 14), .int (F 15)])),
  (b 1, .inr (1, [.int (F 20), .int (F 21), .ref (b 7)])), (b 2, .inl (cI, 14, .inl (a 3))), (b 3, .inl (cI, 14, .inl (a 4))), (b 4, .inl (cI, 14, .inl (a 5))), (b 5, .inl (cI, 14, .inl (a 6))), (b 6, .inl (cI, 84, .inl (a 7))), (b 7, .inl (cI, 6, .inl (a 22)))]
def wG (cI : ClassId) (b : Nat → Nat) (F : FT) (a : AT) : va_W := [(b 1, .inr (1, [.int (F 20), .int (F 21), .ref (b 7)])), (b 7, .inl (cI, 6, .inl (a 22)))]
def wN (cI : ClassId) (b : Nat → Nat) (a : AT) : va_W := [(b 7, .inl (cI, 6, .inl (a 22)))]
def wM (cI cZ : ClassId) (b : Nat → Nat) (F : FT) (a : AT) : va_W := [(b 0, .inr (2, [.int (F 0), .int (F 1), .int (F 2), .int (F 3), .int (F 4), .int (F 5), .int (F 6), .int (F 7), .int (F 8), .int (F 9), .ref (b 1), .ref (b 2), .ref (b 3), .ref (b 4), .ref (b 5), .ref (b 6), .ref (b 7), .int (F 17)])),
  (b 1, .inl (cI, 14, .inl (a 10))), (b 2, .inl (cI, 14, .inl (a 11))), (b 3, .inl (cI, 14, .inl (a 12))), (b 4, .inl (cI, 14, .inl (a 13))), (b 5, .inl (cI, 84, .inl (a 14))), (b 6, .inl (cI, 6, .inl (a 15))), (b 7, .inl (cZ, 384, .inl (a 16)))]
def szNL (row : Int32) : Nat → Nat → Nat
  | 0, _ => 6
  | k + 1, i => if (row.toUInt32 >>> ((3 * nI i).toUInt32 &&& Int32.toUInt32 31)).toInt32 = 0 then i else szNL row k (i + 1)
def szN (row : Int32) : Nat := szNL row 6 0

