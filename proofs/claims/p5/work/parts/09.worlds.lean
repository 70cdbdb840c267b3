/-! the worlds: which cells a method sees (numbers of classes: 0 AsOfJoins .. as vwCl has them) -/
abbrev wN : va_W := []
abbrev wS (h b : Nat) (cA : ClassId) (w lim k : Nat) (f : Nat → Int32) : va_W := [(h, .inr (4, [.int (nI w), .int (nI lim), .ref b, .int (nI k)])), (b, .inl (cA, w * lim, .inl f))]
abbrev wV (vo h b : Nat) (cA : ClassId) (k : Nat) (f : Nat → Int32) : va_W := [(vo, .inr (5, [.ref h])), (h, .inr (4, [.int (nI 3), .int (nI 160), .ref b, .int (nI k)])), (b, .inl (cA, 3 * 160, .inl f))]
abbrev wR (ro h b : Nat) (cA : ClassId) (k : Nat) (f : Nat → Int32) : va_W := [(ro, .inr (3, [.ref h])), (h, .inr (4, [.int (nI 12), .int (nI 96), .ref b, .int (nI k)])), (b, .inl (cA, 12 * 96, .inl f))]
abbrev wO (oo h b : Nat) (cA : ClassId) (gv tk : Int32) (k : Nat) (f : Nat → Int32) : va_W := [(oo, .inr (2, [.ref h, .int gv, .int tk])), (h, .inr (4, [.int (nI 11), .int (nI 192), .ref b, .int (nI k)])), (b, .inl (cA, 11 * 192, .inl f))]
abbrev wRJ (ro h b : Nat) (cA : ClassId) (k : Nat) (f : Nat → Int32) (ja : Nat) (jo : Nat → Int32) : va_W := [(ro, .inr (3, [.ref h])), (h, .inr (4, [.int (nI 12), .int (nI 96), .ref b, .int (nI k)])), (b, .inl (cA, 12 * 96, .inl f)), (ja, .inl (cA, 6, .inl jo))]
abbrev wOR (oo h b : Nat) (cA : ClassId) (gv tk : Int32) (k : Nat) (f : Nat → Int32) (ro h2 b2 k2 : Nat) (f2 : Nat → Int32) : va_W := [(oo, .inr (2, [.ref h, .int gv, .int tk])), (h, .inr (4, [.int (nI 11), .int (nI 192), .ref b, .int (nI k)])), (b, .inl (cA, 11 * 192, .inl f)), (ro, .inr (3, [.ref h2])), (h2, .inr (4, [.int (nI 12), .int (nI 96), .ref b2, .int (nI k2)])), (b2, .inl (cA, 12 * 96, .inl f2))]
abbrev wX (a : Nat → Nat) (cA : ClassId) (x ru ma jo : Nat → Int32) (gv tk : Int32) (kV : Nat) (fV : Nat → Int32) (kR : Nat) (fR : Nat → Int32) (kO : Nat) (fO : Nat → Int32) : va_W :=
  [(a 0, .inr (0, [.ref (a 1), .ref (a 2), .ref (a 4), .ref (a 7), .ref (a 10), .ref (a 3), .int (x 6), .int (x 7), .int (x 8), .int (x 9), .int (x 10), .int (x 11), .int (x 12)])), (a 1, .inl (cA, 4, .inl ru)), (a 2, .inl (cA, 3, .inl ma)), (a 3, .inl (cA, 6, .inl jo)),
   (a 4, .inr (5, [.ref (a 5)])), (a 5, .inr (4, [.int (nI 3), .int (nI 160), .ref (a 6), .int (nI kV)])), (a 6, .inl (cA, 3 * 160, .inl fV)),
   (a 7, .inr (3, [.ref (a 8)])), (a 8, .inr (4, [.int (nI 12), .int (nI 96), .ref (a 9), .int (nI kR)])), (a 9, .inl (cA, 12 * 96, .inl fR)),
   (a 10, .inr (2, [.ref (a 11), .int gv, .int tk])), (a 11, .inr (4, [.int (nI 11), .int (nI 192), .ref (a 12), .int (nI kO)])), (a 12, .inl (cA, 11 * 192, .inl fO))]
def ad13 (a0 a1 a2 a3 a4 a5 a6 a7 a8 a9 a10 a11 a12 : Nat) : Nat → Nat := fun k => match k with
  | 0 => a0
  | 1 => a1
  | 2 => a2
  | 3 => a3
  | 4 => a4
  | 5 => a5
  | 6 => a6
  | 7 => a7
  | 8 => a8
  | 9 => a9
  | 10 => a10
  | 11 => a11
  | _ => a12
