/-! the reference's cells -/
abbrev mdW (cI cZ : ClassId) (g g1 g2 g3 g4 : Nat) (wf nf cf kf : Nat → Int32) (fw mx th : Int32) (fr : va_W) : va_W :=
  (g, .inr (1, [.ref g1, .ref g2, .ref g3, .ref g4, .int fw, .int mx, .int th])) :: (g1, .inl (cI, 4, .inl wf)) :: (g2, .inl (cI, 4, .inl nf)) :: (g3, .inl (cI, 4, .inl cf)) :: (g4, .inl (cZ, 2001, .inl kf)) :: fr
