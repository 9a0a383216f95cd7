theorem zr9 (S : ZS) (g : Nat) (G : Nat → Int32) (f : Nat) : zrow9 S g G 8 0 f = S 8 0 f := rfl
theorem zr27c (S : ZS) (g : Nat) (G : Nat → Int32) (f : Nat) : zrow27 S g G 8 0 f = S 8 0 f := rfl
