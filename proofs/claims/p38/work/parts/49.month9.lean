theorem zmo_8 (S : ZS) (f : Nat) : zmo S 8 0 f = S 8 0 f := rfl
def zT0 (S : ZS) : ZS := zup (zup (zmo S) 24 0 0 (S 7 0 13 + 1)) 8 0 46 0
def zS1 (S : ZS) : ZS := zmp S 1 (nF S) (zff S)
def zS2 (S : ZS) : ZS := zmp (zS1 S) 3 (nP S) (zpp (zS1 S))
