/-! what makes things: the grown state -/
def zgrow (k n cf : Nat) (sub : Nat → Nat → Bool) (G : Nat → Int32) (S : ZS) : ZS := fun k' i f => if k' = k ∧ i = n then G f else if k' = 7 ∧ i = 0 ∧ f = cf then nI (n + 1) else if sub k' i = true then 0 else S k' i f
def zFD (n : Nat) (a : Int32) (f : Nat) : Int32 := match f with
  | 0 => nI n
  | 1 => a
  | _ => 0
def zFS (n d : Nat) (f : Nat) : Int32 := match f with
  | 0 => nI n
  | 1 => nI d
  | _ => 0
def zFF (d : Nat) (good quota : Int32) (f : Nat) : Int32 := match f with
  | 0 => nI d
  | 1 => good
  | 2 => quota
  | _ => 0
def zFP (n : Nat) (kd : Int32) (j : Nat) (f : Nat) : Int32 := match f with
  | 0 => nI n
  | 1 => kd
  | 2 => nI j
  | 3 => nI j
  | 4 => 100
  | 5 => -1
  | _ => 0
def zsubD (n k i : Nat) : Bool := Nat.beq k 9 && Nat.beq i n
def zsubP (n k i : Nat) : Bool := Nat.beq k 10 && Nat.beq i n
def zsubS (n k i : Nat) : Bool := Nat.beq k 5 && (Nat.ble (6 * n) i && Nat.ble i (6 * n + 5))
def zgrD (S : ZS) (a : Int32) : ZS := zgrow 0 (nD S) 8 (zsubD (nD S)) (zFD (nD S) a) S
def zgrS (S : ZS) (d : Nat) : ZS := zgrow 6 (nS S) 9 (zsubS (nS S)) (zFS (nS S) d) S
def zgrF (S : ZS) (d : Nat) (good quota : Int32) : ZS := zgrow 1 (nF S) 10 (fun _ _ => false) (zFF d good quota) S
def zgrP (S : ZS) (kd : Int32) (j : Nat) : ZS := zgrow 3 (nP S) 7 (zsubP (nP S)) (zFP (nP S) kd j) S
def z_newP (kk : ZP) : ZP := fun L st S K => match znth L 0, znth L 1, znth L 3, st with
  | some (.inr (.inr (some a))), some (.inl kd), some (.inr (.inr (some q))), [] => bif Nat.beq a.1 7 && (Nat.beq a.2 0 && Nat.beq q.1 6) then vp_in (S 7 0 7) 20 ∧ kk L [] (zgrP S kd q.2) K else False
  | _, _, _, _ => False
def z_newD (kk : ZP) : ZP := fun L st S K => match znth L 0, znth L 2, st with
  | some (.inr (.inr (some a))), some (.inr (.inr none)), [] => bif Nat.beq a.1 7 && Nat.beq a.2 0 then vp_in (S 7 0 8) 6 ∧ kk L [] (zgrD S (-1)) K else False
  | some (.inr (.inr (some a))), some (.inr (.inr (some q))), [] => bif Nat.beq a.1 7 && (Nat.beq a.2 0 && Nat.beq q.1 0) then vp_in (S 7 0 8) 6 ∧ kk L [] (zgrD S (nI q.2)) K else False
  | _, _, _ => False
def z_newS (kk : ZP) : ZP := fun L st S K => match znth L 0, znth L 2, st with
  | some (.inr (.inr (some a))), some (.inr (.inr (some q))), [] => bif Nat.beq a.1 7 && (Nat.beq a.2 0 && Nat.beq q.1 0) then vp_in (S 7 0 9) 6 ∧ kk L [] (zgrS S q.2) K else False
  | _, _, _ => False
def z_newF (kk : ZP) : ZP := fun L st S K => match znth L 0, znth L 2, znth L 3, znth L 4, st with
  | some (.inr (.inr (some a))), some (.inl gd), some (.inl qt), some (.inr (.inr (some q))), [] => bif Nat.beq a.1 7 && (Nat.beq a.2 0 && Nat.beq q.1 0) then vp_in (S 7 0 10) 6 ∧ kk L [] (zgrF S q.2 gd qt) K else False
  | _, _, _, _, _ => False
theorem zCx.c {X : ZX} {cc : ByteArray} {own : String} {ret : Option FieldType} {F Lo cx sx a b cx' sx' : Nat} (C : zCx X cc own ret F Lo cx sx) (hq : ∀ t, zEndP X.b X.g X.ad X.S0 X.K X.a X.s a b t → X.Q t) (h1 : a + cx' ≤ X.ce + cx) (h2 : b + sx' ≤ X.sl + sx) : zCx (zXc X a b) cc own ret F Lo cx' sx' :=
  ⟨C.hx, C.hb, C.hml, C.hw, C.hown, C.hlk, C.hr, C.htr, C.2.2.2.2.2.2.2.2.1, C.hE, hq, C.hF, C.hLo, Nat.le_trans h1 C.hce, Nat.le_trans h2 C.hsl⟩
theorem zQ_of {X : ZX} {mc ms : Nat} (h : X.Q = zEndP X.b X.g X.ad X.S0 X.K X.a X.s mc ms) {a b : Nat} (h1 : a ≤ mc) (h2 : b ≤ ms) : ∀ t, zEndP X.b X.g X.ad X.S0 X.K X.a X.s a b t → X.Q t := fun t g => by
  rw [h]
  exact zEnd_mono h1 h2 t g
