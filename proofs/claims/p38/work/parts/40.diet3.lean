theorem zlm_S {S S' : ZS} (h : S' 2 = S 2) (L : Nat → Int32) (e : Nat) : ∀ g, zlm S' L e g = zlm S L e g
  | 0 => rfl
  | g + 1 => by
    rw [zlm, zlm, zlm_S h L e g, h]
