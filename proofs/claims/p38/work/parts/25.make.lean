theorem zgrP_8 (S : ZS) (kd : Int32) (j : Nat) (f : Nat) : zgrP S kd j 8 0 f = S 8 0 f := rfl
theorem zgrP_n (S : ZS) (kd : Int32) (j : Nat) : zgrP S kd j 7 0 7 = nI (nP S + 1) := rfl
theorem zgrD_8 (S : ZS) (x : Int32) (f : Nat) : zgrD S x 8 0 f = S 8 0 f := rfl
theorem zgrD_n (S : ZS) (x : Int32) : zgrD S x 7 0 8 = nI (nD S + 1) := rfl
theorem zgrS_8 (S : ZS) (d : Nat) (f : Nat) : zgrS S d 8 0 f = S 8 0 f := rfl
theorem zgrS_n (S : ZS) (d : Nat) : zgrS S d 7 0 9 = nI (nS S + 1) := rfl
theorem zgrF_8 (S : ZS) (d : Nat) (gd qt : Int32) (f : Nat) : zgrF S d gd qt 8 0 f = S 8 0 f := rfl
theorem zgrF_n (S : ZS) (d : Nat) (gd qt : Int32) : zgrF S d gd qt 7 0 10 = nI (nF S + 1) := rfl
theorem zrg0 (n : Nat) : zrg 0 n := ⟨by decide, by
  rw [zti0]
  omega⟩
theorem nI_s1 (n : Nat) : nI (n + 1) - 1 = nI n := by
  rw [← nI_add]
  show nI n + 1 - 1 = nI n
  exact Int32.add_sub_cancel _ _
theorem zgr_at (k n cf : Nat) (sub : Nat → Nat → Bool) (G : Nat → Int32) (S : ZS) (f : Nat) : zgrow k n cf sub G S k n f = G f := if_pos ⟨rfl, rfl⟩
