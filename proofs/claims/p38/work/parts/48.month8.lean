theorem zsu_rg {f : Nat → Int32} {b : Nat} : ∀ {n : Nat}, n ≤ 6 → b ≤ 60000000 → (∀ i, i < n → zrg (f i) b) → zrg (zsu f n) (b * n)
  | 0, _, _, _ => ⟨(by decide : (0 : Int) ≤ (0 : Int32).toInt), (by show (0 : Int32).toInt ≤ _; rw [zti0]; omega)⟩
  | n + 1, hn, hb, h => by
    have h1 := zsu_rg (f := f) (n := n) (by omega) hb (fun i hi => h i (by omega))
    have h2 := h n (by omega)
    have h3 : b * n ≤ b * 6 := Nat.mul_le_mul_left b (by omega)
    rw [zsu, Nat.mul_succ]
    exact h1.add h2 (by omega)
/-- the state of the program behind the month -/
def zmo (S : ZS) : ZS :=
  zbk (zmp (zup (zup (zmp (zmp (zmp S 1 (nF S) (zff S)) 3 (nP S) (zpp (zmp S 1 (nF S) (zff S)))) 2 6 (zgp (zmp (zmp S 1 (nF S) (zff S)) 3 (nP S) (zpp (zmp S 1 (nF S) (zff S)))))) 7 0 13 (S 7 0 13 + 1)) 7 0 14 0) 2 6 (zso (zmp (zmp (zmp S 1 (nF S) (zff S)) 3 (nP S) (zpp (zmp S 1 (nF S) (zff S)))) 2 6 (zgp (zmp (zmp S 1 (nF S) (zff S)) 3 (nP S) (zpp (zmp S 1 (nF S) (zff S)))))))) (nP S)
