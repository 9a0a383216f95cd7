theorem zbm {x : Int} (h1 : -2147483648 ≤ x) (h2 : x < 2147483648) : x.bmod 4294967296 = x := by
  rw [Int.bmod_def]
  split <;> omega
theorem zadd_i {a b : Int32} (h1 : -2147483648 ≤ a.toInt + b.toInt) (h2 : a.toInt + b.toInt < 2147483648) : (a + b).toInt = a.toInt + b.toInt := by
  rw [Int32.toInt_add]
  exact zbm h1 h2
theorem zsub_i {a b : Int32} (h1 : -2147483648 ≤ a.toInt - b.toInt) (h2 : a.toInt - b.toInt < 2147483648) : (a - b).toInt = a.toInt - b.toInt := by
  rw [Int32.toInt_sub]
  exact zbm h1 h2
theorem zmul_i {a b : Int32} (h1 : -2147483648 ≤ a.toInt * b.toInt) (h2 : a.toInt * b.toInt < 2147483648) : (a * b).toInt = a.toInt * b.toInt := by
  rw [Int32.toInt_mul]
  exact zbm h1 h2
theorem zdiv_i {a b : Int32} (h1 : 0 ≤ a.toInt) (h2 : 0 < b.toInt) : (a / b).toInt = a.toInt / b.toInt := by
  rw [Int32.toInt_div, Int.tdiv_eq_ediv_of_nonneg h1]
  have h3 : a.toInt < 2147483648 := Int32.toInt_lt a
  have h4 : 0 ≤ a.toInt / b.toInt := Int.ediv_nonneg h1 (by omega)
  have h5 : a.toInt / b.toInt ≤ a.toInt := Int.ediv_le_self _ h1
  exact zbm (by omega) (by omega)
theorem zrg.add {x y : Int32} {n m : Nat} (h : zrg x n) (h' : zrg y m) (hl : n + m < 2147483648) : zrg (x + y) (n + m) := by
  obtain ⟨h1, h2⟩ := h
  obtain ⟨h3, h4⟩ := h'
  have e := zadd_i (a := x) (b := y) (by omega) (by omega)
  exact ⟨by omega, by rw [e]; omega⟩
theorem zrg.sub {x y : Int32} {n : Nat} (h : zrg x n) (h1 : 0 ≤ y.toInt) (h2 : y ≤ x) : zrg (x - y) n := by
  obtain ⟨h3, h4⟩ := h
  rw [zle_iff] at h2
  have h6 : x.toInt < 2147483648 := Int32.toInt_lt x
  have e := zsub_i (a := x) (b := y) (by omega) (by omega)
  exact ⟨by omega, by rw [e]; omega⟩
theorem zbt_i {b : Int32} {lo hi : Nat} (hl : lo < 2147483648) (hh : hi < 2147483648) (h : zbt b (nI lo) (nI hi)) : (lo : Int) ≤ b.toInt ∧ b.toInt ≤ hi := by
  obtain ⟨h1, h2⟩ := h
  rw [zle_iff, zti_nI (by omega)] at h1 h2
  exact ⟨h1, h2⟩
theorem zgr9 {b : Int32} (h : zbt b 1 9999) : 1 ≤ b.toInt ∧ b.toInt ≤ 9999 := zbt_i (lo := 1) (hi := 9999) (by decide) (by decide) h
theorem zgr99 {b : Int32} (h : zbt b 1 99999) : 1 ≤ b.toInt ∧ b.toInt ≤ 99999 := zbt_i (lo := 1) (hi := 99999) (by decide) (by decide) h
theorem zrg9 {b : Int32} (h : zbt b 1 9999) : zrg b 9999 := ⟨by have := zgr9 h; omega, (zgr9 h).2⟩
theorem zrg99 {b : Int32} (h : zbt b 1 99999) : zrg b 99999 := ⟨by have := zgr99 h; omega, (zgr99 h).2⟩
theorem zeat {b e : Int32} (h : zbt b 1 9999) (he : zrg e 900) : zrg (b * e / 100) 90000 := by
  have h1 := zgr9 h
  obtain ⟨h2, h3⟩ := he
  have h4 : 0 ≤ b.toInt * e.toInt := Int.mul_nonneg (by omega) h2
  have h5 : b.toInt * e.toInt ≤ 9999 * 900 := Int.mul_le_mul h1.2 h3 h2 (by decide)
  have e1 := zmul_i (a := b) (b := e) (by omega) (by omega)
  have e100 : (100 : Int32).toInt = 100 := by decide
  have e2 := zdiv_i (a := b * e) (b := 100) (by omega) (by omega)
  rw [e1, e100] at e2
  constructor <;> omega
theorem zring1 (a b d e : Int32) : (a - b - e) + d = a - b - (e - d) := by grind
theorem zring2 (a b d e : Int32) : (a + d) - b - (e + d) = a - b - e := by grind
theorem zring3 (a b d e : Int32) : a - (b + d) - (e - d) = a - b - e := by grind
