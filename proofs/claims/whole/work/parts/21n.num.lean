theorem zbm {x : Int} (h1 : -2147483648 ≤ x) (h2 : x < 2147483648) : x.bmod 4294967296 = x := by
  rw [Int.bmod_def]
  split <;> omega
theorem zadd_i {a b : Int32} (h1 : -2147483648 ≤ a.toInt + b.toInt) (h2 : a.toInt + b.toInt < 2147483648) : (a + b).toInt = a.toInt + b.toInt := by
  rw [Int32.toInt_add]
  exact zbm h1 h2
theorem zsub_i {a b : Int32} (h1 : -2147483648 ≤ a.toInt - b.toInt) (h2 : a.toInt - b.toInt < 2147483648) : (a - b).toInt = a.toInt - b.toInt := by
  rw [Int32.toInt_sub]
  exact zbm h1 h2
theorem zmul_i {a b : Int32} (h1 : -2147483648 ≤ a.toInt * b.toInt) (h2 : a.toInt * b.toInt < 2147483648) : (a * b).toInt = a.toInt * b.toInt := by
  rw [Int32.toInt_mul]
  exact zbm h1 h2
theorem zdiv_i {a b : Int32} (h1 : 0 ≤ a.toInt) (h2 : 0 < b.toInt) : (a / b).toInt = a.toInt / b.toInt := by
  rw [Int32.toInt_div, Int.tdiv_eq_ediv_of_nonneg h1]
  have h3 : a.toInt < 2147483648 := Int32.toInt_lt a
  have h4 : 0 ≤ a.toInt / b.toInt := Int.ediv_nonneg h1 (by omega)
  have h5 : a.toInt / b.toInt ≤ a.toInt := Int.ediv_le_self _ h1
  exact zbm (by omega) (by omega)
theorem zrg.add {x y : Int32} {n m : Nat} (h : zrg x n) (h' : zrg y m) (hl : n + m < 2147483648) : zrg (x + y) (n + m) := by
  obtain ⟨h1, h2⟩ := h
  obtain ⟨h3, h4⟩ := h'
  have e := zadd_i (a := x) (b := y) (by omega) (by omega)
  exact ⟨by omega, by rw [e]; omega⟩
theorem zrg.sub {x y : Int32} {n : Nat} (h : zrg x n) (h1 : 0 ≤ y.toInt) (h2 : y ≤ x) : zrg (x - y) n := by
  obtain ⟨h3, h4⟩ := h
  rw [zle_iff] at h2
  have h6 : x.toInt < 2147483648 := Int32.toInt_lt x
  have e := zsub_i (a := x) (b := y) (by omega) (by omega)
  exact ⟨by omega, by rw [e]; omega⟩
theorem zbt_i {b : Int32} {lo hi : Nat} (hl : lo < 2147483648) (hh : hi < 2147483648) (h : zbt b (nI lo) (nI hi)) : (lo : Int) ≤ b.toInt ∧ b.toInt ≤ hi := by
  obtain ⟨h1, h2⟩ := h
  rw [zle_iff, zti_nI (by omega)] at h1 h2
  exact ⟨h1, h2⟩
theorem zgr9 {b : Int32} (h : zbt b 1 9999) : 1 ≤ b.toInt ∧ b.toInt ≤ 9999 := zbt_i (lo := 1) (hi := 9999) (by decide) (by decide) h
theorem zgr99 {b : Int32} (h : zbt b 1 99999) : 1 ≤ b.toInt ∧ b.toInt ≤ 99999 := zbt_i (lo := 1) (hi := 99999) (by decide) (by decide) h
theorem zrg9 {b : Int32} (h : zbt b 1 9999) : zrg b 9999 := ⟨by have := zgr9 h; omega, (zgr9 h).2⟩
theorem zrg99 {b : Int32} (h : zbt b 1 99999) : zrg b 99999 := ⟨by have := zgr99 h; omega, (zgr99 h).2⟩
theorem zeat {b e : Int32} (h : zbt b 1 9999) (he : zrg e 900) : zrg (b * e / 100) 90000 := by
  have h1 := zgr9 h
  obtain ⟨h2, h3⟩ := he
  have h4 : 0 ≤ b.toInt * e.toInt := Int.mul_nonneg (by omega) h2
  have h5 : b.toInt * e.toInt ≤ 9999 * 900 := Int.mul_le_mul h1.2 h3 h2 (by decide)
  have e1 := zmul_i (a := b) (b := e) (by omega) (by omega)
  have e100 : (100 : Int32).toInt = 100 := by decide
  have e2 := zdiv_i (a := b * e) (b := 100) (by omega) (by omega)
  rw [e1, e100] at e2
  constructor <;> omega
-- one thing put
theorem IGd.put {c : Nat} {S S' : ZS} (h : IGd c S) (g : Nat) (ne : ∀ i, i ≠ g → (∀ f, S' 2 i f = S 2 i f) ∧ S' 22 4 i = S 22 4 i ∧ S' 22 5 i = S 22 5 i ∧ S' 22 6 i = S 22 6 i ∧ S' 22 7 i = S 22 7 i ∧ S' 22 8 i = S 22 8 i ∧ S' 22 9 i = S 22 9 i) (hat : (S' 22 4 g = S' 2 g 0 ∧ ((S' 2 g 0 = 0 ∧ S' 22 5 g = S' 2 g 1) ∨ (S' 2 g 0 = 1 ∧ S' 22 6 g = S' 2 g 1 ∧ zbt (S' 2 g 1) 1 24) ∨ (S' 2 g 0 = 2 ∧ S' 2 g 1 = 0))) ∧ (S' 22 7 g = S' 2 g 2 ∧ zrg (S' 2 g 2) 900) ∧ (S' 22 8 g = S' 2 g 3 ∧ zrg (S' 2 g 3) (9999 * c)) ∧ S' 22 9 g = S' 2 g 4) : IGd c S' := by
  intro i hi
  by_cases e : i = g
  · subst e
    exact hat
  · obtain ⟨n1, n4, n5, n6, n7, n8, n9⟩ := ne i e
    simp only [n1, n4, n5, n6, n7, n8, n9]
    exact h i hi
theorem IPp.put {c : Nat} {S S' : ZS} (h : IPp c S) (p : Nat) (hp : p < nP S) (e0 : S' 7 0 7 = S 7 0 7) (e1 : S' 7 0 9 = S 7 0 9) (ne : ∀ i, i ≠ p → (∀ f, S' 3 i f = S 3 i f) ∧ (∀ g, S' 10 i g = S 10 i g) ∧ S' 23 19 i = S 23 19 i ∧ S' 22 11 i = S 22 11 i ∧ S' 22 12 i = S 22 12 i ∧ S' 22 13 i = S 22 13 i ∧ S' 22 14 i = S 22 14 i ∧ S' 22 15 i = S 22 15 i ∧ S' 22 16 i = S 22 16 i ∧ S' 22 17 i = S 22 17 i ∧ S' 22 18 i = S 22 18 i ∧ ∀ g, g < 6 → S' 22 20 (6 * i + g) = S 22 20 (6 * i + g)) (hat : IPd c S' p) : IPp c S' := by
  intro i hi
  by_cases e : i = p
  · subst e
    refine ⟨fun _ => hat, fun hh => ?_⟩
    unfold nP at hh hp
    rw [e0] at hh
    omega
  · obtain ⟨n3, n10, n23, n11, n12, n13, n14, n15, n16, n17, n18, n20⟩ := ne i e
    have := h i hi
    simp only [IPd, IPf, nP, nS, e0, e1, n3, n10, n23, n11, n12, n13, n14, n15, n16, n17, n18] at this ⊢
    refine ⟨fun hh => ?_, fun hh => ?_⟩
    · obtain ⟨a1, a2, a3, a4, a5, a6, a7, a8, a9, a10, a11⟩ := this.1 hh
      exact ⟨a1, a2, a3, a4, a5, a6, a7, a8, a9, a10, fun g hg => (n20 g hg).trans (a11 g hg)⟩
    · obtain ⟨a1, a2, a3, a4, a5⟩ := this.2 hh
      exact ⟨a1, a2, a3, a4, fun g hg => (n20 g hg).trans (a5 g hg)⟩
theorem IDp.put {c : Nat} {S S' : ZS} (h : IDp c S) (d g : Nat) (v : Int32) (hd : d < nD S) (hg : g < 6) (e0 : S' 7 0 8 = S 7 0 8) (e : S' 0 = S 0) (e2 : S' 22 26 = S 22 26) (e9 : ∀ i j, S' 9 i j = if i = d ∧ j = g then v else S 9 i j) (e27 : ∀ j, S' 22 27 j = if j = 6 * d + g then v else S 22 27 j) (hv : zrg v (99999 * c)) : IDp c S' := by
  intro i hi
  have := h i hi
  simp only [IDd, nD, e0, e, e2] at this ⊢
  have key : ∀ g', g' < 6 → (6 * i + g' = 6 * d + g ↔ i = d ∧ g' = g) := fun g' hg' => by omega
  refine ⟨fun hh => ?_, fun hh g' hg' => ?_⟩
  · obtain ⟨a1, a2, a3⟩ := this.1 hh
    refine ⟨a1, a2, fun g' hg' => ?_⟩
    rw [e9, e27]
    by_cases hk : i = d ∧ g' = g
    · rw [if_pos hk, if_pos ((key g' hg').mpr hk)]
      exact ⟨rfl, hv⟩
    · rw [if_neg hk, if_neg (fun h => hk ((key g' hg').mp h))]
      exact a3 g' hg'
  · rw [e27, if_neg]
    · exact this.2 hh g' hg'
    · intro hk
      have := (key g' hg').mp hk
      unfold nD at hd
      omega
theorem IHp.put {c : Nat} {S S' : ZS} (h : IHp c S) (j : Nat) (hj : j < 6 * nS S) (e0 : S' 7 0 8 = S 7 0 8) (e1 : S' 7 0 9 = S 7 0 9) (e6 : S' 6 = S 6) (e29 : S' 22 29 = S 22 29) (ne : ∀ i, i ≠ j → (∀ f, S' 5 i f = S 5 i f) ∧ S' 22 30 i = S 22 30 i ∧ S' 22 31 i = S 22 31 i ∧ S' 22 32 i = S 22 32 i ∧ S' 22 33 i = S 22 33 i ∧ S' 22 34 i = S 22 34 i) (hat : IHs c S' j) : IHp c S' := by
  refine ⟨?_, fun i hi => ?_⟩
  · have := h.1
    unfold nS nD at this ⊢
    rw [e0, e1, e6, e29]
    exact this
  · by_cases e : i = j
    · subst e
      refine ⟨fun _ => hat, fun hh => ?_⟩
      unfold nS at hh hj
      rw [e1] at hh
      omega
    · obtain ⟨n5, n30, n31, n32, n33, n34⟩ := ne i e
      have := h.2 i hi
      simp only [IHs, IHf, nS, e1, n5, n30, n31, n32, n33, n34] at this ⊢
      exact this
theorem zring1 (a b d e : Int32) : (a - b - e) + d = a - b - (e - d) := by grind
theorem zring2 (a b d e : Int32) : (a + d) - b - (e + d) = a - b - e := by grind
theorem zring3 (a b d e : Int32) : a - (b + d) - (e - d) = a - b - e := by grind
