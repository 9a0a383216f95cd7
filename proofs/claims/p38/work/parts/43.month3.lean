def zpm (S T : ZS) (k r j : Nat) : Int32 := if k = 22 ∧ r = 14 ∧ 0 < S 3 j 4 then zhe S j else if k = 22 ∧ r = 15 ∧ 0 < S 3 j 4 then znm S j else T k r j
theorem zpm_r (S T : ZS) (n r j : Nat) (h1 : ¬ r = 14) (h2 : ¬ r = 15) : zmq T n (zpm S T) 22 r j = T 22 r j := by
  unfold zmq zpm
  by_cases h : (22 = 22 ∨ 22 = 23) ∧ j < n
  · rw [if_pos h, if_neg (fun h' => h1 h'.2.1), if_neg (fun h' => h2 h'.2.1)]
  · rw [if_neg h]
theorem zpm_i (S T : ZS) (n k r j : Nat) (h : n ≤ j) : zmq T n (zpm S T) k r j = T k r j := if_neg (by omega)
/-- the price behind the month -/
def zmx1 (x : Int32) : Int32 := if 1 < x then x else 1
def zrise (j t : Int32) : Int32 := zmn j (zm0 (t - 7))
def zfallp (j t : Int32) : Int32 := zmn j (zm0 (3 - t))
def zprc (j a t : Int32) : Int32 := zmx1 (zmn 24 (a + zrise j t - zfallp j t))
theorem zmn_f (a b : Int32) : (if b < a then b else a) = zmn a b := rfl
theorem zmx1_f (a : Int32) : (if 1 < a then a else 1) = zmx1 a := rfl
def zmore (j t : Int32) : Int32 := if 7 < t then (if j ≤ t - 7 then j else t - 7) else if t < 3 then -(if j ≤ 3 - t then j else 3 - t) else 0
def zprm (j a t : Int32) : Int32 := if a + zmore j t < 1 then 1 else (if 24 ≤ a + zmore j t then 24 else a + zmore j t)
set_option maxRecDepth 100000 in
theorem zprc_fin : ∀ t : Fin 11, ∀ j : Fin 10, ∀ a : Fin 25, zprc (nI j) (nI a) (nI t) = zprm (nI j) (nI a) (nI t) := by decide +kernel
theorem zprc_bt : ∀ t : Fin 11, ∀ j : Fin 10, ∀ a : Fin 25, (1 : Int32) ≤ zprc (nI j) (nI a) (nI t) ∧ zprc (nI j) (nI a) (nI t) ≤ 24 := by decide +kernel
/-- tenths -/
theorem ztenths {s l : Int32} {n m : Nat} (hs : zrg s n) (hl : zrg l m) (hn : n ≤ 6000000) (hm : n + m < 2147483648) (h0 : 0 < s + l) : (10 * s / (s + l)).toInt = 10 * s.toInt / (s.toInt + l.toInt) ∧ ¬ s + l = 0 ∧ (((10 : Int64) * s.toInt64 / (s + l).toInt64).toInt32 = 10 * s / (s + l)) ∧ ¬ (s + l).toInt64 = 0 := by
  obtain ⟨s1, s2⟩ := hs
  obtain ⟨l1, l2⟩ := hl
  have e10 : (10 : Int32).toInt = 10 := by decide
  have a1 := zadd_i (a := s) (b := l) (by omega) (by omega)
  have m1 := zmul_i (a := 10) (b := s) (by rw [e10]; omega) (by rw [e10]; omega)
  rw [e10] at m1
  rw [zlt_iff, zti0] at h0
  have d1 := zdiv_i (a := 10 * s) (b := s + l) (by omega) h0
  rw [m1, a1] at d1
  have d2 : 0 ≤ 10 * s.toInt / (s.toInt + l.toInt) := Int.ediv_nonneg (by omega) (by omega)
  have d3 : 10 * s.toInt / (s.toInt + l.toInt) ≤ 10 * s.toInt := Int.ediv_le_self _ (by omega)
  have n0 : ¬ s + l = 0 := fun e => by
    rw [e, zti0] at h0
    omega
  have x1 : (s.toInt64).toInt = s.toInt := Int32.toInt_toInt64 s
  have x2 : ((s + l).toInt64).toInt = (s + l).toInt := Int32.toInt_toInt64 _
  have x10 : (10 : Int64).toInt = 10 := by decide
  have y1 : ((10 : Int64) * s.toInt64).toInt = 10 * s.toInt := by
    rw [Int64.toInt_mul, x10, x1, Int.bmod_def]
    split <;> omega
  have y2 : ((10 : Int64) * s.toInt64 / (s + l).toInt64).toInt = 10 * s.toInt / (s.toInt + l.toInt) := by
    rw [Int64.toInt_div, y1, x2, a1, Int.tdiv_eq_ediv_of_nonneg (by omega), Int.bmod_def]
    split <;> omega
  refine ⟨d1, n0, ?_, fun e => ?_⟩
  · rw [zeq_iff, d1, Int64.toInt_toInt32, y2]
    exact zbm (by omega) (by omega)
  · have := congrArg Int64.toInt e
    rw [x2] at this
    have z : (0 : Int64).toInt = 0 := by decide
    omega
