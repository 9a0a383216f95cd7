/-! person, depot, shop, farm: the thing is made, kept, counted -/
theorem zlv_new {S S' : ZS} {k i : Nat} (hk : k < 25) (hl : zlv S' k i) (hno : ¬ zlv S k i) : ((k = 0 ∨ k = 9) ∧ nD S ≤ i ∧ i < nD S') ∨ (k = 1 ∧ nF S ≤ i ∧ i < nF S') ∨ ((k = 3 ∨ k = 10) ∧ nP S ≤ i ∧ i < nP S') ∨ ((k = 6 ∨ k = 21) ∧ nS S ≤ i ∧ i < nS S') ∨ (k = 5 ∧ 6 * nS S ≤ i ∧ i < 6 * nS S') := by
  rcases (show k = 0 ∨ k = 1 ∨ k = 2 ∨ k = 3 ∨ k = 4 ∨ k = 5 ∨ k = 6 ∨ k = 7 ∨ k = 8 ∨ k = 9 ∨ k = 10 ∨ k = 11 ∨ k = 12 ∨ k = 13 ∨ k = 14 ∨ k = 15 ∨ k = 16 ∨ k = 17 ∨ k = 18 ∨ k = 19 ∨ k = 20 ∨ k = 21 ∨ k = 22 ∨ k = 23 ∨ k = 24 by omega) with rfl | rfl | rfl | rfl | rfl | rfl | rfl | rfl | rfl | rfl | rfl | rfl | rfl | rfl | rfl | rfl | rfl | rfl | rfl | rfl | rfl | rfl | rfl | rfl | rfl <;> simp only [zlv] at hl hno <;> first | exact absurd hl hno | omega
theorem zlv_newP {S S' : ZS} {k i : Nat} (hk : k < 25) (hl : zlv S' k i) (hno : ¬ zlv S k i) (c1 : nD S' = nD S) (c2 : nP S' = nP S + 1) (c3 : nS S' = nS S) (c4 : nF S' = nF S) : (k = 3 ∧ i = nP S) ∨ (k = 10 ∧ i = nP S) := by
  have := zlv_new hk hl hno
  omega
theorem zlv_newD {S S' : ZS} {k i : Nat} (hk : k < 25) (hl : zlv S' k i) (hno : ¬ zlv S k i) (c1 : nD S' = nD S + 1) (c2 : nP S' = nP S) (c3 : nS S' = nS S) (c4 : nF S' = nF S) : (k = 0 ∧ i = nD S) ∨ (k = 9 ∧ i = nD S) := by
  have := zlv_new hk hl hno
  omega
theorem zlv_newF {S S' : ZS} {k i : Nat} (hk : k < 25) (hl : zlv S' k i) (hno : ¬ zlv S k i) (c1 : nD S' = nD S) (c2 : nP S' = nP S) (c3 : nS S' = nS S) (c4 : nF S' = nF S + 1) : k = 1 ∧ i = nF S := by
  have := zlv_new hk hl hno
  omega
theorem zlv_newS {S S' : ZS} {k i : Nat} (hk : k < 25) (hl : zlv S' k i) (hno : ¬ zlv S k i) (c1 : nD S' = nD S) (c2 : nP S' = nP S) (c3 : nS S' = nS S + 1) (c4 : nF S' = nF S) : (k = 6 ∧ i = nS S) ∨ (k = 21 ∧ i = nS S) ∨ (k = 5 ∧ i = 6 * nS S + 0) ∨ (k = 5 ∧ i = 6 * nS S + 1) ∨ (k = 5 ∧ i = 6 * nS S + 2) ∨ (k = 5 ∧ i = 6 * nS S + 3) ∨ (k = 5 ∧ i = 6 * nS S + 4) ∨ (k = 5 ∧ i = 6 * nS S + 5) := by
  have h := zlv_new hk hl hno
  have h2 : ((k = 6 ∨ k = 21) ∧ i = nS S) ∨ (k = 5 ∧ 6 * nS S ≤ i ∧ i < 6 * nS S + 6) := by omega
  rcases h2 with ⟨rfl | rfl, h3⟩ | ⟨rfl, h3, h4⟩
  · exact Or.inl ⟨rfl, h3⟩
  · exact Or.inr (Or.inl ⟨rfl, h3⟩)
  · have h5 : i = 6 * nS S + 0 ∨ i = 6 * nS S + 1 ∨ i = 6 * nS S + 2 ∨ i = 6 * nS S + 3 ∨ i = 6 * nS S + 4 ∨ i = 6 * nS S + 5 := by omega
    rcases h5 with h5 | h5 | h5 | h5 | h5 | h5
    · exact Or.inr (Or.inr (Or.inl ⟨rfl, h5⟩))
    · exact Or.inr (Or.inr (Or.inr (Or.inl ⟨rfl, h5⟩)))
    · exact Or.inr (Or.inr (Or.inr (Or.inr (Or.inl ⟨rfl, h5⟩))))
    · exact Or.inr (Or.inr (Or.inr (Or.inr (Or.inr (Or.inl ⟨rfl, h5⟩)))))
    · exact Or.inr (Or.inr (Or.inr (Or.inr (Or.inr (Or.inr (Or.inl ⟨rfl, h5⟩))))))
    · exact Or.inr (Or.inr (Or.inr (Or.inr (Or.inr (Or.inr (Or.inr ⟨rfl, h5⟩))))))
theorem zble_t {a b : Nat} (h : a ≤ b) : Nat.ble a b = true := by
  rw [Nat.ble_eq]
  exact h
theorem zr_ald {p : Program} {l : Launch} {e : Env} {R : Room} {s : State} {m : MethodId} {args : Array Value} {below : List Frame} {meth : Method} {c : Code} {H : Heap} {locs : List Loc} {cells slots : Nat} {Q : State → Prop} {cc : ByteArray} {pc : Nat} {ls : Array Slot} {rest : List Value} (hx : p.tables.exec = Jvm.exec) (hb : c.code = cc) {k : Fin 4} {i : Nat} {x : Option Nat} (hdg : decode cc pc = .ok (.aload_n k, 1)) (hi : (k : Nat) = i) (hl : ls[i]? = some (.val (va_rf x))) (kk : W p l e R s m args below meth c H locs cells slots Q (F0 m (pc + 1) ls (va_rf x :: rest))) : W p l e R s m args below meth c H locs cells slots Q (F0 m pc ls rest) := by
  cases x with
  | none => exact lv_aload_nN hx hb hdg hi hl kk
  | some a => exact lv_aload_n hx hb hdg hi hl kk
theorem zu_34 : Cond.initialized RX0 ∈ wG := zg 34 (by decide +kernel) (by decide +kernel)
theorem zu_35 : Cond.initialized RX6 ∈ wG := zg 35 (by decide +kernel) (by decide +kernel)
theorem zu_38 : Cond.initialized RX3 ∈ wG := zg 38 (by decide +kernel) (by decide +kernel)
theorem zu_39 : Cond.initialized RX1 ∈ wG := zg 39 (by decide +kernel) (by decide +kernel)
theorem zu_312 : Cond.instantiable RX3 11 ∈ wG := zg 312 (by decide +kernel) (by decide +kernel)
theorem zu_313 : Cond.methodLink RX7 127 yX3_init ∈ wG := zg 313 (by decide +kernel) (by decide +kernel)
theorem zu_314 : Cond.instanceMethod yX3_init ∈ wG := zg 314 (by decide +kernel) (by decide +kernel)
theorem zu_315 : Cond.code yX3_init cX3_init 4 none ∈ wG := zg 315 (by decide +kernel) (by decide +kernel)
theorem zu_412 : Cond.instantiable RX0 3 ∈ wG := zg 412 (by decide +kernel) (by decide +kernel)
theorem zu_413 : Cond.methodLink RX7 210 yX0_init ∈ wG := zg 413 (by decide +kernel) (by decide +kernel)
theorem zu_414 : Cond.instanceMethod yX0_init ∈ wG := zg 414 (by decide +kernel) (by decide +kernel)
theorem zu_415 : Cond.code yX0_init cX0_init 3 none ∈ wG := zg 415 (by decide +kernel) (by decide +kernel)
theorem zu_434 : Cond.instantiable RX6 3 ∈ wG := zg 434 (by decide +kernel) (by decide +kernel)
theorem zu_435 : Cond.methodLink RX7 213 yX6_init ∈ wG := zg 435 (by decide +kernel) (by decide +kernel)
theorem zu_436 : Cond.instanceMethod yX6_init ∈ wG := zg 436 (by decide +kernel) (by decide +kernel)
theorem zu_437 : Cond.code yX6_init cX6_init 4 none ∈ wG := zg 437 (by decide +kernel) (by decide +kernel)
theorem zu_520 : Cond.instantiable RX1 5 ∈ wG := zg 520 (by decide +kernel) (by decide +kernel)
theorem zu_521 : Cond.methodLink RX7 285 yX1_init ∈ wG := zg 521 (by decide +kernel) (by decide +kernel)
theorem zu_522 : Cond.instanceMethod yX1_init ∈ wG := zg 522 (by decide +kernel) (by decide +kernel)
theorem zu_523 : Cond.code yX1_init cX1_init 4 none ∈ wG := zg 523 (by decide +kernel) (by decide +kernel)
