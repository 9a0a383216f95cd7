/-! PEOPLE: gifts, stolen books, moves, the black market -/
theorem zm0_add {x n : Int32} (h1 : -100000000 ≤ x.toInt) (h2 : x.toInt ≤ 100000000) (h3 : 1 ≤ n.toInt) (h4 : n.toInt ≤ 99) : zm0 x ≤ zm0 (x + n) ∧ zm0 (x + n) ≤ zm0 x + n := by
  have e := zadd_i (a := x) (b := n) (by omega) (by omega)
  by_cases hx : x < 0
  · rw [zm0_lt hx, Int32.zero_add]
    rw [zlt_iff, zti0] at hx
    by_cases hy : x + n < 0
    · rw [zm0_lt hy]
      exact ⟨Int32.le_refl _, by rw [zle_iff, zti0]; omega⟩
    · rw [zm0_ge (Int32.not_lt.mp hy)]
      rw [zlt_iff, zti0] at hy
      rw [zle_iff, zle_iff, zti0, e]
      omega
  · rw [zm0_ge (Int32.not_lt.mp hx)]
    rw [zlt_iff, zti0] at hx
    have hy : ¬ x + n < 0 := by
      rw [zlt_iff, zti0, e]
      omega
    rw [zm0_ge (Int32.not_lt.mp hy), zle_iff, zle_iff, e]
    omega
/-- the points in a book are a small number -/
theorem JPd.pt {c : Nat} {S : ZS} {p : Nat} (h : JPd c S p) (hc : c ≤ 500) : (20 + S 3 p 7 - S 3 p 8).toInt = 20 + (S 3 p 7).toInt - (S 3 p 8).toInt ∧ -100000000 ≤ (20 + S 3 p 7 - S 3 p 8).toInt ∧ (20 + S 3 p 7 - S 3 p 8).toInt ≤ 100000000 := by
  obtain ⟨-, -, -, -, -, ⟨g1, g2⟩, ⟨g3, g4⟩, -⟩ := h
  have e20 : (20 : Int32).toInt = 20 := by decide
  have e1 := zadd_i (a := 20) (b := S 3 p 7) (by omega) (by omega)
  have e2 := zsub_i (a := 20 + S 3 p 7) (b := S 3 p 8) (by omega) (by omega)
  rw [e2, e1, e20]
  omega
/-- one of the people is changed, and nothing else -/
theorem Jone {c : Nat} {S T : ZS} (h : J c S) {p : Nat} (e7 : ∀ f, T 7 0 f = S 7 0 f) (e0 : T 0 = S 0) (e1 : T 1 = S 1) (e2 : T 2 = S 2) (e4 : T 4 = S 4) (e5 : T 5 = S 5) (e6 : T 6 = S 6) (e9 : T 9 = S 9) (e10 : T 10 = S 10) (e11 : T 11 = S 11) (e12 : T 12 = S 12) (e13 : T 13 = S 13) (e14 : T 14 = S 14) (e3 : ∀ i f, ¬ i = p → T 3 i f = S 3 i f) (g3 : JPd c T p) : J c T ∧ zEq S T := by
  obtain ⟨h1, h2, h3, h4, h5, h6, h7, h8⟩ := h
  exact ⟨⟨h1.fr (fun f _ => e7 f), h2.fr e2, h3.put p (e7 7) (e7 9) e3 g3, h4.fr (e7 8) e0 e9, h5.fr (e7 8) (e7 9) e5 e6, h6.fr (e7 8) (e7 10) (fun f => by rw [e1]; exact ⟨rfl, rfl⟩), h7.fr (by rw [e4]) (e7 13) (e7 7) e11 e12 e13 e14 e10, h8.fr (e7 8) (e7 9) (fun f _ _ => e7 f) e9 (fun j => by rw [e5]) (fun g => by rw [e2])⟩, ⟨e7 7, e7 8, e7 9, e7 10⟩, e7 18⟩
set_option maxRecDepth 20000 in
set_option maxHeartbeats 8000000 in
theorem m_give {c : Nat} {S : ZS} {K : ZK} (h : J c S) (hc : c ≤ 500) {p o : Nat} {n : Int32} (hp : p < nP S) (ho : o < nP S) (hne : ¬ p = o) (hn : zbt n 1 99) (k1 : n ≤ zpt S p → ∀ v S', J (c + 1) S' ∧ zEq S S' ∧ zpt S' p = zpt S p - n ∧ zpt S o ≤ v ∧ v ≤ zpt S o + n → K (.inl (some (.inl v))) S') (k2 : K (.inr 3) S) : sp_X7_give [zr 7 0, zi (nI p), zi (nI o), zi n] S K := by
  obtain ⟨q1, q2⟩ := h.1.1
  obtain ⟨r1, r2⟩ := h.1.2.2.1
  have t20 := h.1.2.2.2.2.1
  obtain ⟨hp1, hp2⟩ := znn hp (by omega)
  obtain ⟨ho1, ho2⟩ := znn ho (by omega)
  obtain ⟨n1, n2⟩ := zbt_i (lo := 1) (hi := 99) (by decide) (by decide) hn
  have hne1 : ¬ nI p = nI o := fun e => hne (by rw [← hp2, e, ho2])
  have hne2 : ¬ o = p := fun e => hne e.symm
  have hqp := h.2.2.1 p hp
  have hqo := h.2.2.1 o ho
  have fin : n ≤ zpt S p → ∀ v T, J (c + 1) T ∧ zEq S T → zpt T p = zpt S p - n → zpt S o ≤ v ∧ v ≤ zpt S o + n → K (.inl (some (.inl v))) T := fun g v T x1 x2 x3 => k1 g v T ⟨x1.1, x1.2, x2, x3⟩
  by_cases la : zhb (S 3 p 6) (S 3 p 4)
  · by_cases lb : zhb (S 3 o 6) (S 3 o 4)
    · by_cases lp : zpl (S 3 p 6) (S 3 p 4) (20 + S 3 p 7 - S 3 p 8) < n
      · simp [zb_X7_give_0, sp_X7_give, zsp, zin, znth, ztake, zset, zcont, zcontH, zf_0_0, zf_0_2, zf_1_0, zf_1_1, zf_1_2, zf_1_3, zf_1_4, zf_2_0, zf_2_1, zf_2_2, zf_2_3, zf_2_4, zf_3_0, zf_3_1, zf_3_2, zf_3_3, zf_3_4, zf_3_5, zf_3_6, zf_3_7, zf_3_8, zf_3_9, zf_3_10, zf_4_0, zf_4_1, zf_4_2, zf_4_3, zf_4_4, zf_5_0, zf_5_1, zf_5_2, zf_5_3, zf_5_4, zf_5_5, zf_6_0, zf_6_1, zf_6_2, zf_7_0, zf_7_1, zf_7_2, zf_7_3, zf_7_4, zf_7_5, zf_7_6, zf_7_7, zf_7_8, zf_7_9, zf_7_10, zf_7_11, zf_7_12, zf_7_13, zf_7_14, zf_7_15, zf_7_16, zf_7_17, zf_7_18, zln_9, zln_10, zln_15, zln_16, zln_17, zln_18, zln_19, zln_20, zln_21, zln_11, zln_12, zln_13, zln_14, zchild, zcnt, zc1b, zble, zbeq, z_push, z_ild, z_ald, z_ist, z_ast, z_inc, z_bin, z_dvn, z_un, z_dup, z_dup2, z_pop, z_if, z_cmp, z_ifnull, z_pnull, z_acn, z_gf, z_gfn, z_pf, z_pfz, z_pfr, z_iald, z_iast, z_aald, z_alen, z_ret, z_invV, z_invS, z_invH, z_throw, z_sw, zup_r, p_X7_knownGood, p_X7_requireRange, p_X7_requireRoom, p_X7_requireEnough, p_X7_requireAlive, p_X7_requireBook, p_X3_isDead, p_X3_isWithoutBook, p_X7_pointsLeft, p_X7_changeGood, vp01, zup2, p_X7_knownPerson q1 q2, nP_f, hp1, hp2, ho1, ho2, hp, ho, hn, hne1, la, lb, lp, Int32.not_le.mpr lp, t20]
        exact k2
      · have lp' := Int32.not_lt.mp lp
        simp [zb_X7_give_0, sp_X7_give, zsp, zin, znth, ztake, zset, zcont, zcontH, zf_0_0, zf_0_2, zf_1_0, zf_1_1, zf_1_2, zf_1_3, zf_1_4, zf_2_0, zf_2_1, zf_2_2, zf_2_3, zf_2_4, zf_3_0, zf_3_1, zf_3_2, zf_3_3, zf_3_4, zf_3_5, zf_3_6, zf_3_7, zf_3_8, zf_3_9, zf_3_10, zf_4_0, zf_4_1, zf_4_2, zf_4_3, zf_4_4, zf_5_0, zf_5_1, zf_5_2, zf_5_3, zf_5_4, zf_5_5, zf_6_0, zf_6_1, zf_6_2, zf_7_0, zf_7_1, zf_7_2, zf_7_3, zf_7_4, zf_7_5, zf_7_6, zf_7_7, zf_7_8, zf_7_9, zf_7_10, zf_7_11, zf_7_12, zf_7_13, zf_7_14, zf_7_15, zf_7_16, zf_7_17, zf_7_18, zln_9, zln_10, zln_15, zln_16, zln_17, zln_18, zln_19, zln_20, zln_21, zln_11, zln_12, zln_13, zln_14, zchild, zcnt, zc1b, zble, zbeq, z_push, z_ild, z_ald, z_ist, z_ast, z_inc, z_bin, z_dvn, z_un, z_dup, z_dup2, z_pop, z_if, z_cmp, z_ifnull, z_pnull, z_acn, z_gf, z_gfn, z_pf, z_pfz, z_pfr, z_iald, z_iast, z_aald, z_alen, z_ret, z_invV, z_invS, z_invH, z_throw, z_sw, zup_r, p_X7_knownGood, p_X7_requireRange, p_X7_requireRoom, p_X7_requireEnough, p_X7_requireAlive, p_X7_requireBook, p_X3_isDead, p_X3_isWithoutBook, p_X7_pointsLeft, p_X7_changeGood, vp01, zup2, p_X7_knownPerson q1 q2, nP_f, hp1, hp2, ho1, ho2, hp, ho, hn, hne1, hne, hne2, la, lb, lp, lp', t20]
        have g1 : JPd (c + 1) (zup S 3 p 8 (S 3 p 8 + n)) p := by
          have := h.up.2.2.1 p hp
          have e := (hqp.2.2.2.2.2.2.1.add (y := n) (m := 99) ⟨by omega, n2⟩ (by omega)).mono (show 2500 * c + 99 ≤ 2500 * (c + 1) by omega)
          simp only [JPd] at this ⊢
          simp [zup, nS] at this ⊢
          simp [this, e]
        have j1 := Jone (p := p) (T := zup S 3 p 8 (S 3 p 8 + n)) h.up (fun f => rfl) rfl rfl rfl rfl rfl rfl rfl rfl rfl rfl rfl rfl (fun i f hi => by simp [zup, hi]) g1
        have g2 : JPd (c + 1) (zup (zup S 3 p 8 (S 3 p 8 + n)) 3 o 7 (S 3 o 7 + n)) o := by
          have := h.up.2.2.1 o ho
          have e := (hqo.2.2.2.2.2.1.add (y := n) (m := 99) ⟨by omega, n2⟩ (by omega)).mono (show 99 * c + 99 ≤ 99 * (c + 1) by omega)
          simp only [JPd] at this ⊢
          simp [zup, nS, hne2] at this ⊢
          simp [this, e]
        have j2 := Jone (p := o) (T := zup (zup S 3 p 8 (S 3 p 8 + n)) 3 o 7 (S 3 o 7 + n)) j1.1 (fun f => rfl) rfl rfl rfl rfl rfl rfl rfl rfl rfl rfl rfl rfl (fun i f hi => by simp [zup, hi]) g2
        refine fin lp' _ _ ⟨j2.1, j1.2.tr j2.2⟩ ?_ ?_
        · simp [zpt, zup, hne]
          have e : 20 + S 3 p 7 - (S 3 p 8 + n) = 20 + S 3 p 7 - S 3 p 8 - n := by grind
          rw [e]
          exact zpl_less n1 lp'
        · have hb := hqo.pt hc
          have := zm0_add (x := 20 + S 3 o 7 - S 3 o 8) (n := n) hb.2.1 hb.2.2 n1 n2
          have e : 20 + (S 3 o 7 + n) - S 3 o 8 = 20 + S 3 o 7 - S 3 o 8 + n := by grind
          have hk : S 3 o 6 = 0 ∧ 0 < S 3 o 4 := lb
          simp [zpt, zpl, hk, e]
          exact this
    · simp [zb_X7_give_0, sp_X7_give, zsp, zin, znth, ztake, zset, zcont, zcontH, zf_0_0, zf_0_2, zf_1_0, zf_1_1, zf_1_2, zf_1_3, zf_1_4, zf_2_0, zf_2_1, zf_2_2, zf_2_3, zf_2_4, zf_3_0, zf_3_1, zf_3_2, zf_3_3, zf_3_4, zf_3_5, zf_3_6, zf_3_7, zf_3_8, zf_3_9, zf_3_10, zf_4_0, zf_4_1, zf_4_2, zf_4_3, zf_4_4, zf_5_0, zf_5_1, zf_5_2, zf_5_3, zf_5_4, zf_5_5, zf_6_0, zf_6_1, zf_6_2, zf_7_0, zf_7_1, zf_7_2, zf_7_3, zf_7_4, zf_7_5, zf_7_6, zf_7_7, zf_7_8, zf_7_9, zf_7_10, zf_7_11, zf_7_12, zf_7_13, zf_7_14, zf_7_15, zf_7_16, zf_7_17, zf_7_18, zln_9, zln_10, zln_15, zln_16, zln_17, zln_18, zln_19, zln_20, zln_21, zln_11, zln_12, zln_13, zln_14, zchild, zcnt, zc1b, zble, zbeq, z_push, z_ild, z_ald, z_ist, z_ast, z_inc, z_bin, z_dvn, z_un, z_dup, z_dup2, z_pop, z_if, z_cmp, z_ifnull, z_pnull, z_acn, z_gf, z_gfn, z_pf, z_pfz, z_pfr, z_iald, z_iast, z_aald, z_alen, z_ret, z_invV, z_invS, z_invH, z_throw, z_sw, zup_r, p_X7_knownGood, p_X7_requireRange, p_X7_requireRoom, p_X7_requireEnough, p_X7_requireAlive, p_X7_requireBook, p_X3_isDead, p_X3_isWithoutBook, p_X7_pointsLeft, p_X7_changeGood, vp01, zup2, p_X7_knownPerson q1 q2, nP_f, hp1, hp2, ho1, ho2, hp, ho, hn, hne1, la, lb, t20]
      exact k2
  · simp [zb_X7_give_0, sp_X7_give, zsp, zin, znth, ztake, zset, zcont, zcontH, zf_0_0, zf_0_2, zf_1_0, zf_1_1, zf_1_2, zf_1_3, zf_1_4, zf_2_0, zf_2_1, zf_2_2, zf_2_3, zf_2_4, zf_3_0, zf_3_1, zf_3_2, zf_3_3, zf_3_4, zf_3_5, zf_3_6, zf_3_7, zf_3_8, zf_3_9, zf_3_10, zf_4_0, zf_4_1, zf_4_2, zf_4_3, zf_4_4, zf_5_0, zf_5_1, zf_5_2, zf_5_3, zf_5_4, zf_5_5, zf_6_0, zf_6_1, zf_6_2, zf_7_0, zf_7_1, zf_7_2, zf_7_3, zf_7_4, zf_7_5, zf_7_6, zf_7_7, zf_7_8, zf_7_9, zf_7_10, zf_7_11, zf_7_12, zf_7_13, zf_7_14, zf_7_15, zf_7_16, zf_7_17, zf_7_18, zln_9, zln_10, zln_15, zln_16, zln_17, zln_18, zln_19, zln_20, zln_21, zln_11, zln_12, zln_13, zln_14, zchild, zcnt, zc1b, zble, zbeq, z_push, z_ild, z_ald, z_ist, z_ast, z_inc, z_bin, z_dvn, z_un, z_dup, z_dup2, z_pop, z_if, z_cmp, z_ifnull, z_pnull, z_acn, z_gf, z_gfn, z_pf, z_pfz, z_pfr, z_iald, z_iast, z_aald, z_alen, z_ret, z_invV, z_invS, z_invH, z_throw, z_sw, zup_r, p_X7_knownGood, p_X7_requireRange, p_X7_requireRoom, p_X7_requireEnough, p_X7_requireAlive, p_X7_requireBook, p_X3_isDead, p_X3_isWithoutBook, p_X7_pointsLeft, p_X7_changeGood, vp01, zup2, p_X7_knownPerson q1 q2, nP_f, hp1, hp2, ho1, ho2, hp, ho, hn, hne1, la, t20]
    exact k2
set_option maxRecDepth 20000 in
set_option maxHeartbeats 8000000 in
theorem m_give0 {c : Nat} {S : ZS} {K : ZK} (h : J c S) {p : Nat} {n : Int32} (hp : p < nP S) (k0 : K (.inr 2) S) : sp_X7_give [zr 7 0, zi (nI p), zi (nI p), zi n] S K := by
  obtain ⟨q1, q2⟩ := h.1.1
  obtain ⟨r1, r2⟩ := h.1.2.2.1
  have t20 := h.1.2.2.2.2.1
  obtain ⟨hp1, hp2⟩ := znn hp (by omega)
  simp [zb_X7_give_0, sp_X7_give, zsp, zin, znth, ztake, zset, zcont, zcontH, zf_0_0, zf_0_2, zf_1_0, zf_1_1, zf_1_2, zf_1_3, zf_1_4, zf_2_0, zf_2_1, zf_2_2, zf_2_3, zf_2_4, zf_3_0, zf_3_1, zf_3_2, zf_3_3, zf_3_4, zf_3_5, zf_3_6, zf_3_7, zf_3_8, zf_3_9, zf_3_10, zf_4_0, zf_4_1, zf_4_2, zf_4_3, zf_4_4, zf_5_0, zf_5_1, zf_5_2, zf_5_3, zf_5_4, zf_5_5, zf_6_0, zf_6_1, zf_6_2, zf_7_0, zf_7_1, zf_7_2, zf_7_3, zf_7_4, zf_7_5, zf_7_6, zf_7_7, zf_7_8, zf_7_9, zf_7_10, zf_7_11, zf_7_12, zf_7_13, zf_7_14, zf_7_15, zf_7_16, zf_7_17, zf_7_18, zln_9, zln_10, zln_15, zln_16, zln_17, zln_18, zln_19, zln_20, zln_21, zln_11, zln_12, zln_13, zln_14, zchild, zcnt, zc1b, zble, zbeq, z_push, z_ild, z_ald, z_ist, z_ast, z_inc, z_bin, z_dvn, z_un, z_dup, z_dup2, z_pop, z_if, z_cmp, z_ifnull, z_pnull, z_acn, z_gf, z_gfn, z_pf, z_pfz, z_pfr, z_iald, z_iast, z_aald, z_alen, z_ret, z_invV, z_invS, z_invH, z_throw, z_sw, zup_r, p_X7_knownGood, p_X7_requireRange, p_X7_requireRoom, p_X7_requireEnough, p_X7_requireAlive, p_X7_requireBook, p_X3_isDead, p_X3_isWithoutBook, p_X7_pointsLeft, p_X7_changeGood, vp01, zup2, p_X7_knownPerson q1 q2, nP_f, hp1, hp2, hp]
  exact k0
set_option maxRecDepth 20000 in
set_option maxHeartbeats 8000000 in
theorem m_stealBook {c : Nat} {S : ZS} {K : ZK} (h : J c S) {p : Nat} (hp : p < nP S) (k1 : ∀ v S', J (c + 1) S' ∧ zEq S S' ∧ v = zpt S p ∧ zpt S' p = 0 → K (.inl (some (.inl v))) S') (k2 : K (.inr 3) S) : sp_X7_stealBook [zr 7 0, zi (nI p)] S K := by
  obtain ⟨q1, q2⟩ := h.1.1
  obtain ⟨r1, r2⟩ := h.1.2.2.1
  have t20 := h.1.2.2.2.2.1
  obtain ⟨hp1, hp2⟩ := znn hp (by omega)
  by_cases la : zhb (S 3 p 6) (S 3 p 4)
  · simp [zb_X7_stealBook_0, sp_X7_stealBook, zsp, zin, znth, ztake, zset, zcont, zcontH, zf_0_0, zf_0_2, zf_1_0, zf_1_1, zf_1_2, zf_1_3, zf_1_4, zf_2_0, zf_2_1, zf_2_2, zf_2_3, zf_2_4, zf_3_0, zf_3_1, zf_3_2, zf_3_3, zf_3_4, zf_3_5, zf_3_6, zf_3_7, zf_3_8, zf_3_9, zf_3_10, zf_4_0, zf_4_1, zf_4_2, zf_4_3, zf_4_4, zf_5_0, zf_5_1, zf_5_2, zf_5_3, zf_5_4, zf_5_5, zf_6_0, zf_6_1, zf_6_2, zf_7_0, zf_7_1, zf_7_2, zf_7_3, zf_7_4, zf_7_5, zf_7_6, zf_7_7, zf_7_8, zf_7_9, zf_7_10, zf_7_11, zf_7_12, zf_7_13, zf_7_14, zf_7_15, zf_7_16, zf_7_17, zf_7_18, zln_9, zln_10, zln_15, zln_16, zln_17, zln_18, zln_19, zln_20, zln_21, zln_11, zln_12, zln_13, zln_14, zchild, zcnt, zc1b, zble, zbeq, z_push, z_ild, z_ald, z_ist, z_ast, z_inc, z_bin, z_dvn, z_un, z_dup, z_dup2, z_pop, z_if, z_cmp, z_ifnull, z_pnull, z_acn, z_gf, z_gfn, z_pf, z_pfz, z_pfr, z_iald, z_iast, z_aald, z_alen, z_ret, z_invV, z_invS, z_invH, z_throw, z_sw, zup_r, p_X7_knownGood, p_X7_requireRange, p_X7_requireRoom, p_X7_requireEnough, p_X7_requireAlive, p_X7_requireBook, p_X3_isDead, p_X3_isWithoutBook, p_X7_pointsLeft, p_X7_changeGood, vp01, zup2, p_X7_knownPerson q1 q2, nP_f, hp1, hp2, hp, la, t20]
    have g1 : JPd (c + 1) (zup S 3 p 6 1) p := by
      have := h.up.2.2.1 p hp
      simp only [JPd] at this ⊢
      simp [zup, nS] at this ⊢
      simp [this]
    have j1 := Jone (p := p) (T := zup S 3 p 6 1) h.up (fun f => rfl) rfl rfl rfl rfl rfl rfl rfl rfl rfl rfl rfl rfl (fun i f hi => by simp [zup, hi]) g1
    exact k1 _ _ ⟨j1.1, j1.2, rfl, by simp [zpt, zpl, zup]⟩
  · simp [zb_X7_stealBook_0, sp_X7_stealBook, zsp, zin, znth, ztake, zset, zcont, zcontH, zf_0_0, zf_0_2, zf_1_0, zf_1_1, zf_1_2, zf_1_3, zf_1_4, zf_2_0, zf_2_1, zf_2_2, zf_2_3, zf_2_4, zf_3_0, zf_3_1, zf_3_2, zf_3_3, zf_3_4, zf_3_5, zf_3_6, zf_3_7, zf_3_8, zf_3_9, zf_3_10, zf_4_0, zf_4_1, zf_4_2, zf_4_3, zf_4_4, zf_5_0, zf_5_1, zf_5_2, zf_5_3, zf_5_4, zf_5_5, zf_6_0, zf_6_1, zf_6_2, zf_7_0, zf_7_1, zf_7_2, zf_7_3, zf_7_4, zf_7_5, zf_7_6, zf_7_7, zf_7_8, zf_7_9, zf_7_10, zf_7_11, zf_7_12, zf_7_13, zf_7_14, zf_7_15, zf_7_16, zf_7_17, zf_7_18, zln_9, zln_10, zln_15, zln_16, zln_17, zln_18, zln_19, zln_20, zln_21, zln_11, zln_12, zln_13, zln_14, zchild, zcnt, zc1b, zble, zbeq, z_push, z_ild, z_ald, z_ist, z_ast, z_inc, z_bin, z_dvn, z_un, z_dup, z_dup2, z_pop, z_if, z_cmp, z_ifnull, z_pnull, z_acn, z_gf, z_gfn, z_pf, z_pfz, z_pfr, z_iald, z_iast, z_aald, z_alen, z_ret, z_invV, z_invS, z_invH, z_throw, z_sw, zup_r, p_X7_knownGood, p_X7_requireRange, p_X7_requireRoom, p_X7_requireEnough, p_X7_requireAlive, p_X7_requireBook, p_X3_isDead, p_X3_isWithoutBook, p_X7_pointsLeft, p_X7_changeGood, vp01, zup2, p_X7_knownPerson q1 q2, nP_f, hp1, hp2, hp, la, t20]
    exact k2
set_option maxRecDepth 20000 in
set_option maxHeartbeats 8000000 in
theorem m_moves {c : Nat} {S : ZS} {K : ZK} (h : J c S) {p a : Nat} (hp : p < nP S) (ha : a < nS S) (k1 : ∀ v S', J (c + 1) S' ∧ zEq S S' → K (.inl (some (.inl v))) S') (k2 : K (.inr 3) S) : sp_X7_moves [zr 7 0, zi (nI p), zi (nI a)] S K := by
  obtain ⟨q1, q2⟩ := h.1.1
  obtain ⟨r1, r2⟩ := h.1.2.2.1
  have t20 := h.1.2.2.2.2.1
  obtain ⟨hp1, hp2⟩ := znn hp (by omega)
  obtain ⟨ha1, ha2⟩ := znn ha (by omega)
  by_cases la : 0 < S 3 p 4
  · simp [zb_X7_moves_0, sp_X7_moves, zsp, zin, znth, ztake, zset, zcont, zcontH, zf_0_0, zf_0_2, zf_1_0, zf_1_1, zf_1_2, zf_1_3, zf_1_4, zf_2_0, zf_2_1, zf_2_2, zf_2_3, zf_2_4, zf_3_0, zf_3_1, zf_3_2, zf_3_3, zf_3_4, zf_3_5, zf_3_6, zf_3_7, zf_3_8, zf_3_9, zf_3_10, zf_4_0, zf_4_1, zf_4_2, zf_4_3, zf_4_4, zf_5_0, zf_5_1, zf_5_2, zf_5_3, zf_5_4, zf_5_5, zf_6_0, zf_6_1, zf_6_2, zf_7_0, zf_7_1, zf_7_2, zf_7_3, zf_7_4, zf_7_5, zf_7_6, zf_7_7, zf_7_8, zf_7_9, zf_7_10, zf_7_11, zf_7_12, zf_7_13, zf_7_14, zf_7_15, zf_7_16, zf_7_17, zf_7_18, zln_9, zln_10, zln_15, zln_16, zln_17, zln_18, zln_19, zln_20, zln_21, zln_11, zln_12, zln_13, zln_14, zchild, zcnt, zc1b, zble, zbeq, z_push, z_ild, z_ald, z_ist, z_ast, z_inc, z_bin, z_dvn, z_un, z_dup, z_dup2, z_pop, z_if, z_cmp, z_ifnull, z_pnull, z_acn, z_gf, z_gfn, z_pf, z_pfz, z_pfr, z_iald, z_iast, z_aald, z_alen, z_ret, z_invV, z_invS, z_invH, z_throw, z_sw, zup_r, p_X7_knownGood, p_X7_requireRange, p_X7_requireRoom, p_X7_requireEnough, p_X7_requireAlive, p_X7_requireBook, p_X3_isDead, p_X3_isWithoutBook, p_X7_pointsLeft, p_X7_changeGood, vp01, zup2, p_X7_knownPerson q1 q2, p_X7_knownShop r1 r2, nP_f, nS_f, hp1, hp2, ha1, ha2, hp, ha, la]
    have g1 : JPd (c + 1) (zup S 3 p 3 (nI a)) p := by
      have := h.up.2.2.1 p hp
      have ha1' := ha1
      simp only [JPd] at this ⊢
      simp [zup, nS] at this ha1' ⊢
      simp [this, ha1']
    have j1 := Jone (p := p) (T := zup S 3 p 3 (nI a)) h.up (fun f => rfl) rfl rfl rfl rfl rfl rfl rfl rfl rfl rfl rfl rfl (fun i f hi => by simp [zup, hi]) g1
    exact k1 _ _ j1
  · simp [zb_X7_moves_0, sp_X7_moves, zsp, zin, znth, ztake, zset, zcont, zcontH, zf_0_0, zf_0_2, zf_1_0, zf_1_1, zf_1_2, zf_1_3, zf_1_4, zf_2_0, zf_2_1, zf_2_2, zf_2_3, zf_2_4, zf_3_0, zf_3_1, zf_3_2, zf_3_3, zf_3_4, zf_3_5, zf_3_6, zf_3_7, zf_3_8, zf_3_9, zf_3_10, zf_4_0, zf_4_1, zf_4_2, zf_4_3, zf_4_4, zf_5_0, zf_5_1, zf_5_2, zf_5_3, zf_5_4, zf_5_5, zf_6_0, zf_6_1, zf_6_2, zf_7_0, zf_7_1, zf_7_2, zf_7_3, zf_7_4, zf_7_5, zf_7_6, zf_7_7, zf_7_8, zf_7_9, zf_7_10, zf_7_11, zf_7_12, zf_7_13, zf_7_14, zf_7_15, zf_7_16, zf_7_17, zf_7_18, zln_9, zln_10, zln_15, zln_16, zln_17, zln_18, zln_19, zln_20, zln_21, zln_11, zln_12, zln_13, zln_14, zchild, zcnt, zc1b, zble, zbeq, z_push, z_ild, z_ald, z_ist, z_ast, z_inc, z_bin, z_dvn, z_un, z_dup, z_dup2, z_pop, z_if, z_cmp, z_ifnull, z_pnull, z_acn, z_gf, z_gfn, z_pf, z_pfz, z_pfr, z_iald, z_iast, z_aald, z_alen, z_ret, z_invV, z_invS, z_invH, z_throw, z_sw, zup_r, p_X7_knownGood, p_X7_requireRange, p_X7_requireRoom, p_X7_requireEnough, p_X7_requireAlive, p_X7_requireBook, p_X3_isDead, p_X3_isWithoutBook, p_X7_pointsLeft, p_X7_changeGood, vp01, zup2, p_X7_knownPerson q1 q2, p_X7_knownShop r1 r2, nP_f, nS_f, hp1, hp2, ha1, ha2, hp, ha, la]
    exact k2
/-- the cents of the black market -/
theorem zcents {d V : Int32} (hd : zbt d 1 9999) (hV : zrg V 500) : 0 ≤ d * (50 + 25 * V) / 100 ∧ d / 2 ≤ d * (50 + 25 * V) / 100 := by
  obtain ⟨d1, d2⟩ := zgr9 hd
  obtain ⟨v1, v2⟩ := hV
  have e25 : (25 : Int32).toInt = 25 := by decide
  have e50 : (50 : Int32).toInt = 50 := by decide
  have e100 : (100 : Int32).toInt = 100 := by decide
  have e2 : (2 : Int32).toInt = 2 := by decide
  have a1 := zmul_i (a := 25) (b := V) (by rw [e25]; omega) (by rw [e25]; omega)
  have a2 := zadd_i (a := 50) (b := 25 * V) (by rw [e50, a1, e25]; omega) (by rw [e50, a1, e25]; omega)
  rw [e50, a1, e25] at a2
  have m1 : 0 ≤ d.toInt * V.toInt := Int.mul_nonneg (by omega) v1
  have m2 : d.toInt * V.toInt ≤ 9999 * 500 := Int.mul_le_mul d2 (by omega) (by omega) (by decide)
  have ex : d.toInt * (50 + 25 * V.toInt) = 50 * d.toInt + 25 * (d.toInt * V.toInt) := by
    rw [Int.mul_add, Int.mul_comm d.toInt 50, Int.mul_left_comm]
  have a3 := zmul_i (a := d) (b := 50 + 25 * V) (by rw [a2, ex]; omega) (by rw [a2, ex]; omega)
  rw [a2, ex] at a3
  have a4 := zdiv_i (a := d * (50 + 25 * V)) (b := 100) (by omega) (by rw [e100]; omega)
  rw [a3, e100] at a4
  have a5 := zdiv_i (a := d) (b := 2) (by omega) (by rw [e2]; omega)
  rw [e2] at a5
  rw [zle_iff, zle_iff, zti0, a4, a5]
  omega
set_option maxRecDepth 20000 in
set_option maxHeartbeats 8000000 in
theorem m_black {c : Nat} {S : ZS} {K : ZK} (h : J c S) (hc : c ≤ 500) {p b : Nat} {d : Int32} (hp : p < nP S) (hb : b < 6) (hd : zbt d 1 9999) (k1 : ∀ v S', J (c + 1) S' ∧ zEk S S' v ∧ 0 ≤ v ∧ d / 2 ≤ v ∧ S' 2 b 4 = S 2 b 4 - d → K (.inl (some (.inl v))) S') (k2 : K (.inr 3) S) : sp_X7_black [zr 7 0, zi (nI p), zi (nI b), zi d] S K := by
  obtain ⟨q1, q2⟩ := h.1.1
  obtain ⟨r1, r2⟩ := h.1.2.2.1
  have t20 := h.1.2.2.2.2.1
  obtain ⟨hp1, hp2⟩ := znn hp (by omega)
  obtain ⟨hb1, hb2⟩ := zn6 hb
  have hG0 := h.2.1 b hb
  have hq0 := h.2.2.1 p hp
  have fin : ∀ v T, J (c + 1) T → zEk S T v → 0 ≤ v ∧ d / 2 ≤ v → T 2 b 4 = S 2 b 4 - d → K (.inl (some (.inl v))) T := fun v T x1 x2 x3 x4 => k1 v T ⟨x1, x2, x3.1, x3.2, x4⟩
  by_cases la : 0 < S 3 p 4
  · by_cases hm : d ≤ S 2 b 4
    · simp [zb_X7_black_0, sp_X7_black, zsp, zin, znth, ztake, zset, zcont, zcontH, zf_0_0, zf_0_2, zf_1_0, zf_1_1, zf_1_2, zf_1_3, zf_1_4, zf_2_0, zf_2_1, zf_2_2, zf_2_3, zf_2_4, zf_3_0, zf_3_1, zf_3_2, zf_3_3, zf_3_4, zf_3_5, zf_3_6, zf_3_7, zf_3_8, zf_3_9, zf_3_10, zf_4_0, zf_4_1, zf_4_2, zf_4_3, zf_4_4, zf_5_0, zf_5_1, zf_5_2, zf_5_3, zf_5_4, zf_5_5, zf_6_0, zf_6_1, zf_6_2, zf_7_0, zf_7_1, zf_7_2, zf_7_3, zf_7_4, zf_7_5, zf_7_6, zf_7_7, zf_7_8, zf_7_9, zf_7_10, zf_7_11, zf_7_12, zf_7_13, zf_7_14, zf_7_15, zf_7_16, zf_7_17, zf_7_18, zln_9, zln_10, zln_15, zln_16, zln_17, zln_18, zln_19, zln_20, zln_21, zln_11, zln_12, zln_13, zln_14, zchild, zcnt, zc1b, zble, zbeq, z_push, z_ild, z_ald, z_ist, z_ast, z_inc, z_bin, z_dvn, z_un, z_dup, z_dup2, z_pop, z_if, z_cmp, z_ifnull, z_pnull, z_acn, z_gf, z_gfn, z_pf, z_pfz, z_pfr, z_iald, z_iast, z_aald, z_alen, z_ret, z_invV, z_invS, z_invH, z_throw, z_sw, zup_r, p_X7_knownGood, p_X7_requireRange, p_X7_requireRoom, p_X7_requireEnough, p_X7_requireAlive, p_X7_requireBook, p_X3_isDead, p_X3_isWithoutBook, p_X7_pointsLeft, p_X7_changeGood, vp01, zup2, p_X7_knownPerson q1 q2, p_X7_eat, nP_f, hp1, hp2, hb1, hb2, hp, hb, hd, la, hm]
      have hz := (hq0.2.2.2.2.2.2.2.1.add (zeat hd hG0.2.1) (by omega)).mono (show 90000 * c + 90000 ≤ 90000 * (c + 1) by omega)
      obtain ⟨h1, h2, h3, h4, h5, h6, h7, h8⟩ := h.up
      have hq := h3 p hp
      refine fin _ _ ⟨h1.fr (fun f hf => by simp [zup, show ¬ f = 15 by omega, show ¬ f = 16 by omega, show ¬ f = 17 by omega, show ¬ f = 18 by omega]), h2.put b (fun i f hi => by simp [zup, hi]) ?_, h3.put p rfl rfl (fun i f hi => by simp [zup, hi]) ?_, h4.fr rfl rfl rfl, h5.fr rfl rfl rfl rfl, h6.fr rfl rfl (fun f => ⟨rfl, rfl⟩), h7.fr rfl rfl rfl rfl rfl rfl rfl rfl, ?_⟩ ⟨⟨rfl, rfl, rfl, rfl⟩, ?_⟩ (zcents hd (h.1.2.2.2.2.2.2.2.mono hc)) ?_
      · have := h2 b hb
        simp only [JGd] at this ⊢
        simp [zup, this]
      · simp only [JPd] at hq ⊢
        simp [zup, nS] at hq ⊢
        simp [hq, hz]
      · refine JM.mk (x15 := 0) (xd := 0) (xh := 0) (x16 := d) (x17 := 0) (xb := -d) h8 (by simp [zup]) ((zsd_fr rfl rfl).trans (Int32.add_zero _).symm) ((zsh_fr rfl (fun j => rfl)).trans (Int32.add_zero _).symm) (by simp [zup]) (by simp [zup]) ?_ (by grind)
        refine zsb_pu hb (fun i hi => by simp [zup, hi]) ?_
        simp [zup]
        grind
      · simp [zup]
      · simp [zup]
    · simp [zb_X7_black_0, sp_X7_black, zsp, zin, znth, ztake, zset, zcont, zcontH, zf_0_0, zf_0_2, zf_1_0, zf_1_1, zf_1_2, zf_1_3, zf_1_4, zf_2_0, zf_2_1, zf_2_2, zf_2_3, zf_2_4, zf_3_0, zf_3_1, zf_3_2, zf_3_3, zf_3_4, zf_3_5, zf_3_6, zf_3_7, zf_3_8, zf_3_9, zf_3_10, zf_4_0, zf_4_1, zf_4_2, zf_4_3, zf_4_4, zf_5_0, zf_5_1, zf_5_2, zf_5_3, zf_5_4, zf_5_5, zf_6_0, zf_6_1, zf_6_2, zf_7_0, zf_7_1, zf_7_2, zf_7_3, zf_7_4, zf_7_5, zf_7_6, zf_7_7, zf_7_8, zf_7_9, zf_7_10, zf_7_11, zf_7_12, zf_7_13, zf_7_14, zf_7_15, zf_7_16, zf_7_17, zf_7_18, zln_9, zln_10, zln_15, zln_16, zln_17, zln_18, zln_19, zln_20, zln_21, zln_11, zln_12, zln_13, zln_14, zchild, zcnt, zc1b, zble, zbeq, z_push, z_ild, z_ald, z_ist, z_ast, z_inc, z_bin, z_dvn, z_un, z_dup, z_dup2, z_pop, z_if, z_cmp, z_ifnull, z_pnull, z_acn, z_gf, z_gfn, z_pf, z_pfz, z_pfr, z_iald, z_iast, z_aald, z_alen, z_ret, z_invV, z_invS, z_invH, z_throw, z_sw, zup_r, p_X7_knownGood, p_X7_requireRange, p_X7_requireRoom, p_X7_requireEnough, p_X7_requireAlive, p_X7_requireBook, p_X3_isDead, p_X3_isWithoutBook, p_X7_pointsLeft, p_X7_changeGood, vp01, zup2, p_X7_knownPerson q1 q2, p_X7_eat, nP_f, hp1, hp2, hb1, hb2, hp, hb, hd, la, hm]
      exact k2
  · simp [zb_X7_black_0, sp_X7_black, zsp, zin, znth, ztake, zset, zcont, zcontH, zf_0_0, zf_0_2, zf_1_0, zf_1_1, zf_1_2, zf_1_3, zf_1_4, zf_2_0, zf_2_1, zf_2_2, zf_2_3, zf_2_4, zf_3_0, zf_3_1, zf_3_2, zf_3_3, zf_3_4, zf_3_5, zf_3_6, zf_3_7, zf_3_8, zf_3_9, zf_3_10, zf_4_0, zf_4_1, zf_4_2, zf_4_3, zf_4_4, zf_5_0, zf_5_1, zf_5_2, zf_5_3, zf_5_4, zf_5_5, zf_6_0, zf_6_1, zf_6_2, zf_7_0, zf_7_1, zf_7_2, zf_7_3, zf_7_4, zf_7_5, zf_7_6, zf_7_7, zf_7_8, zf_7_9, zf_7_10, zf_7_11, zf_7_12, zf_7_13, zf_7_14, zf_7_15, zf_7_16, zf_7_17, zf_7_18, zln_9, zln_10, zln_15, zln_16, zln_17, zln_18, zln_19, zln_20, zln_21, zln_11, zln_12, zln_13, zln_14, zchild, zcnt, zc1b, zble, zbeq, z_push, z_ild, z_ald, z_ist, z_ast, z_inc, z_bin, z_dvn, z_un, z_dup, z_dup2, z_pop, z_if, z_cmp, z_ifnull, z_pnull, z_acn, z_gf, z_gfn, z_pf, z_pfz, z_pfr, z_iald, z_iast, z_aald, z_alen, z_ret, z_invV, z_invS, z_invH, z_throw, z_sw, zup_r, p_X7_knownGood, p_X7_requireRange, p_X7_requireRoom, p_X7_requireEnough, p_X7_requireAlive, p_X7_requireBook, p_X3_isDead, p_X3_isWithoutBook, p_X7_pointsLeft, p_X7_changeGood, vp01, zup2, p_X7_knownPerson q1 q2, p_X7_eat, nP_f, hp1, hp2, hb1, hb2, hp, hb, hd, la]
    exact k2
