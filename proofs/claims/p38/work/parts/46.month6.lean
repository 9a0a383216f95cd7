def zrm (T : ZS) (k r j : Nat) : Int32 := if k = 22 ∧ r = 12 then T 22 13 j else if k = 22 ∧ (r = 16 ∨ r = 17 ∨ r = 18) then 0 else if k = 23 ∧ r = 19 then 0 else T k r j
def zbk1 (S : ZS) (p n : Nat) : ZS := fun k i f => if k = 3 ∧ i = p then (if f = 2 then nI (S 3 p 3).toNatClampNeg else if f = 6 ∨ f = 7 ∨ f = 8 ∨ f = 9 then 0 else S 3 p f) else if k = 10 ∧ i = p ∧ f < n then 0 else S k i f
set_option maxRecDepth 20000 in
set_option maxHeartbeats 2000000 in
theorem p_X3_openNewBook {S : ZS} {K : ZK} {p : Nat} (hK : K (.inl none) (zbk1 S p 6)) : sp_X3_openNewBook [zr 3 p] S K := by
  have loop := z_loop_n (body := fun J30 => zb_X3_openNewBook_30 J30) (K := K) 6 (fun i => [some (zr 3 p), some (zi (nI i))]) (fun i => zbk1 S p i) (fun i hi k hk => by
    have e1 : nI i + 1 = nI (i + 1) := nI_add i 1
    have e2 : ¬ (6 : Int32) ≤ nI i := zle_n hi (by decide)
    have e6 : (nI 6 : Int32) = 6 := rfl
    have e3 := vp_in_nI hi (show 6 < 2147483648 by decide)
    have e4 := nI_clamp (show i < 2 ^ 31 by omega)
    have es : zup (zbk1 S p i) 10 p i 0 = zbk1 S p (i + 1) := by
      funext k j f
      by_cases h : k = 10 ∧ j = p
      · obtain ⟨rfl, rfl⟩ := h
        by_cases hf : f = i
        · simp [zup, zbk1, hf]
        · have : f < i ↔ f < i + 1 := by omega
          simp [zup, zbk1, hf, this]
      · have h1 : ¬ (k = 10 ∧ j = p ∧ f = i) := fun h' => h ⟨h'.1, h'.2.1⟩
        have h2 : ∀ x, ¬ (k = 10 ∧ j = p ∧ f < x) := fun x h' => h ⟨h'.1, h'.2.1⟩
        simp [zup, zbk1, h1, h2]
    simp [zb_X3_openNewBook_30, zsp, zin, znth, ztake, zset, zcont, zcontH, zf_0_0, zf_0_2, zf_1_0, zf_1_1, zf_1_2, zf_1_3, zf_1_4, zf_2_0, zf_2_1, zf_2_2, zf_2_3, zf_2_4, zf_3_0, zf_3_1, zf_3_2, zf_3_3, zf_3_4, zf_3_5, zf_3_6, zf_3_7, zf_3_8, zf_3_9, zf_3_10, zf_4_0, zf_4_1, zf_4_2, zf_4_3, zf_4_4, zf_5_0, zf_5_1, zf_5_2, zf_5_3, zf_5_4, zf_5_5, zf_6_0, zf_6_1, zf_6_2, zf_7_0, zf_7_1, zf_7_2, zf_7_3, zf_7_4, zf_7_5, zf_7_6, zf_7_7, zf_7_8, zf_7_9, zf_7_10, zf_7_11, zf_7_12, zf_7_13, zf_7_14, zf_7_15, zf_7_16, zf_7_17, zf_7_18, zln_9, zln_10, zln_15, zln_16, zln_17, zln_18, zln_19, zln_20, zln_21, zln_11, zln_12, zln_13, zln_14, zchild, zcnt, zc1b, zble, zbeq, z_push, z_ild, z_ald, z_ist, z_ast, z_inc, z_bin, z_dvn, z_un, z_dup, z_dup2, z_pop, z_if, z_cmp, z_ifnull, z_pnull, z_acn, z_gf, z_gfn, z_pf, z_pfz, z_pfr, z_iald, z_iast, z_aald, z_alen, z_ret, z_invV, z_invS, z_invH, z_throw, z_sw, zup_r, e6, e2, e3, e4, e1, es]
    exact hk) (fun k => by
    have e2 : (6 : Int32) ≤ nI 6 := by decide
    have e6 : (nI 6 : Int32) = 6 := rfl
    simp [zb_X3_openNewBook_30, zsp, zin, znth, ztake, zset, zcont, zcontH, zf_0_0, zf_0_2, zf_1_0, zf_1_1, zf_1_2, zf_1_3, zf_1_4, zf_2_0, zf_2_1, zf_2_2, zf_2_3, zf_2_4, zf_3_0, zf_3_1, zf_3_2, zf_3_3, zf_3_4, zf_3_5, zf_3_6, zf_3_7, zf_3_8, zf_3_9, zf_3_10, zf_4_0, zf_4_1, zf_4_2, zf_4_3, zf_4_4, zf_5_0, zf_5_1, zf_5_2, zf_5_3, zf_5_4, zf_5_5, zf_6_0, zf_6_1, zf_6_2, zf_7_0, zf_7_1, zf_7_2, zf_7_3, zf_7_4, zf_7_5, zf_7_6, zf_7_7, zf_7_8, zf_7_9, zf_7_10, zf_7_11, zf_7_12, zf_7_13, zf_7_14, zf_7_15, zf_7_16, zf_7_17, zf_7_18, zln_9, zln_10, zln_15, zln_16, zln_17, zln_18, zln_19, zln_20, zln_21, zln_11, zln_12, zln_13, zln_14, zchild, zcnt, zc1b, zble, zbeq, z_push, z_ild, z_ald, z_ist, z_ast, z_inc, z_bin, z_dvn, z_un, z_dup, z_dup2, z_pop, z_if, z_cmp, z_ifnull, z_pnull, z_acn, z_gf, z_gfn, z_pf, z_pfz, z_pfr, z_iald, z_iast, z_aald, z_alen, z_ret, z_invV, z_invS, z_invH, z_throw, z_sw, zup_r, e6, e2]
    exact hK)
  have e0 : zup (zup (zup (zup (zup S 3 p 2 (nI (S 3 p 3).toNatClampNeg)) 3 p 6 0) 3 p 7 0) 3 p 8 0) 3 p 9 0 = zbk1 S p 0 := by
    funext k j f
    by_cases h : k = 3 ∧ j = p
    · obtain ⟨rfl, rfl⟩ := h
      by_cases f2 : f = 2
      · simp [zup, zbk1, f2]
      · by_cases f6 : f = 6
        · simp [zup, zbk1, f6]
        · by_cases f7 : f = 7
          · simp [zup, zbk1, f7]
          · by_cases f8 : f = 8
            · simp [zup, zbk1, f8]
            · by_cases f9 : f = 9
              · simp [zup, zbk1, f9]
              · simp [zup, zbk1, f2, f6, f7, f8, f9]
    · have h1 : ∀ x, ¬ (k = 3 ∧ j = p ∧ f = x) := fun x h' => h ⟨h'.1, h'.2.1⟩
      simp [zup, zbk1, h, h1]
  simp [sp_X3_openNewBook, zb_X3_openNewBook_0, zsp, zin, znth, ztake, zset, zcont, zcontH, zf_0_0, zf_0_2, zf_1_0, zf_1_1, zf_1_2, zf_1_3, zf_1_4, zf_2_0, zf_2_1, zf_2_2, zf_2_3, zf_2_4, zf_3_0, zf_3_1, zf_3_2, zf_3_3, zf_3_4, zf_3_5, zf_3_6, zf_3_7, zf_3_8, zf_3_9, zf_3_10, zf_4_0, zf_4_1, zf_4_2, zf_4_3, zf_4_4, zf_5_0, zf_5_1, zf_5_2, zf_5_3, zf_5_4, zf_5_5, zf_6_0, zf_6_1, zf_6_2, zf_7_0, zf_7_1, zf_7_2, zf_7_3, zf_7_4, zf_7_5, zf_7_6, zf_7_7, zf_7_8, zf_7_9, zf_7_10, zf_7_11, zf_7_12, zf_7_13, zf_7_14, zf_7_15, zf_7_16, zf_7_17, zf_7_18, zln_9, zln_10, zln_15, zln_16, zln_17, zln_18, zln_19, zln_20, zln_21, zln_11, zln_12, zln_13, zln_14, zchild, zcnt, zc1b, zble, zbeq, z_push, z_ild, z_ald, z_ist, z_ast, z_inc, z_bin, z_dvn, z_un, z_dup, z_dup2, z_pop, z_if, z_cmp, z_ifnull, z_pnull, z_acn, z_gf, z_gfn, z_pf, z_pfz, z_pfr, z_iald, z_iast, z_aald, z_alen, z_ret, z_invV, z_invS, z_invH, z_throw, z_sw, zup_r]
  rw [e0]
  exact loop
