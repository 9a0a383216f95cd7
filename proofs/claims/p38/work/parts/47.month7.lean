def zbk (S : ZS) (n : Nat) : ZS := fun k i f => if k = 3 ∧ i < n then (if f = 2 then nI (S 3 i 3).toNatClampNeg else if f = 6 ∨ f = 7 ∨ f = 8 ∨ f = 9 then 0 else S 3 i f) else if k = 10 ∧ i < n ∧ f < 6 then 0 else S k i f
def zso (S : ZS) (i f : Nat) : Int32 := if f = 3 then 0 else S 2 i f
theorem zbk_s (S : ZS) (i : Nat) : zbk1 (zbk S i) i 6 = zbk S (i + 1) := by
  funext k j f
  have z1 : ∀ f, zbk S i 3 i f = S 3 i f := fun f => by simp [zbk]
  by_cases hj : j = i
  · subst hj
    by_cases h3 : k = 3
    · subst h3
      simp [zbk1, zbk]
    · by_cases h10 : k = 10
      · subst h10
        simp [zbk1, zbk]
      · simp [zbk1, zbk, h3, h10]
  · have h1 : j < i ↔ j < i + 1 := by omega
    simp [zbk1, zbk, hj, h1]
set_option maxRecDepth 20000 in
set_option maxHeartbeats 2000000 in
theorem p_X7_openNewMonth {S : ZS} {K : ZK} (h9 : S 7 0 7 = nI (nP S)) (hn : nP S ≤ 20) (hK : K (.inl none) (zbk (zmp (zup (zup S 7 0 13 (S 7 0 13 + 1)) 7 0 14 0) 2 6 (zso S)) (nP S))) : sp_X7_openNewMonth [zr 7 0] S K := by
  have l2 : z_loop (fun J41 => zb_X7_openNewMonth_41 J41) [some (zr 7 0), some (zi (nI 0))] [] (zmp (zup (zup S 7 0 13 (S 7 0 13 + 1)) 7 0 14 0) 2 6 (zso S)) K := by
    refine z_loop_P (m := nP S) (fun m L S' => ∃ i, i + m = nP S ∧ S' = zbk (zmp (zup (zup S 7 0 13 (S 7 0 13 + 1)) 7 0 14 0) 2 6 (zso S)) i ∧ L = [some (zr 7 0), some (zi (nI i))]) ?_ ⟨0, by omega, ?_, rfl⟩
    · rintro m L S' ⟨i, hm, rfl, rfl⟩ k hk
      have z7 : zbk (zmp (zup (zup S 7 0 13 (S 7 0 13 + 1)) 7 0 14 0) 2 6 (zso S)) i 7 0 7 = S 7 0 7 := rfl
      have zc : nP (zbk (zmp (zup (zup S 7 0 13 (S 7 0 13 + 1)) 7 0 14 0) 2 6 (zso S)) i) = nP S := rfl
      rcases m with _ | m
      · obtain rfl : i = nP S := by omega
        simp [zb_X7_openNewMonth_41, zsp, zin, znth, ztake, zset, zcont, zcontH, zf_0_0, zf_0_2, zf_1_0, zf_1_1, zf_1_2, zf_1_3, zf_1_4, zf_2_0, zf_2_1, zf_2_2, zf_2_3, zf_2_4, zf_3_0, zf_3_1, zf_3_2, zf_3_3, zf_3_4, zf_3_5, zf_3_6, zf_3_7, zf_3_8, zf_3_9, zf_3_10, zf_4_0, zf_4_1, zf_4_2, zf_4_3, zf_4_4, zf_5_0, zf_5_1, zf_5_2, zf_5_3, zf_5_4, zf_5_5, zf_6_0, zf_6_1, zf_6_2, zf_7_0, zf_7_1, zf_7_2, zf_7_3, zf_7_4, zf_7_5, zf_7_6, zf_7_7, zf_7_8, zf_7_9, zf_7_10, zf_7_11, zf_7_12, zf_7_13, zf_7_14, zf_7_15, zf_7_16, zf_7_17, zf_7_18, zln_9, zln_10, zln_15, zln_16, zln_17, zln_18, zln_19, zln_20, zln_21, zln_11, zln_12, zln_13, zln_14, zchild, zcnt, zc1b, zble, zbeq, z_push, z_ild, z_ald, z_ist, z_ast, z_inc, z_bin, z_dvn, z_un, z_dup, z_dup2, z_pop, z_if, z_cmp, z_ifnull, z_pnull, z_acn, z_gf, z_gfn, z_pf, z_pfz, z_pfr, z_iald, z_iast, z_aald, z_alen, z_ret, z_invV, z_invS, z_invH, z_throw, z_sw, zup_r, h9, z7]
        exact hK
      · have hi : i < nP S := by omega
        have e1 : nI i + 1 = nI (i + 1) := nI_add i 1
        have e3 := vp_in_nI (show i < 20 by omega) (show 20 < 2147483648 by decide)
        have e4 := nI_clamp (show i < 2 ^ 31 by omega)
        have key := hk m rfl _ _ ⟨i + 1, by omega, rfl, rfl⟩
        rw [← zbk_s] at key
        simp [zb_X7_openNewMonth_41, zsp, zin, znth, ztake, zset, zcont, zcontH, zf_0_0, zf_0_2, zf_1_0, zf_1_1, zf_1_2, zf_1_3, zf_1_4, zf_2_0, zf_2_1, zf_2_2, zf_2_3, zf_2_4, zf_3_0, zf_3_1, zf_3_2, zf_3_3, zf_3_4, zf_3_5, zf_3_6, zf_3_7, zf_3_8, zf_3_9, zf_3_10, zf_4_0, zf_4_1, zf_4_2, zf_4_3, zf_4_4, zf_5_0, zf_5_1, zf_5_2, zf_5_3, zf_5_4, zf_5_5, zf_6_0, zf_6_1, zf_6_2, zf_7_0, zf_7_1, zf_7_2, zf_7_3, zf_7_4, zf_7_5, zf_7_6, zf_7_7, zf_7_8, zf_7_9, zf_7_10, zf_7_11, zf_7_12, zf_7_13, zf_7_14, zf_7_15, zf_7_16, zf_7_17, zf_7_18, zln_9, zln_10, zln_15, zln_16, zln_17, zln_18, zln_19, zln_20, zln_21, zln_11, zln_12, zln_13, zln_14, zchild, zcnt, zc1b, zble, zbeq, z_push, z_ild, z_ald, z_ist, z_ast, z_inc, z_bin, z_dvn, z_un, z_dup, z_dup2, z_pop, z_if, z_cmp, z_ifnull, z_pnull, z_acn, z_gf, z_gfn, z_pf, z_pfz, z_pfr, z_iald, z_iast, z_aald, z_alen, z_ret, z_invV, z_invS, z_invH, z_throw, z_sw, zup_r, h9, z7, zc, zle_n hi (show nP S < 2147483648 by omega), e3, e4, hi]
        refine p_X3_openNewBook ?_
        simp [zsp, zin, znth, ztake, zset, zcont, zcontH, zf_0_0, zf_0_2, zf_1_0, zf_1_1, zf_1_2, zf_1_3, zf_1_4, zf_2_0, zf_2_1, zf_2_2, zf_2_3, zf_2_4, zf_3_0, zf_3_1, zf_3_2, zf_3_3, zf_3_4, zf_3_5, zf_3_6, zf_3_7, zf_3_8, zf_3_9, zf_3_10, zf_4_0, zf_4_1, zf_4_2, zf_4_3, zf_4_4, zf_5_0, zf_5_1, zf_5_2, zf_5_3, zf_5_4, zf_5_5, zf_6_0, zf_6_1, zf_6_2, zf_7_0, zf_7_1, zf_7_2, zf_7_3, zf_7_4, zf_7_5, zf_7_6, zf_7_7, zf_7_8, zf_7_9, zf_7_10, zf_7_11, zf_7_12, zf_7_13, zf_7_14, zf_7_15, zf_7_16, zf_7_17, zf_7_18, zln_9, zln_10, zln_15, zln_16, zln_17, zln_18, zln_19, zln_20, zln_21, zln_11, zln_12, zln_13, zln_14, zchild, zcnt, zc1b, zble, zbeq, z_push, z_ild, z_ald, z_ist, z_ast, z_inc, z_bin, z_dvn, z_un, z_dup, z_dup2, z_pop, z_if, z_cmp, z_ifnull, z_pnull, z_acn, z_gf, z_gfn, z_pf, z_pfz, z_pfr, z_iald, z_iast, z_aald, z_alen, z_ret, z_invV, z_invS, z_invH, z_throw, z_sw, zup_r, e1]
        exact key
    · funext k i f
      simp [zbk]
  have l1 : z_loop (fun J17 => zb_X7_openNewMonth_17 J17) [some (zr 7 0), some (zi (nI 0))] [] (zup (zup S 7 0 13 (S 7 0 13 + 1)) 7 0 14 0) K := by
    refine z_loop_P (m := 6) (fun m L S' => ∃ i, i + m = 6 ∧ S' = zmp (zup (zup S 7 0 13 (S 7 0 13 + 1)) 7 0 14 0) 2 i (zso S) ∧ L = [some (zr 7 0), some (zi (nI i))]) ?_ ⟨0, by omega, (zmp_0 _ 2 (zso S)).symm, rfl⟩
    rintro m L S' ⟨i, hm, rfl, rfl⟩ k hk
    rcases m with _ | m
    · obtain rfl : i = 6 := by omega
      have e2 : (6 : Int32) ≤ nI 6 := by decide
      simp [zb_X7_openNewMonth_17, zsp, zin, znth, ztake, zset, zcont, zcontH, zf_0_0, zf_0_2, zf_1_0, zf_1_1, zf_1_2, zf_1_3, zf_1_4, zf_2_0, zf_2_1, zf_2_2, zf_2_3, zf_2_4, zf_3_0, zf_3_1, zf_3_2, zf_3_3, zf_3_4, zf_3_5, zf_3_6, zf_3_7, zf_3_8, zf_3_9, zf_3_10, zf_4_0, zf_4_1, zf_4_2, zf_4_3, zf_4_4, zf_5_0, zf_5_1, zf_5_2, zf_5_3, zf_5_4, zf_5_5, zf_6_0, zf_6_1, zf_6_2, zf_7_0, zf_7_1, zf_7_2, zf_7_3, zf_7_4, zf_7_5, zf_7_6, zf_7_7, zf_7_8, zf_7_9, zf_7_10, zf_7_11, zf_7_12, zf_7_13, zf_7_14, zf_7_15, zf_7_16, zf_7_17, zf_7_18, zln_9, zln_10, zln_15, zln_16, zln_17, zln_18, zln_19, zln_20, zln_21, zln_11, zln_12, zln_13, zln_14, zchild, zcnt, zc1b, zble, zbeq, z_push, z_ild, z_ald, z_ist, z_ast, z_inc, z_bin, z_dvn, z_un, z_dup, z_dup2, z_pop, z_if, z_cmp, z_ifnull, z_pnull, z_acn, z_gf, z_gfn, z_pf, z_pfz, z_pfr, z_iald, z_iast, z_aald, z_alen, z_ret, z_invV, z_invS, z_invH, z_throw, z_sw, zup_r, e2]
      exact l2
    · have hi : i < 6 := by omega
      have e1 : nI i + 1 = nI (i + 1) := nI_add i 1
      have e2 : ¬ (6 : Int32) ≤ nI i := zle_n hi (by decide)
      have e3 := vp_in_nI hi (show 6 < 2147483648 by decide)
      have e4 := nI_clamp (show i < 2 ^ 31 by omega)
      have z1 : ∀ f, zmp (zup (zup S 7 0 13 (S 7 0 13 + 1)) 7 0 14 0) 2 i (zso S) 2 i f = S 2 i f := fun f => by
        simp [zmp, zup]
      have key := hk m rfl _ _ ⟨i + 1, by omega, rfl, rfl⟩
      rw [← zmp_s (T := zup (zmp (zup (zup S 7 0 13 (S 7 0 13 + 1)) 7 0 14 0) 2 i (zso S)) 2 i 3 0) (fun f => by
        by_cases f3 : f = 3
        · simp [zup, zso, f3]
        · have := z1 f
          simp only [zup, zso, f3] at this ⊢
          simpa using this) (fun k' j f h => by
        have h5 : ∀ x, ¬ (k' = 2 ∧ j = i ∧ f = x) := fun x h' => h ⟨h'.1, h'.2.1⟩
        exact if_neg (h5 3))] at key
      simp [zb_X7_openNewMonth_17, zsp, zin, znth, ztake, zset, zcont, zcontH, zf_0_0, zf_0_2, zf_1_0, zf_1_1, zf_1_2, zf_1_3, zf_1_4, zf_2_0, zf_2_1, zf_2_2, zf_2_3, zf_2_4, zf_3_0, zf_3_1, zf_3_2, zf_3_3, zf_3_4, zf_3_5, zf_3_6, zf_3_7, zf_3_8, zf_3_9, zf_3_10, zf_4_0, zf_4_1, zf_4_2, zf_4_3, zf_4_4, zf_5_0, zf_5_1, zf_5_2, zf_5_3, zf_5_4, zf_5_5, zf_6_0, zf_6_1, zf_6_2, zf_7_0, zf_7_1, zf_7_2, zf_7_3, zf_7_4, zf_7_5, zf_7_6, zf_7_7, zf_7_8, zf_7_9, zf_7_10, zf_7_11, zf_7_12, zf_7_13, zf_7_14, zf_7_15, zf_7_16, zf_7_17, zf_7_18, zln_9, zln_10, zln_15, zln_16, zln_17, zln_18, zln_19, zln_20, zln_21, zln_11, zln_12, zln_13, zln_14, zchild, zcnt, zc1b, zble, zbeq, z_push, z_ild, z_ald, z_ist, z_ast, z_inc, z_bin, z_dvn, z_un, z_dup, z_dup2, z_pop, z_if, z_cmp, z_ifnull, z_pnull, z_acn, z_gf, z_gfn, z_pf, z_pfz, z_pfr, z_iald, z_iast, z_aald, z_alen, z_ret, z_invV, z_invS, z_invH, z_throw, z_sw, zup_r, e2, e3, e4, hi, e1]
      exact key
  simp [sp_X7_openNewMonth, zb_X7_openNewMonth_0, zsp, zin, znth, ztake, zset, zcont, zcontH, zf_0_0, zf_0_2, zf_1_0, zf_1_1, zf_1_2, zf_1_3, zf_1_4, zf_2_0, zf_2_1, zf_2_2, zf_2_3, zf_2_4, zf_3_0, zf_3_1, zf_3_2, zf_3_3, zf_3_4, zf_3_5, zf_3_6, zf_3_7, zf_3_8, zf_3_9, zf_3_10, zf_4_0, zf_4_1, zf_4_2, zf_4_3, zf_4_4, zf_5_0, zf_5_1, zf_5_2, zf_5_3, zf_5_4, zf_5_5, zf_6_0, zf_6_1, zf_6_2, zf_7_0, zf_7_1, zf_7_2, zf_7_3, zf_7_4, zf_7_5, zf_7_6, zf_7_7, zf_7_8, zf_7_9, zf_7_10, zf_7_11, zf_7_12, zf_7_13, zf_7_14, zf_7_15, zf_7_16, zf_7_17, zf_7_18, zln_9, zln_10, zln_15, zln_16, zln_17, zln_18, zln_19, zln_20, zln_21, zln_11, zln_12, zln_13, zln_14, zchild, zcnt, zc1b, zble, zbeq, z_push, z_ild, z_ald, z_ist, z_ast, z_inc, z_bin, z_dvn, z_un, z_dup, z_dup2, z_pop, z_if, z_cmp, z_ifnull, z_pnull, z_acn, z_gf, z_gfn, z_pf, z_pfz, z_pfr, z_iald, z_iast, z_aald, z_alen, z_ret, z_invV, z_invS, z_invH, z_throw, z_sw, zup_r]
  exact l1
