def zpp (S : ZS) (i f : Nat) : Int32 := if 0 < S 3 i 4 then (if f = 4 then zhe S i else if f = 5 then znm S i else S 3 i f) else S 3 i f
theorem zlks_S {S S' : ZS} {p : Nat} (h2 : S' 2 = S 2) (h5 : S' 5 = S 5) (h10 : S' 10 = S 10) (h3 : ∀ f, S' 3 p f = S 3 p f) : ∀ n, zlks S' p n = zlks S p n
  | 0 => rfl
  | n + 1 => by
    rw [zlks, zlks, zlks_S h2 h5 h10 h3 n, zle1, zle1, h2, h5, h10]
    simp only [h3]
theorem znm_S {S S' : ZS} {p : Nat} (h2 : S' 2 = S 2) (h5 : S' 5 = S 5) (h10 : S' 10 = S 10) (h3 : ∀ f, S' 3 p f = S 3 p f) : znm S' p = znm S p := by
  simp only [znm, zfal, zlks_S h2 h5 h10 h3, h3]
theorem zhe_S {S S' : ZS} {p : Nat} (h3 : ∀ f, S' 3 p f = S 3 p f) : zhe S' p = zhe S p := by
  simp only [zhe, h3]
set_option maxRecDepth 20000 in
set_option maxHeartbeats 1000000 in
theorem p_X7_people {S : ZS} {K : ZK} (h9 : S 7 0 7 = nI (nP S)) (hn : nP S ≤ 20) (hp : ∀ p, p < nP S → zbt (S 3 p 1) 0 3 ∧ (S 3 p 2).toNatClampNeg < nS S) (hK : K (.inl none) (zmp S 3 (nP S) (zpp S))) : sp_X7_closePeople [zr 7 0] S K := by
  have loop : z_loop (fun J2 => zb_X7_closePeople_2 J2) [some (zr 7 0), some (zi (nI 0))] [] S K := by
    refine z_loop_P (m := nP S) (fun m L S' => ∃ i, i + m = nP S ∧ S' = zmp S 3 i (zpp S) ∧ L = [some (zr 7 0), some (zi (nI i))]) ?_ ⟨0, by omega, (zmp_0 S 3 (zpp S)).symm, rfl⟩
    rintro m L S' ⟨i, hm, rfl, rfl⟩ k hk
    have z7 : ∀ f, zmp S 3 i (zpp S) 7 0 f = S 7 0 f := fun f => rfl
    rcases m with _ | m
    · obtain rfl : i = nP S := by omega
      simp [zb_X7_closePeople_2, zsp, zin, znth, ztake, zset, zcont, zcontH, zf_0_0, zf_0_2, zf_1_0, zf_1_1, zf_1_2, zf_1_3, zf_1_4, zf_2_0, zf_2_1, zf_2_2, zf_2_3, zf_2_4, zf_3_0, zf_3_1, zf_3_2, zf_3_3, zf_3_4, zf_3_5, zf_3_6, zf_3_7, zf_3_8, zf_3_9, zf_3_10, zf_4_0, zf_4_1, zf_4_2, zf_4_3, zf_4_4, zf_5_0, zf_5_1, zf_5_2, zf_5_3, zf_5_4, zf_5_5, zf_6_0, zf_6_1, zf_6_2, zf_7_0, zf_7_1, zf_7_2, zf_7_3, zf_7_4, zf_7_5, zf_7_6, zf_7_7, zf_7_8, zf_7_9, zf_7_10, zf_7_11, zf_7_12, zf_7_13, zf_7_14, zf_7_15, zf_7_16, zf_7_17, zf_7_18, zln_9, zln_10, zln_15, zln_16, zln_17, zln_18, zln_19, zln_20, zln_21, zln_11, zln_12, zln_13, zln_14, zchild, zcnt, zc1b, zble, zbeq, z_push, z_ild, z_ald, z_ist, z_ast, z_inc, z_bin, z_dvn, z_un, z_dup, z_dup2, z_pop, z_if, z_cmp, z_ifnull, z_pnull, z_acn, z_gf, z_gfn, z_pf, z_pfz, z_pfr, z_iald, z_iast, z_aald, z_alen, z_ret, z_invV, z_invS, z_invH, z_throw, z_sw, zup_r, h9, z7]
      exact hK
    · have hi : i < nP S := by omega
      have e1 : nI i + 1 = nI (i + 1) := nI_add i 1
      have z1 : ∀ f, zmp S 3 i (zpp S) 3 i f = S 3 i f := fun f => if_neg (by omega)
      have zc : nP (zmp S 3 i (zpp S)) = nP S := rfl
      have e3 := vp_in_nI (show i < 20 by omega) (show 20 < 2147483648 by decide)
      have e4 := nI_clamp (show i < 2 ^ 31 by omega)
      have key := hk m rfl _ _ ⟨i + 1, by omega, rfl, rfl⟩
      obtain ⟨p1, p2⟩ := hp i hi
      by_cases hl : 0 < S 3 i 4
      · simp [zb_X7_closePeople_2, zb_X7_closePeople_32, zsp, zin, znth, ztake, zset, zcont, zcontH, zf_0_0, zf_0_2, zf_1_0, zf_1_1, zf_1_2, zf_1_3, zf_1_4, zf_2_0, zf_2_1, zf_2_2, zf_2_3, zf_2_4, zf_3_0, zf_3_1, zf_3_2, zf_3_3, zf_3_4, zf_3_5, zf_3_6, zf_3_7, zf_3_8, zf_3_9, zf_3_10, zf_4_0, zf_4_1, zf_4_2, zf_4_3, zf_4_4, zf_5_0, zf_5_1, zf_5_2, zf_5_3, zf_5_4, zf_5_5, zf_6_0, zf_6_1, zf_6_2, zf_7_0, zf_7_1, zf_7_2, zf_7_3, zf_7_4, zf_7_5, zf_7_6, zf_7_7, zf_7_8, zf_7_9, zf_7_10, zf_7_11, zf_7_12, zf_7_13, zf_7_14, zf_7_15, zf_7_16, zf_7_17, zf_7_18, zln_9, zln_10, zln_15, zln_16, zln_17, zln_18, zln_19, zln_20, zln_21, zln_11, zln_12, zln_13, zln_14, zchild, zcnt, zc1b, zble, zbeq, z_push, z_ild, z_ald, z_ist, z_ast, z_inc, z_bin, z_dvn, z_un, z_dup, z_dup2, z_pop, z_if, z_cmp, z_ifnull, z_pnull, z_acn, z_gf, z_gfn, z_pf, z_pfz, z_pfr, z_iald, z_iast, z_aald, z_alen, z_ret, z_invV, z_invS, z_invH, z_throw, z_sw, zup_r, h9, z7, zc, zle_n hi (show nP S < 2147483648 by omega), e3, e4, hi, z1, p_X3_isDead, hl]
        refine p_X7_closePerson (by rw [z1]; exact p1) (by rw [z1]; exact p2) (fun S' e => ?_)
        rw [zhe_S z1, znm_S (S := S) (S' := zmp S 3 i (zpp S)) rfl rfl rfl z1] at e
        simp [zsp, zin, znth, ztake, zset, zcont, zcontH, zf_0_0, zf_0_2, zf_1_0, zf_1_1, zf_1_2, zf_1_3, zf_1_4, zf_2_0, zf_2_1, zf_2_2, zf_2_3, zf_2_4, zf_3_0, zf_3_1, zf_3_2, zf_3_3, zf_3_4, zf_3_5, zf_3_6, zf_3_7, zf_3_8, zf_3_9, zf_3_10, zf_4_0, zf_4_1, zf_4_2, zf_4_3, zf_4_4, zf_5_0, zf_5_1, zf_5_2, zf_5_3, zf_5_4, zf_5_5, zf_6_0, zf_6_1, zf_6_2, zf_7_0, zf_7_1, zf_7_2, zf_7_3, zf_7_4, zf_7_5, zf_7_6, zf_7_7, zf_7_8, zf_7_9, zf_7_10, zf_7_11, zf_7_12, zf_7_13, zf_7_14, zf_7_15, zf_7_16, zf_7_17, zf_7_18, zln_9, zln_10, zln_15, zln_16, zln_17, zln_18, zln_19, zln_20, zln_21, zln_11, zln_12, zln_13, zln_14, zchild, zcnt, zc1b, zble, zbeq, z_push, z_ild, z_ald, z_ist, z_ast, z_inc, z_bin, z_dvn, z_un, z_dup, z_dup2, z_pop, z_if, z_cmp, z_ifnull, z_pnull, z_acn, z_gf, z_gfn, z_pf, z_pfz, z_pfr, z_iald, z_iast, z_aald, z_alen, z_ret, z_invV, z_invS, z_invH, z_throw, z_sw, zup_r, e1]
        rw [e]
        rw [← zmp_s (T := zup (zup (zmp S 3 i (zpp S)) 3 i 4 (zhe S i)) 3 i 5 (znm S i)) (fun f => by
          by_cases f3 : f = 4
          · simp [zup, zpp, f3, hl]
          · by_cases f4 : f = 5
            · simp [zup, zpp, f4, hl]
            · simp [zup, zpp, f3, f4, z1, hl]) (fun k' j f h => by
          have h5 : ∀ x, ¬ (k' = 3 ∧ j = i ∧ f = x) := fun x h' => h ⟨h'.1, h'.2.1⟩
          simp [zup, h5])] at key
        exact key
      · simp [zb_X7_closePeople_2, zb_X7_closePeople_32, zsp, zin, znth, ztake, zset, zcont, zcontH, zf_0_0, zf_0_2, zf_1_0, zf_1_1, zf_1_2, zf_1_3, zf_1_4, zf_2_0, zf_2_1, zf_2_2, zf_2_3, zf_2_4, zf_3_0, zf_3_1, zf_3_2, zf_3_3, zf_3_4, zf_3_5, zf_3_6, zf_3_7, zf_3_8, zf_3_9, zf_3_10, zf_4_0, zf_4_1, zf_4_2, zf_4_3, zf_4_4, zf_5_0, zf_5_1, zf_5_2, zf_5_3, zf_5_4, zf_5_5, zf_6_0, zf_6_1, zf_6_2, zf_7_0, zf_7_1, zf_7_2, zf_7_3, zf_7_4, zf_7_5, zf_7_6, zf_7_7, zf_7_8, zf_7_9, zf_7_10, zf_7_11, zf_7_12, zf_7_13, zf_7_14, zf_7_15, zf_7_16, zf_7_17, zf_7_18, zln_9, zln_10, zln_15, zln_16, zln_17, zln_18, zln_19, zln_20, zln_21, zln_11, zln_12, zln_13, zln_14, zchild, zcnt, zc1b, zble, zbeq, z_push, z_ild, z_ald, z_ist, z_ast, z_inc, z_bin, z_dvn, z_un, z_dup, z_dup2, z_pop, z_if, z_cmp, z_ifnull, z_pnull, z_acn, z_gf, z_gfn, z_pf, z_pfz, z_pfr, z_iald, z_iast, z_aald, z_alen, z_ret, z_invV, z_invS, z_invH, z_throw, z_sw, zup_r, h9, z7, zc, zle_n hi (show nP S < 2147483648 by omega), e3, e4, hi, z1, p_X3_isDead, hl, e1]
        rw [← zmp_s (T := zmp S 3 i (zpp S)) (fun f => by simp [zpp, hl, z1]) (fun k' j f h => rfl)] at key
        exact key
  simp [sp_X7_closePeople, zb_X7_closePeople_0, zsp, zin, znth, ztake, zset, zcont, zcontH, zf_0_0, zf_0_2, zf_1_0, zf_1_1, zf_1_2, zf_1_3, zf_1_4, zf_2_0, zf_2_1, zf_2_2, zf_2_3, zf_2_4, zf_3_0, zf_3_1, zf_3_2, zf_3_3, zf_3_4, zf_3_5, zf_3_6, zf_3_7, zf_3_8, zf_3_9, zf_3_10, zf_4_0, zf_4_1, zf_4_2, zf_4_3, zf_4_4, zf_5_0, zf_5_1, zf_5_2, zf_5_3, zf_5_4, zf_5_5, zf_6_0, zf_6_1, zf_6_2, zf_7_0, zf_7_1, zf_7_2, zf_7_3, zf_7_4, zf_7_5, zf_7_6, zf_7_7, zf_7_8, zf_7_9, zf_7_10, zf_7_11, zf_7_12, zf_7_13, zf_7_14, zf_7_15, zf_7_16, zf_7_17, zf_7_18, zln_9, zln_10, zln_15, zln_16, zln_17, zln_18, zln_19, zln_20, zln_21, zln_11, zln_12, zln_13, zln_14, zchild, zcnt, zc1b, zble, zbeq, z_push, z_ild, z_ald, z_ist, z_ast, z_inc, z_bin, z_dvn, z_un, z_dup, z_dup2, z_pop, z_if, z_cmp, z_ifnull, z_pnull, z_acn, z_gf, z_gfn, z_pf, z_pfz, z_pfr, z_iald, z_iast, z_aald, z_alen, z_ret, z_invV, z_invS, z_invH, z_throw, z_sw, zup_r]
  exact loop
/-- the model's person p is the program's -/
def zRp (S T : ZS) (p : Nat) : Prop := T 22 11 p = S 3 p 1 ∧ T 22 12 p = S 3 p 2 ∧ T 22 14 p = S 3 p 4 ∧ T 23 19 p = S 3 p 6 ∧ T 22 18 p = S 3 p 9 ∧ (∀ g, g < 6 → T 22 20 (6 * p + g) = S 10 p g) ∧ (∀ g, g < 6 → T 22 4 g = S 2 g 0 ∧ (S 2 g 0 = 0 → T 22 5 g = S 2 g 1)) ∧ (∀ j, j < 6 * nS S → T 22 30 j = S 5 j 0)
theorem zle1_R {S T : ZS} {p g : Nat} (h : zRp S T p) (hg : g < 6) : zgl (T 22 4 g) (T 23 19 p) (T 22 14 p) (T 22 5 g) (zq (T 22 11 p)) (T 22 20 (6 * p + g)) = zle1 S p g := by
  obtain ⟨h1, h2, h3, h4, h5, h6, h7, h8⟩ := h
  rw [zle1, h1, h3, h4, h6 g hg, (h7 g hg).1]
  by_cases h0 : S 2 g 0 = 0
  · rw [(h7 g hg).2 h0]
  · simp [zgl, h0]
theorem zneed (k : Int32) : 800 ≤ (400 * zq k).toInt ∧ (400 * zq k).toInt ≤ 2400 := by
  unfold zq
  split
  · decide
  · split
    · decide
    · split <;> decide
