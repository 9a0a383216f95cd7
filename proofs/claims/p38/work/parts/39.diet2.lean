def zrowk (S : ZS) (k i : Nat) (G : Nat → Int32) : ZS := fun k' i' f => if k' = k ∧ i' = i then G f else S k' i' f
theorem zrowk_s (S : ZS) (k i f : Nat) (G : Nat → Int32) (v : Int32) : zup (zrowk S k i G) k i f v = zrowk S k i (zg1 G f v) := by
  funext k' i' f'
  by_cases h : k' = k ∧ i' = i
  · by_cases h2 : f' = f
    · simp [zup, zrowk, zg1, h, h2]
    · simp [zup, zrowk, zg1, h, h2]
  · have : ¬ (k' = k ∧ i' = i ∧ f' = f) := fun h' => h ⟨h'.1, h'.2.1⟩
    simp [zup, zrowk, h, this]
theorem zrowk_id (S : ZS) (k i : Nat) : zrowk S k i (fun f => S k i f) = S := by
  funext k' i' f'
  unfold zrowk
  by_cases h : k' = k ∧ i' = i
  · rw [if_pos h, h.1, h.2]
  · rw [if_neg h]
theorem zlf_S {S S' : ZS} (h : S' 2 = S 2) (L : Nat → Int32) (e : Nat) : ∀ g, zlf S' L e g = zlf S L e g
  | 0 => rfl
  | g + 1 => by
    rw [zlf, zlf, zlf_S h L e g, h]
set_option maxRecDepth 20000 in
set_option maxHeartbeats 1000000 in
theorem p_X7_diet {S : ZS} {K : ZK} (n : Nat) (h1 : 1 ≤ n) (hn : n ≤ 3000) (hen : ∀ g, g < 6 → zrg (S 2 g 2) 900) (hK : K (.inl (some (.inl (zct S (fun i => S 15 0 i) n n)))) (zrowk S 15 0 (zct S (fun i => S 15 0 i) n))) : z_loop (fun J17 => zb_X7_diet_17 J17) [some (zr 7 0), some (zi (nI n)), some (zi 1)] [] (zup S 15 0 0 0) K := by
  have loop := z_loop_n (body := fun J17 => zb_X7_diet_17 J17) (K := K) n (fun i => [some (zr 7 0), some (zi (nI n)), some (zi (nI (i + 1)))]) (fun i => zrowk S 15 0 (zct S (fun i => S 15 0 i) i)) (fun i hi k hk => by
    have e1 : nI (i + 1) + 1 = nI (i + 2) := nI_add (i + 1) 1
    have e2 : ¬ nI n < nI (i + 1) := nI_nlt (by omega) (by omega)
    simp [zb_X7_diet_17, zsp, zin, znth, ztake, zset, zcont, zcontH, zf_0_0, zf_0_2, zf_1_0, zf_1_1, zf_1_2, zf_1_3, zf_1_4, zf_2_0, zf_2_1, zf_2_2, zf_2_3, zf_2_4, zf_3_0, zf_3_1, zf_3_2, zf_3_3, zf_3_4, zf_3_5, zf_3_6, zf_3_7, zf_3_8, zf_3_9, zf_3_10, zf_4_0, zf_4_1, zf_4_2, zf_4_3, zf_4_4, zf_5_0, zf_5_1, zf_5_2, zf_5_3, zf_5_4, zf_5_5, zf_6_0, zf_6_1, zf_6_2, zf_7_0, zf_7_1, zf_7_2, zf_7_3, zf_7_4, zf_7_5, zf_7_6, zf_7_7, zf_7_8, zf_7_9, zf_7_10, zf_7_11, zf_7_12, zf_7_13, zf_7_14, zf_7_15, zf_7_16, zf_7_17, zf_7_18, zln_9, zln_10, zln_15, zln_16, zln_17, zln_18, zln_19, zln_20, zln_21, zln_11, zln_12, zln_13, zln_14, zchild, zcnt, zc1b, zble, zbeq, z_push, z_ild, z_ald, z_ist, z_ast, z_inc, z_bin, z_dvn, z_un, z_dup, z_dup2, z_pop, z_if, z_cmp, z_ifnull, z_pnull, z_acn, z_gf, z_gfn, z_pf, z_pfz, z_pfr, z_iald, z_iast, z_aald, z_alen, z_ret, z_invV, z_invS, z_invH, z_throw, z_sw, zup_r, e2]
    refine p_X7_leastFor (i + 1) (by omega) hen ?_
    have z2 : zlf (zrowk S 15 0 (zct S (fun i => S 15 0 i) i)) (fun f => zrowk S 15 0 (zct S (fun i => S 15 0 i) i) 15 0 f) (i + 1) 6 = zlf S (zct S (fun i => S 15 0 i) i) (i + 1) 6 := zlf_S rfl _ _ _
    rw [z2]
    simp [zsp, zin, znth, ztake, zset, zcont, zcontH, zf_0_0, zf_0_2, zf_1_0, zf_1_1, zf_1_2, zf_1_3, zf_1_4, zf_2_0, zf_2_1, zf_2_2, zf_2_3, zf_2_4, zf_3_0, zf_3_1, zf_3_2, zf_3_3, zf_3_4, zf_3_5, zf_3_6, zf_3_7, zf_3_8, zf_3_9, zf_3_10, zf_4_0, zf_4_1, zf_4_2, zf_4_3, zf_4_4, zf_5_0, zf_5_1, zf_5_2, zf_5_3, zf_5_4, zf_5_5, zf_6_0, zf_6_1, zf_6_2, zf_7_0, zf_7_1, zf_7_2, zf_7_3, zf_7_4, zf_7_5, zf_7_6, zf_7_7, zf_7_8, zf_7_9, zf_7_10, zf_7_11, zf_7_12, zf_7_13, zf_7_14, zf_7_15, zf_7_16, zf_7_17, zf_7_18, zln_9, zln_10, zln_15, zln_16, zln_17, zln_18, zln_19, zln_20, zln_21, zln_11, zln_12, zln_13, zln_14, zchild, zcnt, zc1b, zble, zbeq, z_push, z_ild, z_ald, z_ist, z_ast, z_inc, z_bin, z_dvn, z_un, z_dup, z_dup2, z_pop, z_if, z_cmp, z_ifnull, z_pnull, z_acn, z_gf, z_gfn, z_pf, z_pfz, z_pfr, z_iald, z_iast, z_aald, z_alen, z_ret, z_invV, z_invS, z_invH, z_throw, z_sw, zup_r, vp_in_nI (show i + 1 < 3001 by omega) (show 3001 < 2147483648 by decide), nI_clamp (show i + 1 < 2 ^ 31 by omega), e1, zrowk_s]
    exact hk) (fun k => by
    have e2 : nI n < nI (n + 1) := nI_lt (by omega) (by omega)
    have z3 : zrowk S 15 0 (zct S (fun i => S 15 0 i) n) 15 0 n = zct S (fun i => S 15 0 i) n n := if_pos ⟨rfl, rfl⟩
    simp [zb_X7_diet_17, zsp, zin, znth, ztake, zset, zcont, zcontH, zf_0_0, zf_0_2, zf_1_0, zf_1_1, zf_1_2, zf_1_3, zf_1_4, zf_2_0, zf_2_1, zf_2_2, zf_2_3, zf_2_4, zf_3_0, zf_3_1, zf_3_2, zf_3_3, zf_3_4, zf_3_5, zf_3_6, zf_3_7, zf_3_8, zf_3_9, zf_3_10, zf_4_0, zf_4_1, zf_4_2, zf_4_3, zf_4_4, zf_5_0, zf_5_1, zf_5_2, zf_5_3, zf_5_4, zf_5_5, zf_6_0, zf_6_1, zf_6_2, zf_7_0, zf_7_1, zf_7_2, zf_7_3, zf_7_4, zf_7_5, zf_7_6, zf_7_7, zf_7_8, zf_7_9, zf_7_10, zf_7_11, zf_7_12, zf_7_13, zf_7_14, zf_7_15, zf_7_16, zf_7_17, zf_7_18, zln_9, zln_10, zln_15, zln_16, zln_17, zln_18, zln_19, zln_20, zln_21, zln_11, zln_12, zln_13, zln_14, zchild, zcnt, zc1b, zble, zbeq, z_push, z_ild, z_ald, z_ist, z_ast, z_inc, z_bin, z_dvn, z_un, z_dup, z_dup2, z_pop, z_if, z_cmp, z_ifnull, z_pnull, z_acn, z_gf, z_gfn, z_pf, z_pfz, z_pfr, z_iald, z_iast, z_aald, z_alen, z_ret, z_invV, z_invS, z_invH, z_throw, z_sw, zup_r, e2, vp_in_nI (show n < 3001 by omega) (show 3001 < 2147483648 by decide), nI_clamp (show n < 2 ^ 31 by omega), z3]
    exact hK)
  have e0 : zup S 15 0 0 0 = zrowk S 15 0 (zct S (fun i => S 15 0 i) 0) := by
    conv => lhs; rw [← zrowk_id S 15 0, zrowk_s]
    rfl
  rw [e0]
  exact loop
/-- the model's goods are the program's, for diets -/
def zgd (S T : ZS) : Prop := ∀ g, g < 6 → T 22 4 g = S 2 g 0 ∧ T 22 7 g = S 2 g 2 ∧ (S 2 g 0 = 1 → T 22 6 g = S 2 g 1)
