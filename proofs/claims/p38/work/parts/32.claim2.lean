set_option maxRecDepth 20000 in
set_option maxHeartbeats 1000000 in
theorem p_X7_reqS {S : ZS} {K : ZK} (hn : nD S ≤ 6) (hch : zch S) (b d : Int32) (s : Nat) (hb : vp_in b 6) (he0 : (S 6 s 1).toNatClampNeg < nD S)
    (hK : if zspl (fun i => S 0 i 1) (fun i => S 9 i b.toNatClampNeg) ((S 6 s 1).toNatClampNeg + 1) (S 6 s 1).toNatClampNeg d = true then K (.inl none) S else K (.inr 3) S) : sp_X7_requireSupply [zr 6 s, zi b, zi d] S K := by
  have loop : z_loop (fun J8 => zb_X7_requireSupply_8 J8) [some (zr 6 s), some (zi b), some (zi d), some (zi d), some (zr 0 (S 6 s 1).toNatClampNeg)] [] S K := by
    refine z_loop_P (m := (S 6 s 1).toNatClampNeg + 1) (fun m L S' => S' = S ∧ ∃ w, (L = [some (zr 6 s), some (zi b), some (zi d), some (zi w), some zn] ∧ K (.inr 3) S) ∨ (∃ e, e < m ∧ e < nD S ∧ L = [some (zr 6 s), some (zi b), some (zi d), some (zi w), some (zr 0 e)] ∧ (if zspl (fun i => S 0 i 1) (fun i => S 9 i b.toNatClampNeg) m e w = true then K (.inl none) S else K (.inr 3) S))) ?_ ⟨rfl, d, Or.inr ⟨_, by omega, he0, rfl, hK⟩⟩
    rintro m L S' ⟨rfl, w, ⟨rfl, hK⟩ | ⟨e, hm, he, rfl, hK⟩⟩ k hk
    · simp [zb_X7_requireSupply_8, zsp, zin, znth, ztake, zset, zcont, zcontH, zf_0_0, zf_0_2, zf_1_0, zf_1_1, zf_1_2, zf_1_3, zf_1_4, zf_2_0, zf_2_1, zf_2_2, zf_2_3, zf_2_4, zf_3_0, zf_3_1, zf_3_2, zf_3_3, zf_3_4, zf_3_5, zf_3_6, zf_3_7, zf_3_8, zf_3_9, zf_3_10, zf_4_0, zf_4_1, zf_4_2, zf_4_3, zf_4_4, zf_5_0, zf_5_1, zf_5_2, zf_5_3, zf_5_4, zf_5_5, zf_6_0, zf_6_1, zf_6_2, zf_7_0, zf_7_1, zf_7_2, zf_7_3, zf_7_4, zf_7_5, zf_7_6, zf_7_7, zf_7_8, zf_7_9, zf_7_10, zf_7_11, zf_7_12, zf_7_13, zf_7_14, zf_7_15, zf_7_16, zf_7_17, zf_7_18, zln_9, zln_10, zln_15, zln_16, zln_17, zln_18, zln_19, zln_20, zln_21, zln_11, zln_12, zln_13, zln_14, zchild, zcnt, zc1b, zble, zbeq, z_push, z_ild, z_ald, z_ist, z_ast, z_inc, z_bin, z_dvn, z_un, z_dup, z_dup2, z_pop, z_if, z_cmp, z_ifnull, z_pnull, z_acn, z_gf, z_gfn, z_pf, z_pfz, z_pfr, z_iald, z_iast, z_aald, z_alen, z_ret, z_invV, z_invS, z_invH, z_throw, z_sw, zup_r]
      exact hK
    · obtain ⟨m, rfl⟩ : ∃ m', m = m' + 1 := ⟨m - 1, by omega⟩
      rw [zspl] at hK
      by_cases hl : S' 9 e b.toNatClampNeg < w
      · rw [if_pos hl] at hK
        rcases hch e he with ⟨u1, u2⟩ | ⟨u1, u2, u3⟩
        · rw [if_pos u1] at hK
          simp [zb_X7_requireSupply_8, zsp, zin, znth, ztake, zset, zcont, zcontH, zf_0_0, zf_0_2, zf_1_0, zf_1_1, zf_1_2, zf_1_3, zf_1_4, zf_2_0, zf_2_1, zf_2_2, zf_2_3, zf_2_4, zf_3_0, zf_3_1, zf_3_2, zf_3_3, zf_3_4, zf_3_5, zf_3_6, zf_3_7, zf_3_8, zf_3_9, zf_3_10, zf_4_0, zf_4_1, zf_4_2, zf_4_3, zf_4_4, zf_5_0, zf_5_1, zf_5_2, zf_5_3, zf_5_4, zf_5_5, zf_6_0, zf_6_1, zf_6_2, zf_7_0, zf_7_1, zf_7_2, zf_7_3, zf_7_4, zf_7_5, zf_7_6, zf_7_7, zf_7_8, zf_7_9, zf_7_10, zf_7_11, zf_7_12, zf_7_13, zf_7_14, zf_7_15, zf_7_16, zf_7_17, zf_7_18, zln_9, zln_10, zln_15, zln_16, zln_17, zln_18, zln_19, zln_20, zln_21, zln_11, zln_12, zln_13, zln_14, zchild, zcnt, zc1b, zble, zbeq, z_push, z_ild, z_ald, z_ist, z_ast, z_inc, z_bin, z_dvn, z_un, z_dup, z_dup2, z_pop, z_if, z_cmp, z_ifnull, z_pnull, z_acn, z_gf, z_gfn, z_pf, z_pfz, z_pfr, z_iald, z_iast, z_aald, z_alen, z_ret, z_invV, z_invS, z_invH, z_throw, z_sw, zup_r, hb, hl, u1, Int32.not_le.mpr u1]
          exact hk m rfl _ _ ⟨rfl, _, Or.inl ⟨rfl, by simpa using hK⟩⟩
        · rw [if_neg u1] at hK
          simp [zb_X7_requireSupply_8, zsp, zin, znth, ztake, zset, zcont, zcontH, zf_0_0, zf_0_2, zf_1_0, zf_1_1, zf_1_2, zf_1_3, zf_1_4, zf_2_0, zf_2_1, zf_2_2, zf_2_3, zf_2_4, zf_3_0, zf_3_1, zf_3_2, zf_3_3, zf_3_4, zf_3_5, zf_3_6, zf_3_7, zf_3_8, zf_3_9, zf_3_10, zf_4_0, zf_4_1, zf_4_2, zf_4_3, zf_4_4, zf_5_0, zf_5_1, zf_5_2, zf_5_3, zf_5_4, zf_5_5, zf_6_0, zf_6_1, zf_6_2, zf_7_0, zf_7_1, zf_7_2, zf_7_3, zf_7_4, zf_7_5, zf_7_6, zf_7_7, zf_7_8, zf_7_9, zf_7_10, zf_7_11, zf_7_12, zf_7_13, zf_7_14, zf_7_15, zf_7_16, zf_7_17, zf_7_18, zln_9, zln_10, zln_15, zln_16, zln_17, zln_18, zln_19, zln_20, zln_21, zln_11, zln_12, zln_13, zln_14, zchild, zcnt, zc1b, zble, zbeq, z_push, z_ild, z_ald, z_ist, z_ast, z_inc, z_bin, z_dvn, z_un, z_dup, z_dup2, z_pop, z_if, z_cmp, z_ifnull, z_pnull, z_acn, z_gf, z_gfn, z_pf, z_pfz, z_pfr, z_iald, z_iast, z_aald, z_alen, z_ret, z_invV, z_invS, z_invH, z_throw, z_sw, zup_r, hb, hl, u1, Int32.not_lt.mp u1]
          exact hk m rfl _ _ ⟨rfl, _, Or.inr ⟨_, by omega, by omega, rfl, hK⟩⟩
      · rw [if_neg hl] at hK
        simp [zb_X7_requireSupply_8, zsp, zin, znth, ztake, zset, zcont, zcontH, zf_0_0, zf_0_2, zf_1_0, zf_1_1, zf_1_2, zf_1_3, zf_1_4, zf_2_0, zf_2_1, zf_2_2, zf_2_3, zf_2_4, zf_3_0, zf_3_1, zf_3_2, zf_3_3, zf_3_4, zf_3_5, zf_3_6, zf_3_7, zf_3_8, zf_3_9, zf_3_10, zf_4_0, zf_4_1, zf_4_2, zf_4_3, zf_4_4, zf_5_0, zf_5_1, zf_5_2, zf_5_3, zf_5_4, zf_5_5, zf_6_0, zf_6_1, zf_6_2, zf_7_0, zf_7_1, zf_7_2, zf_7_3, zf_7_4, zf_7_5, zf_7_6, zf_7_7, zf_7_8, zf_7_9, zf_7_10, zf_7_11, zf_7_12, zf_7_13, zf_7_14, zf_7_15, zf_7_16, zf_7_17, zf_7_18, zln_9, zln_10, zln_15, zln_16, zln_17, zln_18, zln_19, zln_20, zln_21, zln_11, zln_12, zln_13, zln_14, zchild, zcnt, zc1b, zble, zbeq, z_push, z_ild, z_ald, z_ist, z_ast, z_inc, z_bin, z_dvn, z_un, z_dup, z_dup2, z_pop, z_if, z_cmp, z_ifnull, z_pnull, z_acn, z_gf, z_gfn, z_pf, z_pfz, z_pfr, z_iald, z_iast, z_aald, z_alen, z_ret, z_invV, z_invS, z_invH, z_throw, z_sw, zup_r, hb, hl]
        exact hK
  simp [sp_X7_requireSupply, zb_X7_requireSupply_0, zsp, zin, znth, ztake, zset, zcont, zcontH, zf_0_0, zf_0_2, zf_1_0, zf_1_1, zf_1_2, zf_1_3, zf_1_4, zf_2_0, zf_2_1, zf_2_2, zf_2_3, zf_2_4, zf_3_0, zf_3_1, zf_3_2, zf_3_3, zf_3_4, zf_3_5, zf_3_6, zf_3_7, zf_3_8, zf_3_9, zf_3_10, zf_4_0, zf_4_1, zf_4_2, zf_4_3, zf_4_4, zf_5_0, zf_5_1, zf_5_2, zf_5_3, zf_5_4, zf_5_5, zf_6_0, zf_6_1, zf_6_2, zf_7_0, zf_7_1, zf_7_2, zf_7_3, zf_7_4, zf_7_5, zf_7_6, zf_7_7, zf_7_8, zf_7_9, zf_7_10, zf_7_11, zf_7_12, zf_7_13, zf_7_14, zf_7_15, zf_7_16, zf_7_17, zf_7_18, zln_9, zln_10, zln_15, zln_16, zln_17, zln_18, zln_19, zln_20, zln_21, zln_11, zln_12, zln_13, zln_14, zchild, zcnt, zc1b, zble, zbeq, z_push, z_ild, z_ald, z_ist, z_ast, z_inc, z_bin, z_dvn, z_un, z_dup, z_dup2, z_pop, z_if, z_cmp, z_ifnull, z_pnull, z_acn, z_gf, z_gfn, z_pf, z_pfz, z_pfr, z_iald, z_iast, z_aald, z_alen, z_ret, z_invV, z_invS, z_invH, z_throw, z_sw, zup_r]
  exact loop
theorem zrow9_s (S : ZS) (g e : Nat) (G : Nat → Int32) (v : Int32) : zup (zrow9 S g G) 9 e g v = zrow9 S g (zg1 G e v) := by
  funext k i f
  by_cases h1 : k = 9
  · subst h1
    by_cases h2 : f = g
    · subst h2
      simp [zup, zrow9, zg1]
    · simp [zup, zrow9, h2]
  · simp [zup, zrow9, h1]
theorem zrow27_s (S : ZS) (g e : Nat) (G : Nat → Int32) (v : Int32) (hg : g < 6) (he : e < 6) : zup (zrow27 S g G) 22 27 (6 * e + g) v = zrow27 S g (zg1 G e v) := by
  funext k r j
  by_cases h1 : k = 22
  · subst h1
    by_cases h2 : r = 27
    · subst h2
      by_cases h3 : j = 6 * e + g
      · subst h3
        have a1 : (6 * e + g) % 6 = g := by omega
        have a2 : (6 * e + g) / 6 = e := by omega
        have a3 : 6 * e + g < 36 := by omega
        simp [zup, zrow27, zg1, a1, a2, a3]
      · have a : (j % 6 = g ∧ j < 36) → ¬ j / 6 = e := fun h h' => h3 (by omega)
        by_cases h4 : j % 6 = g ∧ j < 36
        · simp [zup, zrow27, zg1, h3, h4, a h4]
        · simp [zup, zrow27, zg1, h3, h4]
    · simp [zup, zrow27, h2]
  · simp [zup, zrow27, h1]
set_option maxRecDepth 20000 in
set_option maxHeartbeats 1000000 in
theorem p_X7_supply {S : ZS} {K : ZK} (hn : nD S ≤ 6) (hch : zch S) (b d : Int32) (s : Nat) (hb : vp_in b 6) (he0 : (S 6 s 1).toNatClampNeg < nD S)
    (hK : K (.inl none) (zup (zup (zrow9 S b.toNatClampNeg (zgv (fun i => S 0 i 1) ((S 6 s 1).toNatClampNeg + 1) (S 6 s 1).toNatClampNeg d (fun i => S 9 i b.toNatClampNeg))) 5 (6 * s + b.toNatClampNeg) 0 (S 5 (6 * s + b.toNatClampNeg) 0 + d)) 5 (6 * s + b.toNatClampNeg) 3 (S 5 (6 * s + b.toNatClampNeg) 3 + d))) : sp_X7_supply [zr 6 s, zi b, zi d] S K := by
  have hb1 := (vp_clamp (by decide) hb).1
  have fin : ∀ (G : Nat → Int32) (w : Int32) (x y : Option ZV), K (.inl none) (zup (zup (zrow9 S b.toNatClampNeg G) 5 (6 * s + b.toNatClampNeg) 0 (S 5 (6 * s + b.toNatClampNeg) 0 + d)) 5 (6 * s + b.toNatClampNeg) 3 (S 5 (6 * s + b.toNatClampNeg) 3 + d)) → zb_X7_supply_57 [some (zr 6 s), some (zi b), some (zi d), some (zi w), x, y] [] (zrow9 S b.toNatClampNeg G) K := by
    intro G w x y hK
    have z1 : ∀ f, zrow9 S b.toNatClampNeg G 5 (6 * s + b.toNatClampNeg) f = S 5 (6 * s + b.toNatClampNeg) f := fun f => rfl
    simp [zb_X7_supply_57, zsp, zin, znth, ztake, zset, zcont, zcontH, zf_0_0, zf_0_2, zf_1_0, zf_1_1, zf_1_2, zf_1_3, zf_1_4, zf_2_0, zf_2_1, zf_2_2, zf_2_3, zf_2_4, zf_3_0, zf_3_1, zf_3_2, zf_3_3, zf_3_4, zf_3_5, zf_3_6, zf_3_7, zf_3_8, zf_3_9, zf_3_10, zf_4_0, zf_4_1, zf_4_2, zf_4_3, zf_4_4, zf_5_0, zf_5_1, zf_5_2, zf_5_3, zf_5_4, zf_5_5, zf_6_0, zf_6_1, zf_6_2, zf_7_0, zf_7_1, zf_7_2, zf_7_3, zf_7_4, zf_7_5, zf_7_6, zf_7_7, zf_7_8, zf_7_9, zf_7_10, zf_7_11, zf_7_12, zf_7_13, zf_7_14, zf_7_15, zf_7_16, zf_7_17, zf_7_18, zln_9, zln_10, zln_15, zln_16, zln_17, zln_18, zln_19, zln_20, zln_21, zln_11, zln_12, zln_13, zln_14, zchild, zcnt, zc1b, zble, zbeq, z_push, z_ild, z_ald, z_ist, z_ast, z_inc, z_bin, z_dvn, z_un, z_dup, z_dup2, z_pop, z_if, z_cmp, z_ifnull, z_pnull, z_acn, z_gf, z_gfn, z_pf, z_pfz, z_pfr, z_iald, z_iast, z_aald, z_alen, z_ret, z_invV, z_invS, z_invH, z_throw, z_sw, zup_r, hb, hb1, z1]
    exact hK
  have loop : z_loop (fun J8 => zb_X7_supply_8 J8) [some (zr 6 s), some (zi b), some (zi d), some (zi d), some (zr 0 (S 6 s 1).toNatClampNeg), none] [] S K := by
    refine z_loop_P (m := (S 6 s 1).toNatClampNeg + 1) (fun m L S' => ∃ w G y, S' = zrow9 S b.toNatClampNeg G ∧ ((L = [some (zr 6 s), some (zi b), some (zi d), some (zi w), some zn, y] ∧ K (.inl none) (zup (zup (zrow9 S b.toNatClampNeg G) 5 (6 * s + b.toNatClampNeg) 0 (S 5 (6 * s + b.toNatClampNeg) 0 + d)) 5 (6 * s + b.toNatClampNeg) 3 (S 5 (6 * s + b.toNatClampNeg) 3 + d))) ∨ (∃ e, e < m ∧ e < nD S ∧ L = [some (zr 6 s), some (zi b), some (zi d), some (zi w), some (zr 0 e), y] ∧ K (.inl none) (zup (zup (zrow9 S b.toNatClampNeg (zgv (fun i => S 0 i 1) m e w G)) 5 (6 * s + b.toNatClampNeg) 0 (S 5 (6 * s + b.toNatClampNeg) 0 + d)) 5 (6 * s + b.toNatClampNeg) 3 (S 5 (6 * s + b.toNatClampNeg) 3 + d))))) ?_ ⟨d, fun i => S 9 i b.toNatClampNeg, none, ?_, Or.inr ⟨_, by omega, he0, rfl, hK⟩⟩
    · rintro m L S' ⟨w, G, y, rfl, ⟨rfl, hK⟩ | ⟨e, hm, he, rfl, hK⟩⟩ k hk
      · have := fin G w (some zn) y hK
        simp [zb_X7_supply_8, zsp, zin, znth, ztake, zset, zcont, zcontH, zf_0_0, zf_0_2, zf_1_0, zf_1_1, zf_1_2, zf_1_3, zf_1_4, zf_2_0, zf_2_1, zf_2_2, zf_2_3, zf_2_4, zf_3_0, zf_3_1, zf_3_2, zf_3_3, zf_3_4, zf_3_5, zf_3_6, zf_3_7, zf_3_8, zf_3_9, zf_3_10, zf_4_0, zf_4_1, zf_4_2, zf_4_3, zf_4_4, zf_5_0, zf_5_1, zf_5_2, zf_5_3, zf_5_4, zf_5_5, zf_6_0, zf_6_1, zf_6_2, zf_7_0, zf_7_1, zf_7_2, zf_7_3, zf_7_4, zf_7_5, zf_7_6, zf_7_7, zf_7_8, zf_7_9, zf_7_10, zf_7_11, zf_7_12, zf_7_13, zf_7_14, zf_7_15, zf_7_16, zf_7_17, zf_7_18, zln_9, zln_10, zln_15, zln_16, zln_17, zln_18, zln_19, zln_20, zln_21, zln_11, zln_12, zln_13, zln_14, zchild, zcnt, zc1b, zble, zbeq, z_push, z_ild, z_ald, z_ist, z_ast, z_inc, z_bin, z_dvn, z_un, z_dup, z_dup2, z_pop, z_if, z_cmp, z_ifnull, z_pnull, z_acn, z_gf, z_gfn, z_pf, z_pfz, z_pfr, z_iald, z_iast, z_aald, z_alen, z_ret, z_invV, z_invS, z_invH, z_throw, z_sw, zup_r]
        exact this
      · obtain ⟨m, rfl⟩ : ∃ m', m = m' + 1 := ⟨m - 1, by omega⟩
        rw [zgv] at hK
        have z0 : zrow9 S b.toNatClampNeg G 0 e 1 = S 0 e 1 := rfl
        have z9 : zrow9 S b.toNatClampNeg G 9 e b.toNatClampNeg = G e := if_pos ⟨rfl, rfl⟩
        by_cases h0 : w ≤ 0
        · rw [if_pos h0] at hK
          have := fin G w (some (zr 0 e)) y hK
          simp [zb_X7_supply_8, zsp, zin, znth, ztake, zset, zcont, zcontH, zf_0_0, zf_0_2, zf_1_0, zf_1_1, zf_1_2, zf_1_3, zf_1_4, zf_2_0, zf_2_1, zf_2_2, zf_2_3, zf_2_4, zf_3_0, zf_3_1, zf_3_2, zf_3_3, zf_3_4, zf_3_5, zf_3_6, zf_3_7, zf_3_8, zf_3_9, zf_3_10, zf_4_0, zf_4_1, zf_4_2, zf_4_3, zf_4_4, zf_5_0, zf_5_1, zf_5_2, zf_5_3, zf_5_4, zf_5_5, zf_6_0, zf_6_1, zf_6_2, zf_7_0, zf_7_1, zf_7_2, zf_7_3, zf_7_4, zf_7_5, zf_7_6, zf_7_7, zf_7_8, zf_7_9, zf_7_10, zf_7_11, zf_7_12, zf_7_13, zf_7_14, zf_7_15, zf_7_16, zf_7_17, zf_7_18, zln_9, zln_10, zln_15, zln_16, zln_17, zln_18, zln_19, zln_20, zln_21, zln_11, zln_12, zln_13, zln_14, zchild, zcnt, zc1b, zble, zbeq, z_push, z_ild, z_ald, z_ist, z_ast, z_inc, z_bin, z_dvn, z_un, z_dup, z_dup2, z_pop, z_if, z_cmp, z_ifnull, z_pnull, z_acn, z_gf, z_gfn, z_pf, z_pfz, z_pfr, z_iald, z_iast, z_aald, z_alen, z_ret, z_invV, z_invS, z_invH, z_throw, z_sw, zup_r, h0]
          exact this
        · rw [if_neg h0] at hK
          rcases hch e he with ⟨u1, u2⟩ | ⟨u1, u2, u3⟩
          · rw [if_pos u1] at hK
            simp [zb_X7_supply_8, zsp, zin, znth, ztake, zset, zcont, zcontH, zf_0_0, zf_0_2, zf_1_0, zf_1_1, zf_1_2, zf_1_3, zf_1_4, zf_2_0, zf_2_1, zf_2_2, zf_2_3, zf_2_4, zf_3_0, zf_3_1, zf_3_2, zf_3_3, zf_3_4, zf_3_5, zf_3_6, zf_3_7, zf_3_8, zf_3_9, zf_3_10, zf_4_0, zf_4_1, zf_4_2, zf_4_3, zf_4_4, zf_5_0, zf_5_1, zf_5_2, zf_5_3, zf_5_4, zf_5_5, zf_6_0, zf_6_1, zf_6_2, zf_7_0, zf_7_1, zf_7_2, zf_7_3, zf_7_4, zf_7_5, zf_7_6, zf_7_7, zf_7_8, zf_7_9, zf_7_10, zf_7_11, zf_7_12, zf_7_13, zf_7_14, zf_7_15, zf_7_16, zf_7_17, zf_7_18, zln_9, zln_10, zln_15, zln_16, zln_17, zln_18, zln_19, zln_20, zln_21, zln_11, zln_12, zln_13, zln_14, zchild, zcnt, zc1b, zble, zbeq, z_push, z_ild, z_ald, z_ist, z_ast, z_inc, z_bin, z_dvn, z_un, z_dup, z_dup2, z_pop, z_if, z_cmp, z_ifnull, z_pnull, z_acn, z_gf, z_gfn, z_pf, z_pfz, z_pfr, z_iald, z_iast, z_aald, z_alen, z_ret, z_invV, z_invS, z_invH, z_throw, z_sw, zup_r, z_mm, hb, h0, z0, z9, u1, Int32.not_le.mpr u1]
            have := hk m rfl _ _ ⟨w - zmn w (G e), _, some (zi (zmn w (G e))), rfl, Or.inl ⟨rfl, hK⟩⟩
            rw [← zrow9_s] at this
            exact this
          · rw [if_neg u1] at hK
            simp [zb_X7_supply_8, zsp, zin, znth, ztake, zset, zcont, zcontH, zf_0_0, zf_0_2, zf_1_0, zf_1_1, zf_1_2, zf_1_3, zf_1_4, zf_2_0, zf_2_1, zf_2_2, zf_2_3, zf_2_4, zf_3_0, zf_3_1, zf_3_2, zf_3_3, zf_3_4, zf_3_5, zf_3_6, zf_3_7, zf_3_8, zf_3_9, zf_3_10, zf_4_0, zf_4_1, zf_4_2, zf_4_3, zf_4_4, zf_5_0, zf_5_1, zf_5_2, zf_5_3, zf_5_4, zf_5_5, zf_6_0, zf_6_1, zf_6_2, zf_7_0, zf_7_1, zf_7_2, zf_7_3, zf_7_4, zf_7_5, zf_7_6, zf_7_7, zf_7_8, zf_7_9, zf_7_10, zf_7_11, zf_7_12, zf_7_13, zf_7_14, zf_7_15, zf_7_16, zf_7_17, zf_7_18, zln_9, zln_10, zln_15, zln_16, zln_17, zln_18, zln_19, zln_20, zln_21, zln_11, zln_12, zln_13, zln_14, zchild, zcnt, zc1b, zble, zbeq, z_push, z_ild, z_ald, z_ist, z_ast, z_inc, z_bin, z_dvn, z_un, z_dup, z_dup2, z_pop, z_if, z_cmp, z_ifnull, z_pnull, z_acn, z_gf, z_gfn, z_pf, z_pfz, z_pfr, z_iald, z_iast, z_aald, z_alen, z_ret, z_invV, z_invS, z_invH, z_throw, z_sw, zup_r, z_mm, hb, h0, z0, z9, u1, Int32.not_lt.mp u1]
            have := hk m rfl _ _ ⟨w - zmn w (G e), _, some (zi (zmn w (G e))), rfl, Or.inr ⟨_, by omega, by omega, rfl, hK⟩⟩
            rw [← zrow9_s] at this
            exact this
    · funext k i f
      unfold zrow9
      by_cases h : k = 9 ∧ f = b.toNatClampNeg
      · rw [if_pos h, h.1, h.2]
      · rw [if_neg h]
  simp [sp_X7_supply, zb_X7_supply_0, zsp, zin, znth, ztake, zset, zcont, zcontH, zf_0_0, zf_0_2, zf_1_0, zf_1_1, zf_1_2, zf_1_3, zf_1_4, zf_2_0, zf_2_1, zf_2_2, zf_2_3, zf_2_4, zf_3_0, zf_3_1, zf_3_2, zf_3_3, zf_3_4, zf_3_5, zf_3_6, zf_3_7, zf_3_8, zf_3_9, zf_3_10, zf_4_0, zf_4_1, zf_4_2, zf_4_3, zf_4_4, zf_5_0, zf_5_1, zf_5_2, zf_5_3, zf_5_4, zf_5_5, zf_6_0, zf_6_1, zf_6_2, zf_7_0, zf_7_1, zf_7_2, zf_7_3, zf_7_4, zf_7_5, zf_7_6, zf_7_7, zf_7_8, zf_7_9, zf_7_10, zf_7_11, zf_7_12, zf_7_13, zf_7_14, zf_7_15, zf_7_16, zf_7_17, zf_7_18, zln_9, zln_10, zln_15, zln_16, zln_17, zln_18, zln_19, zln_20, zln_21, zln_11, zln_12, zln_13, zln_14, zchild, zcnt, zc1b, zble, zbeq, z_push, z_ild, z_ald, z_ist, z_ast, z_inc, z_bin, z_dvn, z_un, z_dup, z_dup2, z_pop, z_if, z_cmp, z_ifnull, z_pnull, z_acn, z_gf, z_gfn, z_pf, z_pfz, z_pfr, z_iald, z_iast, z_aald, z_alen, z_ret, z_invV, z_invS, z_invH, z_throw, z_sw, zup_r]
  exact loop
