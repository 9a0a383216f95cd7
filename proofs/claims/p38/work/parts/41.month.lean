/-- a kind's things below n, otherwise -/
def zmp (S : ZS) (k n : Nat) (F : Nat → Nat → Int32) : ZS := fun k' i f => if k' = k ∧ i < n then F i f else S k' i f
/-- rows' places below n, otherwise -/
def zmq (S : ZS) (n : Nat) (G : Nat → Nat → Nat → Int32) : ZS := fun k r j => if (k = 22 ∨ k = 23) ∧ j < n then G k r j else S k r j
theorem zmp_0 (S : ZS) (k : Nat) (F : Nat → Nat → Int32) : zmp S k 0 F = S := by
  funext k' i f
  exact if_neg (by omega)
theorem zmq_0 (S : ZS) (G : Nat → Nat → Nat → Int32) : zmq S 0 G = S := by
  funext k' i f
  exact if_neg (by omega)
theorem zmp_s {S T : ZS} {k n : Nat} {F : Nat → Nat → Int32} (h1 : ∀ f, T k n f = F n f) (h2 : ∀ k' i f, ¬ (k' = k ∧ i = n) → T k' i f = zmp S k n F k' i f) : T = zmp S k (n + 1) F := by
  funext k' i f
  by_cases h : k' = k ∧ i = n
  · obtain ⟨rfl, rfl⟩ := h
    rw [h1]
    exact (if_pos ⟨rfl, by omega⟩).symm
  · rw [h2 k' i f h]
    have : (k' = k ∧ i < n) ↔ (k' = k ∧ i < n + 1) := by omega
    simp only [zmp, this]
theorem zmq_s {S T : ZS} {n : Nat} {G : Nat → Nat → Nat → Int32} (h1 : ∀ r, T 22 r n = G 22 r n) (h3 : ∀ r, T 23 r n = G 23 r n) (h2 : ∀ k r j, ¬ ((k = 22 ∨ k = 23) ∧ j = n) → T k r j = zmq S n G k r j) : T = zmq S (n + 1) G := by
  funext k r j
  by_cases h : (k = 22 ∨ k = 23) ∧ j = n
  · obtain ⟨h4, rfl⟩ := h
    rcases h4 with rfl | rfl
    · rw [h1]
      exact (if_pos ⟨Or.inl rfl, by omega⟩).symm
    · rw [h3]
      exact (if_pos ⟨Or.inr rfl, by omega⟩).symm
  · rw [h2 k r j h]
    have : ((k = 22 ∨ k = 23) ∧ j < n) ↔ ((k = 22 ∨ k = 23) ∧ j < n + 1) := by omega
    simp only [zmq, this]
/-- a farm behind the month -/
def zff (S : ZS) (i f : Nat) : Int32 := if f = 3 then 0 else if f = 4 then (if S 1 i 3 < S 1 i 2 then S 1 i 4 + 1 else S 1 i 4) else S 1 i f
set_option maxRecDepth 20000 in
set_option maxHeartbeats 1000000 in
theorem p_X7_farms {S : ZS} {K : ZK} (h9 : S 7 0 10 = nI (nF S)) (hn : nF S ≤ 6) (hK : K (.inl none) (zmp S 1 (nF S) (zff S))) : sp_X7_closeFarms [zr 7 0] S K := by
  have loop : z_loop (fun J2 => zb_X7_closeFarms_2 J2) [some (zr 7 0), some (zi (nI 0)), none] [] S K := by
    refine z_loop_P (m := nF S) (fun m L S' => ∃ i y, i + m = nF S ∧ S' = zmp S 1 i (zff S) ∧ L = [some (zr 7 0), some (zi (nI i)), y]) ?_ ⟨0, none, by omega, (zmp_0 S 1 (zff S)).symm, rfl⟩
    rintro m L S' ⟨i, y, hm, rfl, rfl⟩ k hk
    have z7 : ∀ f, zmp S 1 i (zff S) 7 0 f = S 7 0 f := fun f => rfl
    rcases m with _ | m
    · obtain rfl : i = nF S := by omega
      simp [zb_X7_closeFarms_2, zsp, zin, znth, ztake, zset, zcont, zcontH, zf_0_0, zf_0_2, zf_1_0, zf_1_1, zf_1_2, zf_1_3, zf_1_4, zf_2_0, zf_2_1, zf_2_2, zf_2_3, zf_2_4, zf_3_0, zf_3_1, zf_3_2, zf_3_3, zf_3_4, zf_3_5, zf_3_6, zf_3_7, zf_3_8, zf_3_9, zf_3_10, zf_4_0, zf_4_1, zf_4_2, zf_4_3, zf_4_4, zf_5_0, zf_5_1, zf_5_2, zf_5_3, zf_5_4, zf_5_5, zf_6_0, zf_6_1, zf_6_2, zf_7_0, zf_7_1, zf_7_2, zf_7_3, zf_7_4, zf_7_5, zf_7_6, zf_7_7, zf_7_8, zf_7_9, zf_7_10, zf_7_11, zf_7_12, zf_7_13, zf_7_14, zf_7_15, zf_7_16, zf_7_17, zf_7_18, zln_9, zln_10, zln_15, zln_16, zln_17, zln_18, zln_19, zln_20, zln_21, zln_11, zln_12, zln_13, zln_14, zchild, zcnt, zc1b, zble, zbeq, z_push, z_ild, z_ald, z_ist, z_ast, z_inc, z_bin, z_dvn, z_un, z_dup, z_dup2, z_pop, z_if, z_cmp, z_ifnull, z_pnull, z_acn, z_gf, z_gfn, z_pf, z_pfz, z_pfr, z_iald, z_iast, z_aald, z_alen, z_ret, z_invV, z_invS, z_invH, z_throw, z_sw, zup_r, h9, z7]
      exact hK
    · have hi : i < nF S := by omega
      have e1 : nI i + 1 = nI (i + 1) := nI_add i 1
      have z1 : ∀ f, zmp S 1 i (zff S) 1 i f = S 1 i f := fun f => if_neg (by omega)
      have zc : nF (zmp S 1 i (zff S)) = nF S := rfl
      by_cases hl : S 1 i 3 < S 1 i 2
      · have key := hk m rfl _ _ ⟨i + 1, some (zr 1 i), by omega, rfl, rfl⟩
        rw [← zmp_s (T := zup (zup (zmp S 1 i (zff S)) 1 i 4 (S 1 i 4 + 1)) 1 i 3 0) (fun f => by
          by_cases f3 : f = 3
          · simp [zup, zff, f3]
          · by_cases f4 : f = 4
            · simp [zup, zff, f4, hl]
            · simp [zup, zff, f3, f4, z1]) (fun k' j f h => by
          have h5 : ∀ x, ¬ (k' = 1 ∧ j = i ∧ f = x) := fun x h' => h ⟨h'.1, h'.2.1⟩
          simp [zup, h5])] at key
        simp [zb_X7_closeFarms_2, zb_X7_closeFarms_38, zsp, zin, znth, ztake, zset, zcont, zcontH, zf_0_0, zf_0_2, zf_1_0, zf_1_1, zf_1_2, zf_1_3, zf_1_4, zf_2_0, zf_2_1, zf_2_2, zf_2_3, zf_2_4, zf_3_0, zf_3_1, zf_3_2, zf_3_3, zf_3_4, zf_3_5, zf_3_6, zf_3_7, zf_3_8, zf_3_9, zf_3_10, zf_4_0, zf_4_1, zf_4_2, zf_4_3, zf_4_4, zf_5_0, zf_5_1, zf_5_2, zf_5_3, zf_5_4, zf_5_5, zf_6_0, zf_6_1, zf_6_2, zf_7_0, zf_7_1, zf_7_2, zf_7_3, zf_7_4, zf_7_5, zf_7_6, zf_7_7, zf_7_8, zf_7_9, zf_7_10, zf_7_11, zf_7_12, zf_7_13, zf_7_14, zf_7_15, zf_7_16, zf_7_17, zf_7_18, zln_9, zln_10, zln_15, zln_16, zln_17, zln_18, zln_19, zln_20, zln_21, zln_11, zln_12, zln_13, zln_14, zchild, zcnt, zc1b, zble, zbeq, z_push, z_ild, z_ald, z_ist, z_ast, z_inc, z_bin, z_dvn, z_un, z_dup, z_dup2, z_pop, z_if, z_cmp, z_ifnull, z_pnull, z_acn, z_gf, z_gfn, z_pf, z_pfz, z_pfr, z_iald, z_iast, z_aald, z_alen, z_ret, z_invV, z_invS, z_invH, z_throw, z_sw, zup_r, h9, z7, zc, zle_n hi (show nF S < 2147483648 by omega), vp_in_nI (show i < 6 by omega) (show 6 < 2147483648 by decide), nI_clamp (show i < 2 ^ 31 by omega), hi, z1, hl, Int32.not_le.mpr hl, e1]
        exact key
      · have key := hk m rfl _ _ ⟨i + 1, some (zr 1 i), by omega, rfl, rfl⟩
        rw [← zmp_s (T := zup (zmp S 1 i (zff S)) 1 i 3 0) (fun f => by
          by_cases f3 : f = 3
          · simp [zup, zff, f3]
          · by_cases f4 : f = 4
            · simp [zup, zff, f4, hl, z1]
            · simp [zup, zff, f3, f4, z1]) (fun k' j f h => by
          have h5 : ∀ x, ¬ (k' = 1 ∧ j = i ∧ f = x) := fun x h' => h ⟨h'.1, h'.2.1⟩
          simp [zup, h5])] at key
        simp [zb_X7_closeFarms_2, zb_X7_closeFarms_38, zsp, zin, znth, ztake, zset, zcont, zcontH, zf_0_0, zf_0_2, zf_1_0, zf_1_1, zf_1_2, zf_1_3, zf_1_4, zf_2_0, zf_2_1, zf_2_2, zf_2_3, zf_2_4, zf_3_0, zf_3_1, zf_3_2, zf_3_3, zf_3_4, zf_3_5, zf_3_6, zf_3_7, zf_3_8, zf_3_9, zf_3_10, zf_4_0, zf_4_1, zf_4_2, zf_4_3, zf_4_4, zf_5_0, zf_5_1, zf_5_2, zf_5_3, zf_5_4, zf_5_5, zf_6_0, zf_6_1, zf_6_2, zf_7_0, zf_7_1, zf_7_2, zf_7_3, zf_7_4, zf_7_5, zf_7_6, zf_7_7, zf_7_8, zf_7_9, zf_7_10, zf_7_11, zf_7_12, zf_7_13, zf_7_14, zf_7_15, zf_7_16, zf_7_17, zf_7_18, zln_9, zln_10, zln_15, zln_16, zln_17, zln_18, zln_19, zln_20, zln_21, zln_11, zln_12, zln_13, zln_14, zchild, zcnt, zc1b, zble, zbeq, z_push, z_ild, z_ald, z_ist, z_ast, z_inc, z_bin, z_dvn, z_un, z_dup, z_dup2, z_pop, z_if, z_cmp, z_ifnull, z_pnull, z_acn, z_gf, z_gfn, z_pf, z_pfz, z_pfr, z_iald, z_iast, z_aald, z_alen, z_ret, z_invV, z_invS, z_invH, z_throw, z_sw, zup_r, h9, z7, zc, zle_n hi (show nF S < 2147483648 by omega), vp_in_nI (show i < 6 by omega) (show 6 < 2147483648 by decide), nI_clamp (show i < 2 ^ 31 by omega), hi, z1, hl, Int32.not_lt.mp hl, e1]
        exact key
  simp [sp_X7_closeFarms, zb_X7_closeFarms_0, zsp, zin, znth, ztake, zset, zcont, zcontH, zf_0_0, zf_0_2, zf_1_0, zf_1_1, zf_1_2, zf_1_3, zf_1_4, zf_2_0, zf_2_1, zf_2_2, zf_2_3, zf_2_4, zf_3_0, zf_3_1, zf_3_2, zf_3_3, zf_3_4, zf_3_5, zf_3_6, zf_3_7, zf_3_8, zf_3_9, zf_3_10, zf_4_0, zf_4_1, zf_4_2, zf_4_3, zf_4_4, zf_5_0, zf_5_1, zf_5_2, zf_5_3, zf_5_4, zf_5_5, zf_6_0, zf_6_1, zf_6_2, zf_7_0, zf_7_1, zf_7_2, zf_7_3, zf_7_4, zf_7_5, zf_7_6, zf_7_7, zf_7_8, zf_7_9, zf_7_10, zf_7_11, zf_7_12, zf_7_13, zf_7_14, zf_7_15, zf_7_16, zf_7_17, zf_7_18, zln_9, zln_10, zln_15, zln_16, zln_17, zln_18, zln_19, zln_20, zln_21, zln_11, zln_12, zln_13, zln_14, zchild, zcnt, zc1b, zble, zbeq, z_push, z_ild, z_ald, z_ist, z_ast, z_inc, z_bin, z_dvn, z_un, z_dup, z_dup2, z_pop, z_if, z_cmp, z_ifnull, z_pnull, z_acn, z_gf, z_gfn, z_pf, z_pfz, z_pfr, z_iald, z_iast, z_aald, z_alen, z_ret, z_invV, z_invS, z_invH, z_throw, z_sw, zup_r]
  exact loop
/-- what is left of a good by a person -/
def zle1 (S : ZS) (p g : Nat) : Int32 := zgl (S 2 g 0) (S 3 p 6) (S 3 p 4) (S 2 g 1) (zq (S 3 p 1)) (S 10 p g)
def zlks (S : ZS) (p : Nat) : Nat → Bool
  | 0 => false
  | g + 1 => zlks S p g || decide (S 5 (6 * (S 3 p 2).toNatClampNeg + g) 0 < zle1 S p g)
def zfal (S : ZS) (p : Nat) : Int32 := if S 3 p 6 = 0 then (if zlks S p 6 = true then 1 else 2) else 0
theorem zlks_mono {S : ZS} {p : Nat} : ∀ {n m : Nat}, n ≤ m → zlks S p n = true → zlks S p m = true
  | n, 0, h, h1 => by
    cases (show n = 0 by omega)
    exact h1
  | n, m + 1, h, h1 => by
    by_cases e : n = m + 1
    · subst e
      exact h1
    · rw [zlks, zlks_mono (n := n) (m := m) (by omega) h1]
      rfl
set_option maxRecDepth 20000 in
set_option maxHeartbeats 1000000 in
theorem p_X7_nameOfFall {S : ZS} {K : ZK} {p : Nat} (hq : zbt (S 3 p 1) 0 3) (hr : (S 3 p 2).toNatClampNeg < nS S) (hK : K (.inl (some (.inl (zfal S p)))) S) : sp_X7_nameOfFall [zr 7 0, zr 3 p] S K := by
  by_cases h6 : S 3 p 6 = 0
  · rw [zfal, if_pos h6] at hK
    have loop : z_loop (fun J11 => zb_X7_nameOfFall_11 J11) [some (zr 7 0), some (zr 3 p), some (zi (nI 0))] [] S K := by
      refine z_loop_P (m := 6) (fun m L S' => ∃ g, g + m = 6 ∧ zlks S p g = false ∧ S' = S ∧ L = [some (zr 7 0), some (zr 3 p), some (zi (nI g))]) ?_ ⟨0, by omega, rfl, rfl, rfl⟩
      rintro m L S' ⟨g, hm, hf, rfl, rfl⟩ k hk
      rcases m with _ | m
      · obtain rfl : g = 6 := by omega
        have e2 : (6 : Int32) ≤ nI 6 := by decide
        rw [if_neg (by rw [hf]; decide)] at hK
        simp [zb_X7_nameOfFall_11, zsp, zin, znth, ztake, zset, zcont, zcontH, zf_0_0, zf_0_2, zf_1_0, zf_1_1, zf_1_2, zf_1_3, zf_1_4, zf_2_0, zf_2_1, zf_2_2, zf_2_3, zf_2_4, zf_3_0, zf_3_1, zf_3_2, zf_3_3, zf_3_4, zf_3_5, zf_3_6, zf_3_7, zf_3_8, zf_3_9, zf_3_10, zf_4_0, zf_4_1, zf_4_2, zf_4_3, zf_4_4, zf_5_0, zf_5_1, zf_5_2, zf_5_3, zf_5_4, zf_5_5, zf_6_0, zf_6_1, zf_6_2, zf_7_0, zf_7_1, zf_7_2, zf_7_3, zf_7_4, zf_7_5, zf_7_6, zf_7_7, zf_7_8, zf_7_9, zf_7_10, zf_7_11, zf_7_12, zf_7_13, zf_7_14, zf_7_15, zf_7_16, zf_7_17, zf_7_18, zln_9, zln_10, zln_15, zln_16, zln_17, zln_18, zln_19, zln_20, zln_21, zln_11, zln_12, zln_13, zln_14, zchild, zcnt, zc1b, zble, zbeq, z_push, z_ild, z_ald, z_ist, z_ast, z_inc, z_bin, z_dvn, z_un, z_dup, z_dup2, z_pop, z_if, z_cmp, z_ifnull, z_pnull, z_acn, z_gf, z_gfn, z_pf, z_pfz, z_pfr, z_iald, z_iast, z_aald, z_alen, z_ret, z_invV, z_invS, z_invH, z_throw, z_sw, zup_r, e2]
        exact hK
      · have e1 : nI g + 1 = nI (g + 1) := nI_add g 1
        have e2 : ¬ (6 : Int32) ≤ nI g := zle_n (show g < 6 by omega) (by decide)
        have e3 := vp_in_nI (show g < 6 by omega) (show 6 < 2147483648 by decide)
        have e4 := nI_clamp (show g < 2 ^ 31 by omega)
        have e5 : g < 6 := by omega
        by_cases hl : zle1 S' p g ≤ S' 5 (6 * (S' 3 p 2).toNatClampNeg + g) 0
        · have key := hk m rfl _ _ ⟨g + 1, by omega, by rw [zlks, hf, decide_eq_false (Int32.not_lt.mpr hl)]; rfl, rfl, rfl⟩
          unfold zle1 at hl
          simp [zb_X7_nameOfFall_11, zsp, zin, znth, ztake, zset, zcont, zcontH, zf_0_0, zf_0_2, zf_1_0, zf_1_1, zf_1_2, zf_1_3, zf_1_4, zf_2_0, zf_2_1, zf_2_2, zf_2_3, zf_2_4, zf_3_0, zf_3_1, zf_3_2, zf_3_3, zf_3_4, zf_3_5, zf_3_6, zf_3_7, zf_3_8, zf_3_9, zf_3_10, zf_4_0, zf_4_1, zf_4_2, zf_4_3, zf_4_4, zf_5_0, zf_5_1, zf_5_2, zf_5_3, zf_5_4, zf_5_5, zf_6_0, zf_6_1, zf_6_2, zf_7_0, zf_7_1, zf_7_2, zf_7_3, zf_7_4, zf_7_5, zf_7_6, zf_7_7, zf_7_8, zf_7_9, zf_7_10, zf_7_11, zf_7_12, zf_7_13, zf_7_14, zf_7_15, zf_7_16, zf_7_17, zf_7_18, zln_9, zln_10, zln_15, zln_16, zln_17, zln_18, zln_19, zln_20, zln_21, zln_11, zln_12, zln_13, zln_14, zchild, zcnt, zc1b, zble, zbeq, z_push, z_ild, z_ald, z_ist, z_ast, z_inc, z_bin, z_dvn, z_un, z_dup, z_dup2, z_pop, z_if, z_cmp, z_ifnull, z_pnull, z_acn, z_gf, z_gfn, z_pf, z_pfz, z_pfr, z_iald, z_iast, z_aald, z_alen, z_ret, z_invV, z_invS, z_invH, z_throw, z_sw, zup_r, e2, p_X7_gramsLeft hq e3, e3, e4, e5, hl, e1]
          exact key
        · rw [if_pos (zlks_mono (n := g + 1) (by omega) (by rw [zlks, decide_eq_true (Int32.not_le.mp hl), Bool.or_true]))] at hK
          unfold zle1 at hl
          simp [zb_X7_nameOfFall_11, zsp, zin, znth, ztake, zset, zcont, zcontH, zf_0_0, zf_0_2, zf_1_0, zf_1_1, zf_1_2, zf_1_3, zf_1_4, zf_2_0, zf_2_1, zf_2_2, zf_2_3, zf_2_4, zf_3_0, zf_3_1, zf_3_2, zf_3_3, zf_3_4, zf_3_5, zf_3_6, zf_3_7, zf_3_8, zf_3_9, zf_3_10, zf_4_0, zf_4_1, zf_4_2, zf_4_3, zf_4_4, zf_5_0, zf_5_1, zf_5_2, zf_5_3, zf_5_4, zf_5_5, zf_6_0, zf_6_1, zf_6_2, zf_7_0, zf_7_1, zf_7_2, zf_7_3, zf_7_4, zf_7_5, zf_7_6, zf_7_7, zf_7_8, zf_7_9, zf_7_10, zf_7_11, zf_7_12, zf_7_13, zf_7_14, zf_7_15, zf_7_16, zf_7_17, zf_7_18, zln_9, zln_10, zln_15, zln_16, zln_17, zln_18, zln_19, zln_20, zln_21, zln_11, zln_12, zln_13, zln_14, zchild, zcnt, zc1b, zble, zbeq, z_push, z_ild, z_ald, z_ist, z_ast, z_inc, z_bin, z_dvn, z_un, z_dup, z_dup2, z_pop, z_if, z_cmp, z_ifnull, z_pnull, z_acn, z_gf, z_gfn, z_pf, z_pfz, z_pfr, z_iald, z_iast, z_aald, z_alen, z_ret, z_invV, z_invS, z_invH, z_throw, z_sw, zup_r, e2, p_X7_gramsLeft hq e3, e3, e4, e5, hl, e1]
          exact hK
    simp [sp_X7_nameOfFall, zb_X7_nameOfFall_0, zsp, zin, znth, ztake, zset, zcont, zcontH, zf_0_0, zf_0_2, zf_1_0, zf_1_1, zf_1_2, zf_1_3, zf_1_4, zf_2_0, zf_2_1, zf_2_2, zf_2_3, zf_2_4, zf_3_0, zf_3_1, zf_3_2, zf_3_3, zf_3_4, zf_3_5, zf_3_6, zf_3_7, zf_3_8, zf_3_9, zf_3_10, zf_4_0, zf_4_1, zf_4_2, zf_4_3, zf_4_4, zf_5_0, zf_5_1, zf_5_2, zf_5_3, zf_5_4, zf_5_5, zf_6_0, zf_6_1, zf_6_2, zf_7_0, zf_7_1, zf_7_2, zf_7_3, zf_7_4, zf_7_5, zf_7_6, zf_7_7, zf_7_8, zf_7_9, zf_7_10, zf_7_11, zf_7_12, zf_7_13, zf_7_14, zf_7_15, zf_7_16, zf_7_17, zf_7_18, zln_9, zln_10, zln_15, zln_16, zln_17, zln_18, zln_19, zln_20, zln_21, zln_11, zln_12, zln_13, zln_14, zchild, zcnt, zc1b, zble, zbeq, z_push, z_ild, z_ald, z_ist, z_ast, z_inc, z_bin, z_dvn, z_un, z_dup, z_dup2, z_pop, z_if, z_cmp, z_ifnull, z_pnull, z_acn, z_gf, z_gfn, z_pf, z_pfz, z_pfr, z_iald, z_iast, z_aald, z_alen, z_ret, z_invV, z_invS, z_invH, z_throw, z_sw, zup_r, h6]
    exact loop
  · rw [zfal, if_neg h6] at hK
    simp [sp_X7_nameOfFall, zb_X7_nameOfFall_0, zsp, zin, znth, ztake, zset, zcont, zcontH, zf_0_0, zf_0_2, zf_1_0, zf_1_1, zf_1_2, zf_1_3, zf_1_4, zf_2_0, zf_2_1, zf_2_2, zf_2_3, zf_2_4, zf_3_0, zf_3_1, zf_3_2, zf_3_3, zf_3_4, zf_3_5, zf_3_6, zf_3_7, zf_3_8, zf_3_9, zf_3_10, zf_4_0, zf_4_1, zf_4_2, zf_4_3, zf_4_4, zf_5_0, zf_5_1, zf_5_2, zf_5_3, zf_5_4, zf_5_5, zf_6_0, zf_6_1, zf_6_2, zf_7_0, zf_7_1, zf_7_2, zf_7_3, zf_7_4, zf_7_5, zf_7_6, zf_7_7, zf_7_8, zf_7_9, zf_7_10, zf_7_11, zf_7_12, zf_7_13, zf_7_14, zf_7_15, zf_7_16, zf_7_17, zf_7_18, zln_9, zln_10, zln_15, zln_16, zln_17, zln_18, zln_19, zln_20, zln_21, zln_11, zln_12, zln_13, zln_14, zchild, zcnt, zc1b, zble, zbeq, z_push, z_ild, z_ald, z_ist, z_ast, z_inc, z_bin, z_dvn, z_un, z_dup, z_dup2, z_pop, z_if, z_cmp, z_ifnull, z_pnull, z_acn, z_gf, z_gfn, z_pf, z_pfz, z_pfr, z_iald, z_iast, z_aald, z_alen, z_ret, z_invV, z_invS, z_invH, z_throw, z_sw, zup_r, h6]
    exact hK
/-- a person behind the month -/
def znm (S : ZS) (p : Nat) : Int32 := if 400 * zq (S 3 p 1) ≤ S 3 p 9 then -1 else zfal S p
def zhe (S : ZS) (p : Nat) : Int32 := if 400 * zq (S 3 p 1) ≤ S 3 p 9 then (if S 3 p 4 + 3 < 100 then S 3 p 4 + 3 else 100) else zm0 (S 3 p 4 - (if 2 * S 3 p 9 < 400 * zq (S 3 p 1) then 20 else 5))
set_option maxRecDepth 20000 in
set_option maxHeartbeats 1000000 in
theorem p_X7_closePerson {S : ZS} {K : ZK} {p : Nat} (hq : zbt (S 3 p 1) 0 3) (hr : (S 3 p 2).toNatClampNeg < nS S) (hK : ∀ S', (S' = zup (zup S 3 p 4 (zhe S p)) 3 p 5 (znm S p)) → K (.inl none) S') : sp_X7_closePerson [zr 7 0, zr 3 p] S K := by
  have hs : ∀ a b, zup (zup S 3 p 5 a) 3 p 4 b = zup (zup S 3 p 4 b) 3 p 5 a := fun a b => by
    funext k i f
    unfold zup
    by_cases h : k = 3 ∧ i = p
    · by_cases h5 : f = 5
      · simp [h, h5]
      · simp [h, h5]
    · have h1 : ¬ (k = 3 ∧ i = p ∧ f = 4) := fun h' => h ⟨h'.1, h'.2.1⟩
      have h2 : ¬ (k = 3 ∧ i = p ∧ f = 5) := fun h' => h ⟨h'.1, h'.2.1⟩
      simp [h1, h2]
  by_cases h1 : 400 * zq (S 3 p 1) ≤ S 3 p 9
  · have := hK _ rfl
    rw [znm, zhe, if_pos h1, if_pos h1] at this
    simp [sp_X7_closePerson, zb_X7_closePerson_0, zsp, zin, znth, ztake, zset, zcont, zcontH, zf_0_0, zf_0_2, zf_1_0, zf_1_1, zf_1_2, zf_1_3, zf_1_4, zf_2_0, zf_2_1, zf_2_2, zf_2_3, zf_2_4, zf_3_0, zf_3_1, zf_3_2, zf_3_3, zf_3_4, zf_3_5, zf_3_6, zf_3_7, zf_3_8, zf_3_9, zf_3_10, zf_4_0, zf_4_1, zf_4_2, zf_4_3, zf_4_4, zf_5_0, zf_5_1, zf_5_2, zf_5_3, zf_5_4, zf_5_5, zf_6_0, zf_6_1, zf_6_2, zf_7_0, zf_7_1, zf_7_2, zf_7_3, zf_7_4, zf_7_5, zf_7_6, zf_7_7, zf_7_8, zf_7_9, zf_7_10, zf_7_11, zf_7_12, zf_7_13, zf_7_14, zf_7_15, zf_7_16, zf_7_17, zf_7_18, zln_9, zln_10, zln_15, zln_16, zln_17, zln_18, zln_19, zln_20, zln_21, zln_11, zln_12, zln_13, zln_14, zchild, zcnt, zc1b, zble, zbeq, z_push, z_ild, z_ald, z_ist, z_ast, z_inc, z_bin, z_dvn, z_un, z_dup, z_dup2, z_pop, z_if, z_cmp, z_ifnull, z_pnull, z_acn, z_gf, z_gfn, z_pf, z_pfz, z_pfr, z_iald, z_iast, z_aald, z_alen, z_ret, z_invV, z_invS, z_invH, z_throw, z_sw, zup_r, p_X3_quarters hq, h1, Int32.not_lt.mpr h1, z_mm]
    exact this
  · have := hK _ rfl
    rw [znm, zhe, if_neg h1, if_neg h1, ← hs] at this
    simp [sp_X7_closePerson, zb_X7_closePerson_0, zsp, zin, znth, ztake, zset, zcont, zcontH, zf_0_0, zf_0_2, zf_1_0, zf_1_1, zf_1_2, zf_1_3, zf_1_4, zf_2_0, zf_2_1, zf_2_2, zf_2_3, zf_2_4, zf_3_0, zf_3_1, zf_3_2, zf_3_3, zf_3_4, zf_3_5, zf_3_6, zf_3_7, zf_3_8, zf_3_9, zf_3_10, zf_4_0, zf_4_1, zf_4_2, zf_4_3, zf_4_4, zf_5_0, zf_5_1, zf_5_2, zf_5_3, zf_5_4, zf_5_5, zf_6_0, zf_6_1, zf_6_2, zf_7_0, zf_7_1, zf_7_2, zf_7_3, zf_7_4, zf_7_5, zf_7_6, zf_7_7, zf_7_8, zf_7_9, zf_7_10, zf_7_11, zf_7_12, zf_7_13, zf_7_14, zf_7_15, zf_7_16, zf_7_17, zf_7_18, zln_9, zln_10, zln_15, zln_16, zln_17, zln_18, zln_19, zln_20, zln_21, zln_11, zln_12, zln_13, zln_14, zchild, zcnt, zc1b, zble, zbeq, z_push, z_ild, z_ald, z_ist, z_ast, z_inc, z_bin, z_dvn, z_un, z_dup, z_dup2, z_pop, z_if, z_cmp, z_ifnull, z_pnull, z_acn, z_gf, z_gfn, z_pf, z_pfz, z_pfr, z_iald, z_iast, z_aald, z_alen, z_ret, z_invV, z_invS, z_invH, z_throw, z_sw, zup_r, p_X3_quarters hq, h1, Int32.not_le.mp h1, z_mm]
    refine p_X7_nameOfFall hq hr ?_
    by_cases h2 : 2 * S 3 p 9 < 400 * zq (S 3 p 1)
    · rw [if_pos h2] at this
      simp [zb_X7_closePerson_63, zsp, zin, znth, ztake, zset, zcont, zcontH, zf_0_0, zf_0_2, zf_1_0, zf_1_1, zf_1_2, zf_1_3, zf_1_4, zf_2_0, zf_2_1, zf_2_2, zf_2_3, zf_2_4, zf_3_0, zf_3_1, zf_3_2, zf_3_3, zf_3_4, zf_3_5, zf_3_6, zf_3_7, zf_3_8, zf_3_9, zf_3_10, zf_4_0, zf_4_1, zf_4_2, zf_4_3, zf_4_4, zf_5_0, zf_5_1, zf_5_2, zf_5_3, zf_5_4, zf_5_5, zf_6_0, zf_6_1, zf_6_2, zf_7_0, zf_7_1, zf_7_2, zf_7_3, zf_7_4, zf_7_5, zf_7_6, zf_7_7, zf_7_8, zf_7_9, zf_7_10, zf_7_11, zf_7_12, zf_7_13, zf_7_14, zf_7_15, zf_7_16, zf_7_17, zf_7_18, zln_9, zln_10, zln_15, zln_16, zln_17, zln_18, zln_19, zln_20, zln_21, zln_11, zln_12, zln_13, zln_14, zchild, zcnt, zc1b, zble, zbeq, z_push, z_ild, z_ald, z_ist, z_ast, z_inc, z_bin, z_dvn, z_un, z_dup, z_dup2, z_pop, z_if, z_cmp, z_ifnull, z_pnull, z_acn, z_gf, z_gfn, z_pf, z_pfz, z_pfr, z_iald, z_iast, z_aald, z_alen, z_ret, z_invV, z_invS, z_invH, z_throw, z_sw, zup_r, h2, Int32.not_le.mpr h2, z_mm, zm0_mx]
      exact this
    · rw [if_neg h2] at this
      simp [zb_X7_closePerson_63, zsp, zin, znth, ztake, zset, zcont, zcontH, zf_0_0, zf_0_2, zf_1_0, zf_1_1, zf_1_2, zf_1_3, zf_1_4, zf_2_0, zf_2_1, zf_2_2, zf_2_3, zf_2_4, zf_3_0, zf_3_1, zf_3_2, zf_3_3, zf_3_4, zf_3_5, zf_3_6, zf_3_7, zf_3_8, zf_3_9, zf_3_10, zf_4_0, zf_4_1, zf_4_2, zf_4_3, zf_4_4, zf_5_0, zf_5_1, zf_5_2, zf_5_3, zf_5_4, zf_5_5, zf_6_0, zf_6_1, zf_6_2, zf_7_0, zf_7_1, zf_7_2, zf_7_3, zf_7_4, zf_7_5, zf_7_6, zf_7_7, zf_7_8, zf_7_9, zf_7_10, zf_7_11, zf_7_12, zf_7_13, zf_7_14, zf_7_15, zf_7_16, zf_7_17, zf_7_18, zln_9, zln_10, zln_15, zln_16, zln_17, zln_18, zln_19, zln_20, zln_21, zln_11, zln_12, zln_13, zln_14, zchild, zcnt, zc1b, zble, zbeq, z_push, z_ild, z_ald, z_ist, z_ast, z_inc, z_bin, z_dvn, z_un, z_dup, z_dup2, z_pop, z_if, z_cmp, z_ifnull, z_pnull, z_acn, z_gf, z_gfn, z_pf, z_pfz, z_pfr, z_iald, z_iast, z_aald, z_alen, z_ret, z_invV, z_invS, z_invH, z_throw, z_sw, zup_r, h2, Int32.not_lt.mp h2, z_mm, zm0_mx]
      exact this
