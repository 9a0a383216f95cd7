/-- what an inspection takes from a shelf -/
def zmn (a b : Int32) : Int32 := if b < a then b else a
theorem zmn_le (a b : Int32) : (if b ≤ a then b else a) = zmn a b := by
  unfold zmn
  by_cases h : b < a
  · rw [if_pos h, if_pos (Int32.le_of_lt h)]
  · rw [if_neg h]
    by_cases h2 : b ≤ a
    · rw [if_pos h2]
      exact Int32.le_antisymm h2 (Int32.not_lt.mp h)
    · rw [if_neg h2]
/-- the program's state after i goods of shop s -/
def zins (S : ZS) (s i : Nat) : ZS := fun k j f => if k = 5 ∧ 6 * s ≤ j ∧ j < 6 * s + i ∧ (f = 5 ∨ f = 1) then S 5 j f - zmn (S 5 j 5) (S 5 j 1) else S k j f
theorem zins_s (S : ZS) (s i : Nat) : zup (zup (zins S s i) 5 (6 * s + i) 5 (S 5 (6 * s + i) 5 - zmn (S 5 (6 * s + i) 5) (S 5 (6 * s + i) 1))) 5 (6 * s + i) 1 (S 5 (6 * s + i) 1 - zmn (S 5 (6 * s + i) 5) (S 5 (6 * s + i) 1)) = zins S s (i + 1) := by
  funext k j f
  by_cases h5 : k = 5
  · subst h5
    by_cases hj : j = 6 * s + i
    · subst hj
      by_cases hf : f = 5
      · subst hf
        simp [zup, zins]
      · by_cases hf1 : f = 1
        · subst hf1
          simp [zup, zins]
        · simp [zup, zins, hf, hf1]
    · have : (6 * s ≤ j ∧ j < 6 * s + i ∧ (f = 5 ∨ f = 1)) ↔ (6 * s ≤ j ∧ j < 6 * s + (i + 1) ∧ (f = 5 ∨ f = 1)) := by omega
      simp only [zup, zins, hj, this]
      simp
  · simp [zup, zins, h5]
set_option maxRecDepth 20000 in
set_option maxHeartbeats 1000000 in
theorem p_X7_inspect {S : ZS} {K : ZK} (x : Int32) (s : Nat) (hs : s < nS S) (hn : nS S ≤ 6) (hK : K (.inl (some (.inl (zsu (fun g => zmn (S 5 (6 * s + g) 5) (S 5 (6 * s + g) 1)) 6)))) (zins S s 6)) : z_loop (fun J21 => zb_X7_inspect_21 J21) [some (zr 7 0), some (zi x), some (zr 6 s), some (zi 0), some (zi 0), none, none] [] S K := by
  have loop := z_loop_n (body := fun J6 => zb_X7_inspect_21 J6) (K := K) 6 (fun i => [some (zr 7 0), some (zi x), some (zr 6 s), some (zi (zsu (fun g => zmn (S 5 (6 * s + g) 5) (S 5 (6 * s + g) 1)) i)), some (zi (nI i)), if i = 0 then none else some (zr 5 (6 * s + (i - 1))), if i = 0 then none else some (zi (zmn (S 5 (6 * s + (i - 1)) 5) (S 5 (6 * s + (i - 1)) 1)))]) (fun i => zins S s i) (fun i hi k hk => by
    have e1 : nI i + 1 = nI (i + 1) := nI_add i 1
    have e2 : ¬ (6 : Int32) ≤ nI i := zle_n hi (by decide)
    have e3 : (nI 6 : Int32) = 6 := rfl
    have r1 : zins S s i 5 (6 * s + i) 5 = S 5 (6 * s + i) 5 := if_neg (by omega)
    have r2 : zins S s i 5 (6 * s + i) 1 = S 5 (6 * s + i) 1 := if_neg (by omega)
    simp [zb_X7_inspect_21, zsp, zin, znth, ztake, zset, zcont, zcontH, zf_0_0, zf_0_2, zf_1_0, zf_1_1, zf_1_2, zf_1_3, zf_1_4, zf_2_0, zf_2_1, zf_2_2, zf_2_3, zf_2_4, zf_3_0, zf_3_1, zf_3_2, zf_3_3, zf_3_4, zf_3_5, zf_3_6, zf_3_7, zf_3_8, zf_3_9, zf_3_10, zf_4_0, zf_4_1, zf_4_2, zf_4_3, zf_4_4, zf_5_0, zf_5_1, zf_5_2, zf_5_3, zf_5_4, zf_5_5, zf_6_0, zf_6_1, zf_6_2, zf_7_0, zf_7_1, zf_7_2, zf_7_3, zf_7_4, zf_7_5, zf_7_6, zf_7_7, zf_7_8, zf_7_9, zf_7_10, zf_7_11, zf_7_12, zf_7_13, zf_7_14, zf_7_15, zf_7_16, zf_7_17, zf_7_18, zln_9, zln_10, zln_15, zln_16, zln_17, zln_18, zln_19, zln_20, zln_21, zln_11, zln_12, zln_13, zln_14, zchild, zcnt, zc1b, zble, zbeq, z_push, z_ild, z_ald, z_ist, z_ast, z_inc, z_bin, z_dvn, z_un, z_dup, z_dup2, z_pop, z_if, z_cmp, z_ifnull, z_pnull, z_acn, z_gf, z_gfn, z_pf, z_pfz, z_pfr, z_iald, z_iast, z_aald, z_alen, z_ret, z_invV, z_invS, z_invH, z_throw, z_sw, zup_r, e3, e2, vp_in_nI hi (show 6 < 2147483648 by decide), nI_clamp (show i < 2 ^ 31 by omega), hi, r1, r2, z_mm, e1]
    have := hk
    rw [← zins_s, zsu] at this
    simpa [zmn] using this) (fun k => by
    have e2 : (6 : Int32) ≤ nI 6 := by decide
    have e3 : (nI 6 : Int32) = 6 := rfl
    simp [zb_X7_inspect_21, zsp, zin, znth, ztake, zset, zcont, zcontH, zf_0_0, zf_0_2, zf_1_0, zf_1_1, zf_1_2, zf_1_3, zf_1_4, zf_2_0, zf_2_1, zf_2_2, zf_2_3, zf_2_4, zf_3_0, zf_3_1, zf_3_2, zf_3_3, zf_3_4, zf_3_5, zf_3_6, zf_3_7, zf_3_8, zf_3_9, zf_3_10, zf_4_0, zf_4_1, zf_4_2, zf_4_3, zf_4_4, zf_5_0, zf_5_1, zf_5_2, zf_5_3, zf_5_4, zf_5_5, zf_6_0, zf_6_1, zf_6_2, zf_7_0, zf_7_1, zf_7_2, zf_7_3, zf_7_4, zf_7_5, zf_7_6, zf_7_7, zf_7_8, zf_7_9, zf_7_10, zf_7_11, zf_7_12, zf_7_13, zf_7_14, zf_7_15, zf_7_16, zf_7_17, zf_7_18, zln_9, zln_10, zln_15, zln_16, zln_17, zln_18, zln_19, zln_20, zln_21, zln_11, zln_12, zln_13, zln_14, zchild, zcnt, zc1b, zble, zbeq, z_push, z_ild, z_ald, z_ist, z_ast, z_inc, z_bin, z_dvn, z_un, z_dup, z_dup2, z_pop, z_if, z_cmp, z_ifnull, z_pnull, z_acn, z_gf, z_gfn, z_pf, z_pfz, z_pfr, z_iald, z_iast, z_aald, z_alen, z_ret, z_invV, z_invS, z_invH, z_throw, z_sw, zup_r, e2, e3]
    exact hK)
  rw [show zins S s 0 = S by
    funext k j f
    exact if_neg (by omega)] at loop
  exact loop
