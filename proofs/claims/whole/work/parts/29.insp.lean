/-- what an inspection takes from a shelf -/
def zmn (a b : Int32) : Int32 := if b < a then b else a
theorem zmn_le (a b : Int32) : (if b ≤ a then b else a) = zmn a b := by
  unfold zmn
  by_cases h : b < a
  · rw [if_pos h, if_pos (Int32.le_of_lt h)]
  · rw [if_neg h]
    by_cases h2 : b ≤ a
    · rw [if_pos h2]
      exact Int32.le_antisymm h2 (Int32.not_lt.mp h)
    · rw [if_neg h2]
/-- the program's state after i goods of shop s -/
def zins (S : ZS) (s i : Nat) : ZS := fun k j f => if k = 5 ∧ 6 * s ≤ j ∧ j < 6 * s + i ∧ (f = 5 ∨ f = 1) then S 5 j f - zmn (S 5 j 5) (S 5 j 1) else S k j f
/-- the model's -/
def zinm (S : ZS) (s i : Nat) : ZS := fun k r j => if k = 22 ∧ (r = 34 ∨ r = 31) ∧ 6 * s ≤ j ∧ j < 6 * s + i then S 22 r j - zmn (S 22 34 j) (S 22 31 j) else S k r j
theorem zins_s (S : ZS) (s i : Nat) : zup (zup (zins S s i) 5 (6 * s + i) 5 (S 5 (6 * s + i) 5 - zmn (S 5 (6 * s + i) 5) (S 5 (6 * s + i) 1))) 5 (6 * s + i) 1 (S 5 (6 * s + i) 1 - zmn (S 5 (6 * s + i) 5) (S 5 (6 * s + i) 1)) = zins S s (i + 1) := by
  funext k j f
  by_cases h5 : k = 5
  · subst h5
    by_cases hj : j = 6 * s + i
    · subst hj
      by_cases hf : f = 5
      · subst hf
        simp [zup, zins]
      · by_cases hf1 : f = 1
        · subst hf1
          simp [zup, zins]
        · simp [zup, zins, hf, hf1]
    · have : (6 * s ≤ j ∧ j < 6 * s + i ∧ (f = 5 ∨ f = 1)) ↔ (6 * s ≤ j ∧ j < 6 * s + (i + 1) ∧ (f = 5 ∨ f = 1)) := by omega
      simp only [zup, zins, hj, this]
      simp
  · simp [zup, zins, h5]
theorem zinm_s (S : ZS) (s i : Nat) : zup (zup (zinm S s i) 22 34 (6 * s + i) (S 22 34 (6 * s + i) - zmn (S 22 34 (6 * s + i)) (S 22 31 (6 * s + i)))) 22 31 (6 * s + i) (S 22 31 (6 * s + i) - zmn (S 22 34 (6 * s + i)) (S 22 31 (6 * s + i))) = zinm S s (i + 1) := by
  funext k r j
  by_cases h5 : k = 22
  · subst h5
    by_cases hj : j = 6 * s + i
    · subst hj
      by_cases hf : r = 34
      · subst hf
        simp [zup, zinm]
      · by_cases hf1 : r = 31
        · subst hf1
          simp [zup, zinm]
        · simp [zup, zinm, hf, hf1]
    · have : ((r = 34 ∨ r = 31) ∧ 6 * s ≤ j ∧ j < 6 * s + i) ↔ ((r = 34 ∨ r = 31) ∧ 6 * s ≤ j ∧ j < 6 * s + (i + 1)) := by omega
      simp only [zup, zinm, hj, this]
      simp
  · simp [zup, zinm, h5]
set_option maxRecDepth 20000 in
set_option maxHeartbeats 1000000 in
theorem p_X7_inspect {S : ZS} {K : ZK} (x : Int32) (s : Nat) (hs : s < nS S) (hn : nS S ≤ 6) (hK : K (.inl (some (.inl (zsu (fun g => zmn (S 5 (6 * s + g) 5) (S 5 (6 * s + g) 1)) 6)))) (zins S s 6)) : z_loop (fun J21 => zb_X7_inspect_21 J21) [some (zr 7 0), some (zi x), some (zr 6 s), some (zi 0), some (zi 0), none, none] [] S K := by
  have loop := z_loop_n (body := fun J6 => zb_X7_inspect_21 J6) (K := K) 6 (fun i => [some (zr 7 0), some (zi x), some (zr 6 s), some (zi (zsu (fun g => zmn (S 5 (6 * s + g) 5) (S 5 (6 * s + g) 1)) i)), some (zi (nI i)), if i = 0 then none else some (zr 5 (6 * s + (i - 1))), if i = 0 then none else some (zi (zmn (S 5 (6 * s + (i - 1)) 5) (S 5 (6 * s + (i - 1)) 1)))]) (fun i => zins S s i) (fun i hi k hk => by
    have e1 : nI i + 1 = nI (i + 1) := nI_add i 1
    have e2 : ¬ (6 : Int32) ≤ nI i := zle_n hi (by decide)
    have e3 : (nI 6 : Int32) = 6 := rfl
    have r1 : zins S s i 5 (6 * s + i) 5 = S 5 (6 * s + i) 5 := if_neg (by omega)
    have r2 : zins S s i 5 (6 * s + i) 1 = S 5 (6 * s + i) 1 := if_neg (by omega)
    simp [zb_X7_inspect_21, zsp, zin, znth, ztake, zset, zcont, zcontH, zf_0_0, zf_0_2, zf_1_0, zf_1_1, zf_1_2, zf_1_3, zf_1_4, zf_2_0, zf_2_1, zf_2_2, zf_2_3, zf_2_4, zf_3_0, zf_3_1, zf_3_2, zf_3_3, zf_3_4, zf_3_5, zf_3_6, zf_3_7, zf_3_8, zf_3_9, zf_3_10, zf_4_0, zf_4_1, zf_4_2, zf_4_3, zf_4_4, zf_5_0, zf_5_1, zf_5_2, zf_5_3, zf_5_4, zf_5_5, zf_6_0, zf_6_1, zf_6_2, zf_7_0, zf_7_1, zf_7_2, zf_7_3, zf_7_4, zf_7_5, zf_7_6, zf_7_7, zf_7_8, zf_7_9, zf_7_10, zf_7_11, zf_7_12, zf_7_13, zf_7_14, zf_7_15, zf_7_16, zf_7_17, zf_7_18, zf_8_0, zf_8_1, zf_8_2, zf_8_3, zf_8_4, zf_8_5, zf_8_6, zf_8_7, zf_8_8, zf_8_9, zf_8_10, zf_8_11, zf_8_12, zf_8_13, zf_8_14, zf_8_15, zf_8_16, zf_8_17, zf_8_18, zf_8_19, zf_8_20, zf_8_21, zf_8_22, zf_8_23, zf_8_24, zf_8_25, zf_8_26, zf_8_27, zf_8_28, zf_8_29, zf_8_30, zf_8_31, zf_8_32, zf_8_33, zf_8_34, zf_8_35, zf_8_36, zf_8_37, zf_8_38, zf_8_39, zf_8_40, zf_8_41, zf_8_42, zf_8_43, zf_8_44, zf_8_45, zf_8_46, zln_9, zln_10, zln_15, zln_16, zln_17, zln_18, zln_19, zln_20, zln_21, zln_23, zln_24, zln_11, zln_12, zln_13, zln_14, zln_22_4, zln_22_5, zln_22_6, zln_22_7, zln_22_8, zln_22_9, zln_22_11, zln_22_12, zln_22_13, zln_22_14, zln_22_15, zln_22_16, zln_22_17, zln_22_18, zln_22_20, zln_22_22, zln_22_23, zln_22_24, zln_22_26, zln_22_27, zln_22_29, zln_22_30, zln_22_31, zln_22_32, zln_22_33, zln_22_34, zln_22_36, zln_22_37, zln_22_38, zln_22_39, zln_22_40, zln_22_45, zchild, zcnt, zc1b, zble, zbeq, z_push, z_ild, z_ald, z_ist, z_ast, z_inc, z_bin, z_dvn, z_un, z_dup, z_dup2, z_pop, z_if, z_cmp, z_ifnull, z_pnull, z_acn, z_gf, z_gfn, z_pf, z_pfz, z_pfr, z_iald, z_iast, z_bald, z_bast, z_aald, z_alen, z_ret, z_invV, z_invS, z_invH, z_lastI, z_throw, z_sw, zup_r, e3, e2, vp_in_nI hi (show 6 < 2147483648 by decide), nI_clamp (show i < 2 ^ 31 by omega), hi, r1, r2, z_mm, e1]
    have := hk
    rw [← zins_s, zsu] at this
    simpa [zmn] using this) (fun k => by
    have e2 : (6 : Int32) ≤ nI 6 := by decide
    have e3 : (nI 6 : Int32) = 6 := rfl
    simp [zb_X7_inspect_21, zsp, zin, znth, ztake, zset, zcont, zcontH, zf_0_0, zf_0_2, zf_1_0, zf_1_1, zf_1_2, zf_1_3, zf_1_4, zf_2_0, zf_2_1, zf_2_2, zf_2_3, zf_2_4, zf_3_0, zf_3_1, zf_3_2, zf_3_3, zf_3_4, zf_3_5, zf_3_6, zf_3_7, zf_3_8, zf_3_9, zf_3_10, zf_4_0, zf_4_1, zf_4_2, zf_4_3, zf_4_4, zf_5_0, zf_5_1, zf_5_2, zf_5_3, zf_5_4, zf_5_5, zf_6_0, zf_6_1, zf_6_2, zf_7_0, zf_7_1, zf_7_2, zf_7_3, zf_7_4, zf_7_5, zf_7_6, zf_7_7, zf_7_8, zf_7_9, zf_7_10, zf_7_11, zf_7_12, zf_7_13, zf_7_14, zf_7_15, zf_7_16, zf_7_17, zf_7_18, zf_8_0, zf_8_1, zf_8_2, zf_8_3, zf_8_4, zf_8_5, zf_8_6, zf_8_7, zf_8_8, zf_8_9, zf_8_10, zf_8_11, zf_8_12, zf_8_13, zf_8_14, zf_8_15, zf_8_16, zf_8_17, zf_8_18, zf_8_19, zf_8_20, zf_8_21, zf_8_22, zf_8_23, zf_8_24, zf_8_25, zf_8_26, zf_8_27, zf_8_28, zf_8_29, zf_8_30, zf_8_31, zf_8_32, zf_8_33, zf_8_34, zf_8_35, zf_8_36, zf_8_37, zf_8_38, zf_8_39, zf_8_40, zf_8_41, zf_8_42, zf_8_43, zf_8_44, zf_8_45, zf_8_46, zln_9, zln_10, zln_15, zln_16, zln_17, zln_18, zln_19, zln_20, zln_21, zln_23, zln_24, zln_11, zln_12, zln_13, zln_14, zln_22_4, zln_22_5, zln_22_6, zln_22_7, zln_22_8, zln_22_9, zln_22_11, zln_22_12, zln_22_13, zln_22_14, zln_22_15, zln_22_16, zln_22_17, zln_22_18, zln_22_20, zln_22_22, zln_22_23, zln_22_24, zln_22_26, zln_22_27, zln_22_29, zln_22_30, zln_22_31, zln_22_32, zln_22_33, zln_22_34, zln_22_36, zln_22_37, zln_22_38, zln_22_39, zln_22_40, zln_22_45, zchild, zcnt, zc1b, zble, zbeq, z_push, z_ild, z_ald, z_ist, z_ast, z_inc, z_bin, z_dvn, z_un, z_dup, z_dup2, z_pop, z_if, z_cmp, z_ifnull, z_pnull, z_acn, z_gf, z_gfn, z_pf, z_pfz, z_pfr, z_iald, z_iast, z_bald, z_bast, z_aald, z_alen, z_ret, z_invV, z_invS, z_invH, z_lastI, z_throw, z_sw, zup_r, e2, e3]
    exact hK)
  rw [show zins S s 0 = S by
    funext k j f
    exact if_neg (by omega)] at loop
  exact loop
set_option maxRecDepth 20000 in
set_option maxHeartbeats 1000000 in
theorem p_X8_inspect {S : ZS} {K : ZK} (x : Int32) (s : Nat) (hx : x = nI s) (hs : s < 6) (hK : K (.inl (some (.inl (zsu (fun g => zmn (S 22 34 (6 * s + g)) (S 22 31 (6 * s + g))) 6)))) (zinm S s 6)) : z_loop (fun J32 => zb_X8_inspect_32 J32) [some (zr 8 0), some (zi x), some (zi 0), some (zi (6 * x)), none] [] S K := by
  have e6 : ∀ g, (6 : Int32) * nI s + nI g = nI (6 * s + g) := fun g => zix (n := 0)
  have e60 : (6 : Int32) * nI s = nI (6 * s) := by
    have := e6 0
    rwa [show nI 0 = 0 from rfl, Int32.add_zero, Nat.add_zero] at this
  have loop := z_loop_n (body := fun J6 => zb_X8_inspect_32 J6) (K := K) 6 (fun i => [some (zr 8 0), some (zi x), some (zi (zsu (fun g => zmn (S 22 34 (6 * s + g)) (S 22 31 (6 * s + g))) i)), some (zi (nI (6 * s + i))), if i = 0 then none else some (zi (zmn (S 22 34 (6 * s + (i - 1))) (S 22 31 (6 * s + (i - 1)))))]) (fun i => zinm S s i) (fun i hi k hk => by
    have e1 : nI (6 * s + i) + 1 = nI (6 * s + (i + 1)) := nI_add _ 1
    have e2 : ¬ nI (6 * s + 6) ≤ nI (6 * s + i) := zle_n (by omega) (by omega)
    have e3 : nI (6 * s) + 6 = nI (6 * s + 6) := nI_add _ 6
    have e4 := vp_in_nI (show 6 * s + i < 36 by omega) (show 36 < 2147483648 by decide)
    have e5 := nI_clamp (show 6 * s + i < 2 ^ 31 by omega)
    have r1 : zinm S s i 22 34 (6 * s + i) = S 22 34 (6 * s + i) := if_neg (by omega)
    have r2 : zinm S s i 22 31 (6 * s + i) = S 22 31 (6 * s + i) := if_neg (by omega)
    simp [zb_X8_inspect_32, zsp, zin, znth, ztake, zset, zcont, zcontH, zf_0_0, zf_0_2, zf_1_0, zf_1_1, zf_1_2, zf_1_3, zf_1_4, zf_2_0, zf_2_1, zf_2_2, zf_2_3, zf_2_4, zf_3_0, zf_3_1, zf_3_2, zf_3_3, zf_3_4, zf_3_5, zf_3_6, zf_3_7, zf_3_8, zf_3_9, zf_3_10, zf_4_0, zf_4_1, zf_4_2, zf_4_3, zf_4_4, zf_5_0, zf_5_1, zf_5_2, zf_5_3, zf_5_4, zf_5_5, zf_6_0, zf_6_1, zf_6_2, zf_7_0, zf_7_1, zf_7_2, zf_7_3, zf_7_4, zf_7_5, zf_7_6, zf_7_7, zf_7_8, zf_7_9, zf_7_10, zf_7_11, zf_7_12, zf_7_13, zf_7_14, zf_7_15, zf_7_16, zf_7_17, zf_7_18, zf_8_0, zf_8_1, zf_8_2, zf_8_3, zf_8_4, zf_8_5, zf_8_6, zf_8_7, zf_8_8, zf_8_9, zf_8_10, zf_8_11, zf_8_12, zf_8_13, zf_8_14, zf_8_15, zf_8_16, zf_8_17, zf_8_18, zf_8_19, zf_8_20, zf_8_21, zf_8_22, zf_8_23, zf_8_24, zf_8_25, zf_8_26, zf_8_27, zf_8_28, zf_8_29, zf_8_30, zf_8_31, zf_8_32, zf_8_33, zf_8_34, zf_8_35, zf_8_36, zf_8_37, zf_8_38, zf_8_39, zf_8_40, zf_8_41, zf_8_42, zf_8_43, zf_8_44, zf_8_45, zf_8_46, zln_9, zln_10, zln_15, zln_16, zln_17, zln_18, zln_19, zln_20, zln_21, zln_23, zln_24, zln_11, zln_12, zln_13, zln_14, zln_22_4, zln_22_5, zln_22_6, zln_22_7, zln_22_8, zln_22_9, zln_22_11, zln_22_12, zln_22_13, zln_22_14, zln_22_15, zln_22_16, zln_22_17, zln_22_18, zln_22_20, zln_22_22, zln_22_23, zln_22_24, zln_22_26, zln_22_27, zln_22_29, zln_22_30, zln_22_31, zln_22_32, zln_22_33, zln_22_34, zln_22_36, zln_22_37, zln_22_38, zln_22_39, zln_22_40, zln_22_45, zchild, zcnt, zc1b, zble, zbeq, z_push, z_ild, z_ald, z_ist, z_ast, z_inc, z_bin, z_dvn, z_un, z_dup, z_dup2, z_pop, z_if, z_cmp, z_ifnull, z_pnull, z_acn, z_gf, z_gfn, z_pf, z_pfz, z_pfr, z_iald, z_iast, z_bald, z_bast, z_aald, z_alen, z_ret, z_invV, z_invS, z_invH, z_lastI, z_throw, z_sw, zup_r, hx, e60, e3, e2, e4, e5, r1, r2, p_X8_lesser, zmn_le, e1]
    have := hk
    rw [← zinm_s, zsu] at this
    simpa [hx] using this) (fun k => by
    have e3 : nI (6 * s) + 6 = nI (6 * s + 6) := nI_add _ 6
    simp [zb_X8_inspect_32, zsp, zin, znth, ztake, zset, zcont, zcontH, zf_0_0, zf_0_2, zf_1_0, zf_1_1, zf_1_2, zf_1_3, zf_1_4, zf_2_0, zf_2_1, zf_2_2, zf_2_3, zf_2_4, zf_3_0, zf_3_1, zf_3_2, zf_3_3, zf_3_4, zf_3_5, zf_3_6, zf_3_7, zf_3_8, zf_3_9, zf_3_10, zf_4_0, zf_4_1, zf_4_2, zf_4_3, zf_4_4, zf_5_0, zf_5_1, zf_5_2, zf_5_3, zf_5_4, zf_5_5, zf_6_0, zf_6_1, zf_6_2, zf_7_0, zf_7_1, zf_7_2, zf_7_3, zf_7_4, zf_7_5, zf_7_6, zf_7_7, zf_7_8, zf_7_9, zf_7_10, zf_7_11, zf_7_12, zf_7_13, zf_7_14, zf_7_15, zf_7_16, zf_7_17, zf_7_18, zf_8_0, zf_8_1, zf_8_2, zf_8_3, zf_8_4, zf_8_5, zf_8_6, zf_8_7, zf_8_8, zf_8_9, zf_8_10, zf_8_11, zf_8_12, zf_8_13, zf_8_14, zf_8_15, zf_8_16, zf_8_17, zf_8_18, zf_8_19, zf_8_20, zf_8_21, zf_8_22, zf_8_23, zf_8_24, zf_8_25, zf_8_26, zf_8_27, zf_8_28, zf_8_29, zf_8_30, zf_8_31, zf_8_32, zf_8_33, zf_8_34, zf_8_35, zf_8_36, zf_8_37, zf_8_38, zf_8_39, zf_8_40, zf_8_41, zf_8_42, zf_8_43, zf_8_44, zf_8_45, zf_8_46, zln_9, zln_10, zln_15, zln_16, zln_17, zln_18, zln_19, zln_20, zln_21, zln_23, zln_24, zln_11, zln_12, zln_13, zln_14, zln_22_4, zln_22_5, zln_22_6, zln_22_7, zln_22_8, zln_22_9, zln_22_11, zln_22_12, zln_22_13, zln_22_14, zln_22_15, zln_22_16, zln_22_17, zln_22_18, zln_22_20, zln_22_22, zln_22_23, zln_22_24, zln_22_26, zln_22_27, zln_22_29, zln_22_30, zln_22_31, zln_22_32, zln_22_33, zln_22_34, zln_22_36, zln_22_37, zln_22_38, zln_22_39, zln_22_40, zln_22_45, zchild, zcnt, zc1b, zble, zbeq, z_push, z_ild, z_ald, z_ist, z_ast, z_inc, z_bin, z_dvn, z_un, z_dup, z_dup2, z_pop, z_if, z_cmp, z_ifnull, z_pnull, z_acn, z_gf, z_gfn, z_pf, z_pfz, z_pfr, z_iald, z_iast, z_bald, z_bast, z_aald, z_alen, z_ret, z_invV, z_invS, z_invH, z_lastI, z_throw, z_sw, zup_r, hx, e60, e3]
    exact hK)
  rw [show zinm S s 0 = S by
    funext k r j
    exact if_neg (by omega)] at loop
  rw [hx, e60]
  rw [hx] at loop
  exact loop
set_option maxRecDepth 20000 in
set_option maxHeartbeats 4000000 in
theorem lc_inspect {c : Nat} {S : ZS} (hc : c < 512) (h : Inv c S) (a : Int32) : sp_L_inspect [zr 7 0, zi a, zr 24 0] S (LPm sp_X8_inspect [zr 8 0, zi a] c) := by
  obtain ⟨r1, r2, r3, r4, r5⟩ := h.1.H
  by_cases ha : vp_in a (nS S)
  · obtain ⟨ha1, ha2, -⟩ := vp_clamp (by omega) ha
    simp [zb_L_inspect_0, sp_L_inspect, sp_X7_inspect, zb_X7_inspect_0, zsp, zin, znth, ztake, zset, zcont, zcontH, zf_0_0, zf_0_2, zf_1_0, zf_1_1, zf_1_2, zf_1_3, zf_1_4, zf_2_0, zf_2_1, zf_2_2, zf_2_3, zf_2_4, zf_3_0, zf_3_1, zf_3_2, zf_3_3, zf_3_4, zf_3_5, zf_3_6, zf_3_7, zf_3_8, zf_3_9, zf_3_10, zf_4_0, zf_4_1, zf_4_2, zf_4_3, zf_4_4, zf_5_0, zf_5_1, zf_5_2, zf_5_3, zf_5_4, zf_5_5, zf_6_0, zf_6_1, zf_6_2, zf_7_0, zf_7_1, zf_7_2, zf_7_3, zf_7_4, zf_7_5, zf_7_6, zf_7_7, zf_7_8, zf_7_9, zf_7_10, zf_7_11, zf_7_12, zf_7_13, zf_7_14, zf_7_15, zf_7_16, zf_7_17, zf_7_18, zf_8_0, zf_8_1, zf_8_2, zf_8_3, zf_8_4, zf_8_5, zf_8_6, zf_8_7, zf_8_8, zf_8_9, zf_8_10, zf_8_11, zf_8_12, zf_8_13, zf_8_14, zf_8_15, zf_8_16, zf_8_17, zf_8_18, zf_8_19, zf_8_20, zf_8_21, zf_8_22, zf_8_23, zf_8_24, zf_8_25, zf_8_26, zf_8_27, zf_8_28, zf_8_29, zf_8_30, zf_8_31, zf_8_32, zf_8_33, zf_8_34, zf_8_35, zf_8_36, zf_8_37, zf_8_38, zf_8_39, zf_8_40, zf_8_41, zf_8_42, zf_8_43, zf_8_44, zf_8_45, zf_8_46, zln_9, zln_10, zln_15, zln_16, zln_17, zln_18, zln_19, zln_20, zln_21, zln_23, zln_24, zln_11, zln_12, zln_13, zln_14, zln_22_4, zln_22_5, zln_22_6, zln_22_7, zln_22_8, zln_22_9, zln_22_11, zln_22_12, zln_22_13, zln_22_14, zln_22_15, zln_22_16, zln_22_17, zln_22_18, zln_22_20, zln_22_22, zln_22_23, zln_22_24, zln_22_26, zln_22_27, zln_22_29, zln_22_30, zln_22_31, zln_22_32, zln_22_33, zln_22_34, zln_22_36, zln_22_37, zln_22_38, zln_22_39, zln_22_40, zln_22_45, zchild, zcnt, zc1b, zble, zbeq, z_push, z_ild, z_ald, z_ist, z_ast, z_inc, z_bin, z_dvn, z_un, z_dup, z_dup2, z_pop, z_if, z_cmp, z_ifnull, z_pnull, z_acn, z_gf, z_gfn, z_pf, z_pfz, z_pfr, z_iald, z_iast, z_bald, z_bast, z_aald, z_alen, z_ret, z_invV, z_invS, z_invH, z_lastI, z_throw, z_sw, zup_r, p_X7_knownGood, p_X7_requireRange, p_X7_requireRoom, p_X7_requireEnough, p_X7_requireAlive, p_X7_requireBook, p_X3_isDead, p_X3_isWithoutBook, p_X7_pointsLeft, p_X7_changeGood, p_X8_isGood, p_X8_isOne, p_X8_isShop, p_X8_isDepot, p_X8_in, p_X8_fails, p_X8_lesser, LPm_i, vp01, zup2, p_X7_knownShop r1 r2, ha]
    refine p_X7_inspect (S := zup S 7 0 14 (S 7 0 14 + 1)) a a.toNatClampNeg ha1 r2 ?_
    have z8 : ∀ T f, zins T a.toNatClampNeg 6 8 0 f = T 8 0 f := fun T f => if_neg (by omega)
    simp [zsp, zin, znth, ztake, zset, zcont, zcontH, zf_0_0, zf_0_2, zf_1_0, zf_1_1, zf_1_2, zf_1_3, zf_1_4, zf_2_0, zf_2_1, zf_2_2, zf_2_3, zf_2_4, zf_3_0, zf_3_1, zf_3_2, zf_3_3, zf_3_4, zf_3_5, zf_3_6, zf_3_7, zf_3_8, zf_3_9, zf_3_10, zf_4_0, zf_4_1, zf_4_2, zf_4_3, zf_4_4, zf_5_0, zf_5_1, zf_5_2, zf_5_3, zf_5_4, zf_5_5, zf_6_0, zf_6_1, zf_6_2, zf_7_0, zf_7_1, zf_7_2, zf_7_3, zf_7_4, zf_7_5, zf_7_6, zf_7_7, zf_7_8, zf_7_9, zf_7_10, zf_7_11, zf_7_12, zf_7_13, zf_7_14, zf_7_15, zf_7_16, zf_7_17, zf_7_18, zf_8_0, zf_8_1, zf_8_2, zf_8_3, zf_8_4, zf_8_5, zf_8_6, zf_8_7, zf_8_8, zf_8_9, zf_8_10, zf_8_11, zf_8_12, zf_8_13, zf_8_14, zf_8_15, zf_8_16, zf_8_17, zf_8_18, zf_8_19, zf_8_20, zf_8_21, zf_8_22, zf_8_23, zf_8_24, zf_8_25, zf_8_26, zf_8_27, zf_8_28, zf_8_29, zf_8_30, zf_8_31, zf_8_32, zf_8_33, zf_8_34, zf_8_35, zf_8_36, zf_8_37, zf_8_38, zf_8_39, zf_8_40, zf_8_41, zf_8_42, zf_8_43, zf_8_44, zf_8_45, zf_8_46, zln_9, zln_10, zln_15, zln_16, zln_17, zln_18, zln_19, zln_20, zln_21, zln_23, zln_24, zln_11, zln_12, zln_13, zln_14, zln_22_4, zln_22_5, zln_22_6, zln_22_7, zln_22_8, zln_22_9, zln_22_11, zln_22_12, zln_22_13, zln_22_14, zln_22_15, zln_22_16, zln_22_17, zln_22_18, zln_22_20, zln_22_22, zln_22_23, zln_22_24, zln_22_26, zln_22_27, zln_22_29, zln_22_30, zln_22_31, zln_22_32, zln_22_33, zln_22_34, zln_22_36, zln_22_37, zln_22_38, zln_22_39, zln_22_40, zln_22_45, zchild, zcnt, zc1b, zble, zbeq, z_push, z_ild, z_ald, z_ist, z_ast, z_inc, z_bin, z_dvn, z_un, z_dup, z_dup2, z_pop, z_if, z_cmp, z_ifnull, z_pnull, z_acn, z_gf, z_gfn, z_pf, z_pfz, z_pfr, z_iald, z_iast, z_bald, z_bast, z_aald, z_alen, z_ret, z_invV, z_invS, z_invH, z_lastI, z_throw, z_sw, zup_r, LPm_i, sp_X8_inspect, zb_X8_inspect_0, p_X7_knownGood, p_X7_requireRange, p_X7_requireRoom, p_X7_requireEnough, p_X7_requireAlive, p_X7_requireBook, p_X3_isDead, p_X3_isWithoutBook, p_X7_pointsLeft, p_X7_changeGood, p_X8_isGood, p_X8_isOne, p_X8_isShop, p_X8_isDepot, p_X8_in, p_X8_fails, p_X8_lesser, LPm_i, vp01, zup2, z8, r3, r4, nS_f, ha]
    refine p_X8_inspect a a.toNatClampNeg ha2 (by omega) ?_
    obtain ⟨h1, h2, h3, h4, h5, h6, h7, h8⟩ := h.up
    generalize a.toNatClampNeg = s at *
    refine LQm_i.mpr ⟨rfl, fun _ => zsu_congr (fun g hg => ?_), ⟨?_, h2.fr rfl rfl rfl rfl rfl rfl rfl, h3.fr rfl rfl rfl rfl rfl rfl rfl rfl rfl rfl rfl rfl rfl rfl, h4.fr rfl rfl rfl rfl rfl, ?_, h6.fr rfl rfl rfl rfl rfl rfl rfl rfl, h7.fr rfl rfl rfl rfl rfl rfl rfl rfl rfl rfl, h8⟩⟩
    · obtain ⟨k1, k2, k3, k4, k5⟩ := (h5.2 (6 * s + g) (by omega)).1 (by omega)
      show zmn (S 5 (6 * s + g) 5) (S 5 (6 * s + g) 1) = zmn (S 22 34 (6 * s + g)) (S 22 31 (6 * s + g))
      rw [k2, k5]
    · obtain ⟨a1, a2, a3, a4, b1, b2, b3, b4, b5, b6, b7⟩ := h1
      exact ⟨a1, a2, a3, a4, b1, b2, b3, b4, b5, congrArg (· + 1) b6, b7⟩
    · refine ⟨h5.1, fun j hj => ⟨fun hh => ?_, fun hh => ?_⟩⟩
      · obtain ⟨k1, k2, k3, k4, k5⟩ := (h5.2 j hj).1 hh
        by_cases hr : 6 * s ≤ j ∧ j < 6 * s + 6
        · simp [IHs, zinm, zins, zup, hr, k1, k2, k3, k4, k5]
        · have hr2 : ∀ p : Prop, ¬ (6 * s ≤ j ∧ j < 6 * s + 6 ∧ p) := fun p hp => hr ⟨hp.1, hp.2.1⟩
          simp [IHs, zinm, zins, zup, hr, hr2, k1, k2, k3, k4, k5]
      · have hh2 : 6 * nS S ≤ j := hh
        have hr : ¬ (6 * s ≤ j ∧ j < 6 * s + 6) := by omega
        have := (h5.2 j hj).2 hh
        simp [IHf, zinm, zins, zup, hr] at this ⊢
        exact this
  · simp [zb_L_inspect_0, sp_L_inspect, sp_X7_inspect, zb_X7_inspect_0, sp_X8_inspect, zb_X8_inspect_0, zsp, zin, znth, ztake, zset, zcont, zcontH, zf_0_0, zf_0_2, zf_1_0, zf_1_1, zf_1_2, zf_1_3, zf_1_4, zf_2_0, zf_2_1, zf_2_2, zf_2_3, zf_2_4, zf_3_0, zf_3_1, zf_3_2, zf_3_3, zf_3_4, zf_3_5, zf_3_6, zf_3_7, zf_3_8, zf_3_9, zf_3_10, zf_4_0, zf_4_1, zf_4_2, zf_4_3, zf_4_4, zf_5_0, zf_5_1, zf_5_2, zf_5_3, zf_5_4, zf_5_5, zf_6_0, zf_6_1, zf_6_2, zf_7_0, zf_7_1, zf_7_2, zf_7_3, zf_7_4, zf_7_5, zf_7_6, zf_7_7, zf_7_8, zf_7_9, zf_7_10, zf_7_11, zf_7_12, zf_7_13, zf_7_14, zf_7_15, zf_7_16, zf_7_17, zf_7_18, zf_8_0, zf_8_1, zf_8_2, zf_8_3, zf_8_4, zf_8_5, zf_8_6, zf_8_7, zf_8_8, zf_8_9, zf_8_10, zf_8_11, zf_8_12, zf_8_13, zf_8_14, zf_8_15, zf_8_16, zf_8_17, zf_8_18, zf_8_19, zf_8_20, zf_8_21, zf_8_22, zf_8_23, zf_8_24, zf_8_25, zf_8_26, zf_8_27, zf_8_28, zf_8_29, zf_8_30, zf_8_31, zf_8_32, zf_8_33, zf_8_34, zf_8_35, zf_8_36, zf_8_37, zf_8_38, zf_8_39, zf_8_40, zf_8_41, zf_8_42, zf_8_43, zf_8_44, zf_8_45, zf_8_46, zln_9, zln_10, zln_15, zln_16, zln_17, zln_18, zln_19, zln_20, zln_21, zln_23, zln_24, zln_11, zln_12, zln_13, zln_14, zln_22_4, zln_22_5, zln_22_6, zln_22_7, zln_22_8, zln_22_9, zln_22_11, zln_22_12, zln_22_13, zln_22_14, zln_22_15, zln_22_16, zln_22_17, zln_22_18, zln_22_20, zln_22_22, zln_22_23, zln_22_24, zln_22_26, zln_22_27, zln_22_29, zln_22_30, zln_22_31, zln_22_32, zln_22_33, zln_22_34, zln_22_36, zln_22_37, zln_22_38, zln_22_39, zln_22_40, zln_22_45, zchild, zcnt, zc1b, zble, zbeq, z_push, z_ild, z_ald, z_ist, z_ast, z_inc, z_bin, z_dvn, z_un, z_dup, z_dup2, z_pop, z_if, z_cmp, z_ifnull, z_pnull, z_acn, z_gf, z_gfn, z_pf, z_pfz, z_pfr, z_iald, z_iast, z_bald, z_bast, z_aald, z_alen, z_ret, z_invV, z_invS, z_invH, z_lastI, z_throw, z_sw, zup_r, p_X7_knownGood, p_X7_requireRange, p_X7_requireRoom, p_X7_requireEnough, p_X7_requireAlive, p_X7_requireBook, p_X3_isDead, p_X3_isWithoutBook, p_X7_pointsLeft, p_X7_changeGood, p_X8_isGood, p_X8_isOne, p_X8_isShop, p_X8_isDepot, p_X8_in, p_X8_fails, p_X8_lesser, LPm_i, vp01, zup2, p_X7_knownShop r1 r2, r3, r4, nS_f, ha, LQm_ref h]
