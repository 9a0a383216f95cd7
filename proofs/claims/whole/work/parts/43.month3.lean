def zpm (S T : ZS) (k r j : Nat) : Int32 := if k = 22 ∧ r = 14 ∧ 0 < S 3 j 4 then zhe S j else if k = 22 ∧ r = 15 ∧ 0 < S 3 j 4 then znm S j else T k r j
theorem zpm_r (S T : ZS) (n r j : Nat) (h1 : ¬ r = 14) (h2 : ¬ r = 15) : zmq T n (zpm S T) 22 r j = T 22 r j := by
  unfold zmq zpm
  by_cases h : (22 = 22 ∨ 22 = 23) ∧ j < n
  · rw [if_pos h, if_neg (fun h' => h1 h'.2.1), if_neg (fun h' => h2 h'.2.1)]
  · rw [if_neg h]
theorem zpm_i (S T : ZS) (n k r j : Nat) (h : n ≤ j) : zmq T n (zpm S T) k r j = T k r j := if_neg (by omega)
set_option maxRecDepth 20000 in
set_option maxHeartbeats 2000000 in
theorem p_X8_people {S T : ZS} {K : ZK} {c : Nat} (hc : c ≤ 600) (hn : nP S ≤ 20) (hnS : nS S ≤ 6) (h9 : T 8 0 10 = nI (nP S)) (hR : ∀ p, p < nP S → zRp S T p) (hp : ∀ p, p < nP S → vp_in (S 3 p 2) (nS S) ∧ zrg (S 3 p 9) (90000 * c) ∧ zrg (S 3 p 4) 100 ∧ (S 3 p 6 = 0 ∨ S 3 p 6 = 1)) (hK : z_loop (fun J108 => zb_X8_month_108 J108) [some (zr 8 0), some (zi 0)] [] (zmq T (nP S) (zpm S T)) K) : z_loop (fun J79 => zb_X8_month_79 J79) [some (zr 8 0), some (zi 0)] [] T K := by
  refine z_loop_P (m := nP S) (fun m L S' => ∃ i, i + m = nP S ∧ S' = zmq T i (zpm S T) ∧ L = [some (zr 8 0), some (zi (nI i))]) ?_ ⟨0, by omega, (zmq_0 T (zpm S T)).symm, rfl⟩
  rintro m L S' ⟨i, hm, rfl, rfl⟩ k hk
  have z8 : ∀ f, zmq T i (zpm S T) 8 0 f = T 8 0 f := fun f => rfl
  rcases m with _ | m
  · obtain rfl : i = nP S := by omega
    simp [zb_X8_month_79, zsp, zin, znth, ztake, zset, zcont, zcontH, zf_0_0, zf_0_2, zf_1_0, zf_1_1, zf_1_2, zf_1_3, zf_1_4, zf_2_0, zf_2_1, zf_2_2, zf_2_3, zf_2_4, zf_3_0, zf_3_1, zf_3_2, zf_3_3, zf_3_4, zf_3_5, zf_3_6, zf_3_7, zf_3_8, zf_3_9, zf_3_10, zf_4_0, zf_4_1, zf_4_2, zf_4_3, zf_4_4, zf_5_0, zf_5_1, zf_5_2, zf_5_3, zf_5_4, zf_5_5, zf_6_0, zf_6_1, zf_6_2, zf_7_0, zf_7_1, zf_7_2, zf_7_3, zf_7_4, zf_7_5, zf_7_6, zf_7_7, zf_7_8, zf_7_9, zf_7_10, zf_7_11, zf_7_12, zf_7_13, zf_7_14, zf_7_15, zf_7_16, zf_7_17, zf_7_18, zf_8_0, zf_8_1, zf_8_2, zf_8_3, zf_8_4, zf_8_5, zf_8_6, zf_8_7, zf_8_8, zf_8_9, zf_8_10, zf_8_11, zf_8_12, zf_8_13, zf_8_14, zf_8_15, zf_8_16, zf_8_17, zf_8_18, zf_8_19, zf_8_20, zf_8_21, zf_8_22, zf_8_23, zf_8_24, zf_8_25, zf_8_26, zf_8_27, zf_8_28, zf_8_29, zf_8_30, zf_8_31, zf_8_32, zf_8_33, zf_8_34, zf_8_35, zf_8_36, zf_8_37, zf_8_38, zf_8_39, zf_8_40, zf_8_41, zf_8_42, zf_8_43, zf_8_44, zf_8_45, zf_8_46, zln_9, zln_10, zln_15, zln_16, zln_17, zln_18, zln_19, zln_20, zln_21, zln_23, zln_24, zln_11, zln_12, zln_13, zln_14, zln_22_4, zln_22_5, zln_22_6, zln_22_7, zln_22_8, zln_22_9, zln_22_11, zln_22_12, zln_22_13, zln_22_14, zln_22_15, zln_22_16, zln_22_17, zln_22_18, zln_22_20, zln_22_22, zln_22_23, zln_22_24, zln_22_26, zln_22_27, zln_22_29, zln_22_30, zln_22_31, zln_22_32, zln_22_33, zln_22_34, zln_22_36, zln_22_37, zln_22_38, zln_22_39, zln_22_40, zln_22_45, zchild, zcnt, zc1b, zble, zbeq, z_push, z_ild, z_ald, z_ist, z_ast, z_inc, z_bin, z_dvn, z_un, z_dup, z_dup2, z_pop, z_if, z_cmp, z_ifnull, z_pnull, z_acn, z_gf, z_gfn, z_pf, z_pfz, z_pfr, z_iald, z_iast, z_bald, z_bast, z_aald, z_alen, z_ret, z_invV, z_invS, z_invH, z_lastI, z_throw, z_sw, zup_r, h9, z8]
    exact hK
  · have hi : i < nP S := by omega
    have e1 : nI i + 1 = nI (i + 1) := nI_add i 1
    have e3 := vp_in_nI (show i < 20 by omega) (show 20 < 2147483648 by decide)
    have e4 := nI_clamp (show i < 2 ^ 31 by omega)
    have key := hk m rfl _ _ ⟨i + 1, by omega, rfl, rfl⟩
    obtain ⟨g1, g2, g3, g4⟩ := hp i hi
    obtain ⟨t1, t2, t3, t4, t5, t6, t7, t8⟩ := hR i hi
    have hR' : zRp S (zmq T i (zpm S T)) i := by
      refine ⟨?_, ?_, ?_, ?_, ?_, fun g hg => ?_, fun g hg => ?_, fun j hj => ?_⟩
      · rw [zpm_i _ _ _ _ _ _ (Nat.le_refl _), t1]
      · rw [zpm_i _ _ _ _ _ _ (Nat.le_refl _), t2]
      · rw [zpm_i _ _ _ _ _ _ (Nat.le_refl _), t3]
      · rw [zpm_i _ _ _ _ _ _ (Nat.le_refl _), t4]
      · rw [zpm_i _ _ _ _ _ _ (Nat.le_refl _), t5]
      · rw [zpm_r _ _ _ _ _ (by decide) (by decide), t6 g hg]
      · rw [zpm_r _ _ _ _ _ (by decide) (by decide), zpm_r _ _ _ _ _ (by decide) (by decide)]
        exact t7 g hg
      · rw [zpm_r _ _ _ _ _ (by decide) (by decide), t8 j hj]
    have z14 : zmq T i (zpm S T) 22 14 i = S 3 i 4 := hR'.2.2.1
    have z1 : ∀ k r, zmq T i (zpm S T) k r i = T k r i := fun k r => zpm_i _ _ _ _ _ _ (Nat.le_refl _)
    by_cases hl : 0 < S 3 i 4
    · rw [← zmq_s (T := zup (zup (zmq T i (zpm S T)) 22 15 i (znm S i)) 22 14 i (zhe S i)) (fun r => by
        by_cases f3 : r = 14
        · simp [zup, zpm, f3, hl]
        · by_cases f4 : r = 15
          · simp [zup, zpm, f4, hl]
          · simp [zup, zpm, f3, f4, z1]) (fun r => by simp [zup, zpm, z1]) (fun k' r j h => by
        have h5 : ∀ x, ¬ (k' = 22 ∧ r = x ∧ j = i) := fun x h' => h ⟨Or.inl h'.1, h'.2.2⟩
        simp [zup, h5])] at key
      simp [zb_X8_month_79, zb_X8_month_100, zsp, zin, znth, ztake, zset, zcont, zcontH, zf_0_0, zf_0_2, zf_1_0, zf_1_1, zf_1_2, zf_1_3, zf_1_4, zf_2_0, zf_2_1, zf_2_2, zf_2_3, zf_2_4, zf_3_0, zf_3_1, zf_3_2, zf_3_3, zf_3_4, zf_3_5, zf_3_6, zf_3_7, zf_3_8, zf_3_9, zf_3_10, zf_4_0, zf_4_1, zf_4_2, zf_4_3, zf_4_4, zf_5_0, zf_5_1, zf_5_2, zf_5_3, zf_5_4, zf_5_5, zf_6_0, zf_6_1, zf_6_2, zf_7_0, zf_7_1, zf_7_2, zf_7_3, zf_7_4, zf_7_5, zf_7_6, zf_7_7, zf_7_8, zf_7_9, zf_7_10, zf_7_11, zf_7_12, zf_7_13, zf_7_14, zf_7_15, zf_7_16, zf_7_17, zf_7_18, zf_8_0, zf_8_1, zf_8_2, zf_8_3, zf_8_4, zf_8_5, zf_8_6, zf_8_7, zf_8_8, zf_8_9, zf_8_10, zf_8_11, zf_8_12, zf_8_13, zf_8_14, zf_8_15, zf_8_16, zf_8_17, zf_8_18, zf_8_19, zf_8_20, zf_8_21, zf_8_22, zf_8_23, zf_8_24, zf_8_25, zf_8_26, zf_8_27, zf_8_28, zf_8_29, zf_8_30, zf_8_31, zf_8_32, zf_8_33, zf_8_34, zf_8_35, zf_8_36, zf_8_37, zf_8_38, zf_8_39, zf_8_40, zf_8_41, zf_8_42, zf_8_43, zf_8_44, zf_8_45, zf_8_46, zln_9, zln_10, zln_15, zln_16, zln_17, zln_18, zln_19, zln_20, zln_21, zln_23, zln_24, zln_11, zln_12, zln_13, zln_14, zln_22_4, zln_22_5, zln_22_6, zln_22_7, zln_22_8, zln_22_9, zln_22_11, zln_22_12, zln_22_13, zln_22_14, zln_22_15, zln_22_16, zln_22_17, zln_22_18, zln_22_20, zln_22_22, zln_22_23, zln_22_24, zln_22_26, zln_22_27, zln_22_29, zln_22_30, zln_22_31, zln_22_32, zln_22_33, zln_22_34, zln_22_36, zln_22_37, zln_22_38, zln_22_39, zln_22_40, zln_22_45, zchild, zcnt, zc1b, zble, zbeq, z_push, z_ild, z_ald, z_ist, z_ast, z_inc, z_bin, z_dvn, z_un, z_dup, z_dup2, z_pop, z_if, z_cmp, z_ifnull, z_pnull, z_acn, z_gf, z_gfn, z_pf, z_pfz, z_pfr, z_iald, z_iast, z_bald, z_bast, z_aald, z_alen, z_ret, z_invV, z_invS, z_invH, z_lastI, z_throw, z_sw, zup_r, h9, z8, zle_n hi (show nP S < 2147483648 by omega), p_X8_isDead e3, e4, z14, hl]
      refine p_X8_age (S := S) hc (by omega) hR' g1 hnS g2 g3 g4 ?_
      simp [zsp, zin, znth, ztake, zset, zcont, zcontH, zf_0_0, zf_0_2, zf_1_0, zf_1_1, zf_1_2, zf_1_3, zf_1_4, zf_2_0, zf_2_1, zf_2_2, zf_2_3, zf_2_4, zf_3_0, zf_3_1, zf_3_2, zf_3_3, zf_3_4, zf_3_5, zf_3_6, zf_3_7, zf_3_8, zf_3_9, zf_3_10, zf_4_0, zf_4_1, zf_4_2, zf_4_3, zf_4_4, zf_5_0, zf_5_1, zf_5_2, zf_5_3, zf_5_4, zf_5_5, zf_6_0, zf_6_1, zf_6_2, zf_7_0, zf_7_1, zf_7_2, zf_7_3, zf_7_4, zf_7_5, zf_7_6, zf_7_7, zf_7_8, zf_7_9, zf_7_10, zf_7_11, zf_7_12, zf_7_13, zf_7_14, zf_7_15, zf_7_16, zf_7_17, zf_7_18, zf_8_0, zf_8_1, zf_8_2, zf_8_3, zf_8_4, zf_8_5, zf_8_6, zf_8_7, zf_8_8, zf_8_9, zf_8_10, zf_8_11, zf_8_12, zf_8_13, zf_8_14, zf_8_15, zf_8_16, zf_8_17, zf_8_18, zf_8_19, zf_8_20, zf_8_21, zf_8_22, zf_8_23, zf_8_24, zf_8_25, zf_8_26, zf_8_27, zf_8_28, zf_8_29, zf_8_30, zf_8_31, zf_8_32, zf_8_33, zf_8_34, zf_8_35, zf_8_36, zf_8_37, zf_8_38, zf_8_39, zf_8_40, zf_8_41, zf_8_42, zf_8_43, zf_8_44, zf_8_45, zf_8_46, zln_9, zln_10, zln_15, zln_16, zln_17, zln_18, zln_19, zln_20, zln_21, zln_23, zln_24, zln_11, zln_12, zln_13, zln_14, zln_22_4, zln_22_5, zln_22_6, zln_22_7, zln_22_8, zln_22_9, zln_22_11, zln_22_12, zln_22_13, zln_22_14, zln_22_15, zln_22_16, zln_22_17, zln_22_18, zln_22_20, zln_22_22, zln_22_23, zln_22_24, zln_22_26, zln_22_27, zln_22_29, zln_22_30, zln_22_31, zln_22_32, zln_22_33, zln_22_34, zln_22_36, zln_22_37, zln_22_38, zln_22_39, zln_22_40, zln_22_45, zchild, zcnt, zc1b, zble, zbeq, z_push, z_ild, z_ald, z_ist, z_ast, z_inc, z_bin, z_dvn, z_un, z_dup, z_dup2, z_pop, z_if, z_cmp, z_ifnull, z_pnull, z_acn, z_gf, z_gfn, z_pf, z_pfz, z_pfr, z_iald, z_iast, z_bald, z_bast, z_aald, z_alen, z_ret, z_invV, z_invS, z_invH, z_lastI, z_throw, z_sw, zup_r, e1]
      exact key
    · rw [← zmq_s (T := zmq T i (zpm S T)) (fun r => by simp [zpm, hl, z1]) (fun r => by simp [zpm, z1]) (fun k' r j h => rfl)] at key
      simp [zb_X8_month_79, zb_X8_month_100, zsp, zin, znth, ztake, zset, zcont, zcontH, zf_0_0, zf_0_2, zf_1_0, zf_1_1, zf_1_2, zf_1_3, zf_1_4, zf_2_0, zf_2_1, zf_2_2, zf_2_3, zf_2_4, zf_3_0, zf_3_1, zf_3_2, zf_3_3, zf_3_4, zf_3_5, zf_3_6, zf_3_7, zf_3_8, zf_3_9, zf_3_10, zf_4_0, zf_4_1, zf_4_2, zf_4_3, zf_4_4, zf_5_0, zf_5_1, zf_5_2, zf_5_3, zf_5_4, zf_5_5, zf_6_0, zf_6_1, zf_6_2, zf_7_0, zf_7_1, zf_7_2, zf_7_3, zf_7_4, zf_7_5, zf_7_6, zf_7_7, zf_7_8, zf_7_9, zf_7_10, zf_7_11, zf_7_12, zf_7_13, zf_7_14, zf_7_15, zf_7_16, zf_7_17, zf_7_18, zf_8_0, zf_8_1, zf_8_2, zf_8_3, zf_8_4, zf_8_5, zf_8_6, zf_8_7, zf_8_8, zf_8_9, zf_8_10, zf_8_11, zf_8_12, zf_8_13, zf_8_14, zf_8_15, zf_8_16, zf_8_17, zf_8_18, zf_8_19, zf_8_20, zf_8_21, zf_8_22, zf_8_23, zf_8_24, zf_8_25, zf_8_26, zf_8_27, zf_8_28, zf_8_29, zf_8_30, zf_8_31, zf_8_32, zf_8_33, zf_8_34, zf_8_35, zf_8_36, zf_8_37, zf_8_38, zf_8_39, zf_8_40, zf_8_41, zf_8_42, zf_8_43, zf_8_44, zf_8_45, zf_8_46, zln_9, zln_10, zln_15, zln_16, zln_17, zln_18, zln_19, zln_20, zln_21, zln_23, zln_24, zln_11, zln_12, zln_13, zln_14, zln_22_4, zln_22_5, zln_22_6, zln_22_7, zln_22_8, zln_22_9, zln_22_11, zln_22_12, zln_22_13, zln_22_14, zln_22_15, zln_22_16, zln_22_17, zln_22_18, zln_22_20, zln_22_22, zln_22_23, zln_22_24, zln_22_26, zln_22_27, zln_22_29, zln_22_30, zln_22_31, zln_22_32, zln_22_33, zln_22_34, zln_22_36, zln_22_37, zln_22_38, zln_22_39, zln_22_40, zln_22_45, zchild, zcnt, zc1b, zble, zbeq, z_push, z_ild, z_ald, z_ist, z_ast, z_inc, z_bin, z_dvn, z_un, z_dup, z_dup2, z_pop, z_if, z_cmp, z_ifnull, z_pnull, z_acn, z_gf, z_gfn, z_pf, z_pfz, z_pfr, z_iald, z_iast, z_bald, z_bast, z_aald, z_alen, z_ret, z_invV, z_invS, z_invH, z_lastI, z_throw, z_sw, zup_r, h9, z8, zle_n hi (show nP S < 2147483648 by omega), p_X8_isDead e3, e4, z14, hl, e1]
      exact key
/-- the price behind the month -/
def zmx1 (x : Int32) : Int32 := if 1 < x then x else 1
def zrise (j t : Int32) : Int32 := zmn j (zm0 (t - 7))
def zfallp (j t : Int32) : Int32 := zmn j (zm0 (3 - t))
def zprc (j a t : Int32) : Int32 := zmx1 (zmn 24 (a + zrise j t - zfallp j t))
theorem zmn_f (a b : Int32) : (if b < a then b else a) = zmn a b := rfl
theorem zmx1_f (a : Int32) : (if 1 < a then a else 1) = zmx1 a := rfl
def zmore (j t : Int32) : Int32 := if 7 < t then (if j ≤ t - 7 then j else t - 7) else if t < 3 then -(if j ≤ 3 - t then j else 3 - t) else 0
def zprm (j a t : Int32) : Int32 := if a + zmore j t < 1 then 1 else (if 24 ≤ a + zmore j t then 24 else a + zmore j t)
set_option maxRecDepth 100000 in
theorem zprc_fin : ∀ t : Fin 11, ∀ j : Fin 10, ∀ a : Fin 25, zprc (nI j) (nI a) (nI t) = zprm (nI j) (nI a) (nI t) := by decide +kernel
theorem zprc_bt : ∀ t : Fin 11, ∀ j : Fin 10, ∀ a : Fin 25, (1 : Int32) ≤ zprc (nI j) (nI a) (nI t) ∧ zprc (nI j) (nI a) (nI t) ≤ 24 := by decide +kernel
/-- tenths -/
theorem ztenths {s l : Int32} {n m : Nat} (hs : zrg s n) (hl : zrg l m) (hn : n ≤ 6000000) (hm : n + m < 2147483648) (h0 : 0 < s + l) : (10 * s / (s + l)).toInt = 10 * s.toInt / (s.toInt + l.toInt) ∧ ¬ s + l = 0 ∧ (((10 : Int64) * s.toInt64 / (s + l).toInt64).toInt32 = 10 * s / (s + l)) ∧ ¬ (s + l).toInt64 = 0 := by
  obtain ⟨s1, s2⟩ := hs
  obtain ⟨l1, l2⟩ := hl
  have e10 : (10 : Int32).toInt = 10 := by decide
  have a1 := zadd_i (a := s) (b := l) (by omega) (by omega)
  have m1 := zmul_i (a := 10) (b := s) (by rw [e10]; omega) (by rw [e10]; omega)
  rw [e10] at m1
  rw [zlt_iff, zti0] at h0
  have d1 := zdiv_i (a := 10 * s) (b := s + l) (by omega) h0
  rw [m1, a1] at d1
  have d2 : 0 ≤ 10 * s.toInt / (s.toInt + l.toInt) := Int.ediv_nonneg (by omega) (by omega)
  have d3 : 10 * s.toInt / (s.toInt + l.toInt) ≤ 10 * s.toInt := Int.ediv_le_self _ (by omega)
  have n0 : ¬ s + l = 0 := fun e => by
    rw [e, zti0] at h0
    omega
  have x1 : (s.toInt64).toInt = s.toInt := Int32.toInt_toInt64 s
  have x2 : ((s + l).toInt64).toInt = (s + l).toInt := Int32.toInt_toInt64 _
  have x10 : (10 : Int64).toInt = 10 := by decide
  have y1 : ((10 : Int64) * s.toInt64).toInt = 10 * s.toInt := by
    rw [Int64.toInt_mul, x10, x1, Int.bmod_def]
    split <;> omega
  have y2 : ((10 : Int64) * s.toInt64 / (s + l).toInt64).toInt = 10 * s.toInt / (s.toInt + l.toInt) := by
    rw [Int64.toInt_div, y1, x2, a1, Int.tdiv_eq_ediv_of_nonneg (by omega), Int.bmod_def]
    split <;> omega
  refine ⟨d1, n0, ?_, fun e => ?_⟩
  · rw [zeq_iff, d1, Int64.toInt_toInt32, y2]
    exact zbm (by omega) (by omega)
  · have := congrArg Int64.toInt e
    rw [x2] at this
    have z : (0 : Int64).toInt = 0 := by decide
    omega
