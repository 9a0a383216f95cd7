def zrm (T : ZS) (k r j : Nat) : Int32 := if k = 22 ∧ r = 12 then T 22 13 j else if k = 22 ∧ (r = 16 ∨ r = 17 ∨ r = 18) then 0 else if k = 23 ∧ r = 19 then 0 else T k r j
set_option maxRecDepth 20000 in
set_option maxHeartbeats 2000000 in
theorem p_X8_reset {T : ZS} {K : ZK} {n : Nat} (h9 : T 8 0 10 = nI n) (hn : n ≤ 20) (hK : K (.inl (some (.inl (T 8 0 0)))) (zrowk (zmq T n (zrm T)) 22 20 (fun j => if j < 120 then 0 else zmq T n (zrm T) 22 20 j))) : z_loop (fun J154 => zb_X8_month_154 J154) [some (zr 8 0), some (zi 0)] [] T K := by
  have fin : z_loop (fun J210 => zb_X8_month_210 J210) [some (zr 8 0), some (zi (nI 0))] [] (zmq T n (zrm T)) K := by
    refine z_loop_P (m := 120) (fun m L S' => ∃ i, i + m = 120 ∧ S' = zrowk (zmq T n (zrm T)) 22 20 (fun j => if j < i then 0 else zmq T n (zrm T) 22 20 j) ∧ L = [some (zr 8 0), some (zi (nI i))]) ?_ ⟨0, by omega, ?_, rfl⟩
    · rintro m L S' ⟨i, hm, rfl, rfl⟩ k hk
      rcases m with _ | m
      · obtain rfl : i = 120 := by omega
        have e2 : (120 : Int32) ≤ nI 120 := by decide
        have z8 : ∀ G f, zrowk (zmq T n (zrm T)) 22 20 G 8 0 f = T 8 0 f := fun G f => rfl
        simp [zb_X8_month_210, zsp, zin, znth, ztake, zset, zcont, zcontH, zf_0_0, zf_0_2, zf_1_0, zf_1_1, zf_1_2, zf_1_3, zf_1_4, zf_2_0, zf_2_1, zf_2_2, zf_2_3, zf_2_4, zf_3_0, zf_3_1, zf_3_2, zf_3_3, zf_3_4, zf_3_5, zf_3_6, zf_3_7, zf_3_8, zf_3_9, zf_3_10, zf_4_0, zf_4_1, zf_4_2, zf_4_3, zf_4_4, zf_5_0, zf_5_1, zf_5_2, zf_5_3, zf_5_4, zf_5_5, zf_6_0, zf_6_1, zf_6_2, zf_7_0, zf_7_1, zf_7_2, zf_7_3, zf_7_4, zf_7_5, zf_7_6, zf_7_7, zf_7_8, zf_7_9, zf_7_10, zf_7_11, zf_7_12, zf_7_13, zf_7_14, zf_7_15, zf_7_16, zf_7_17, zf_7_18, zf_8_0, zf_8_1, zf_8_2, zf_8_3, zf_8_4, zf_8_5, zf_8_6, zf_8_7, zf_8_8, zf_8_9, zf_8_10, zf_8_11, zf_8_12, zf_8_13, zf_8_14, zf_8_15, zf_8_16, zf_8_17, zf_8_18, zf_8_19, zf_8_20, zf_8_21, zf_8_22, zf_8_23, zf_8_24, zf_8_25, zf_8_26, zf_8_27, zf_8_28, zf_8_29, zf_8_30, zf_8_31, zf_8_32, zf_8_33, zf_8_34, zf_8_35, zf_8_36, zf_8_37, zf_8_38, zf_8_39, zf_8_40, zf_8_41, zf_8_42, zf_8_43, zf_8_44, zf_8_45, zf_8_46, zln_9, zln_10, zln_15, zln_16, zln_17, zln_18, zln_19, zln_20, zln_21, zln_23, zln_24, zln_11, zln_12, zln_13, zln_14, zln_22_4, zln_22_5, zln_22_6, zln_22_7, zln_22_8, zln_22_9, zln_22_11, zln_22_12, zln_22_13, zln_22_14, zln_22_15, zln_22_16, zln_22_17, zln_22_18, zln_22_20, zln_22_22, zln_22_23, zln_22_24, zln_22_26, zln_22_27, zln_22_29, zln_22_30, zln_22_31, zln_22_32, zln_22_33, zln_22_34, zln_22_36, zln_22_37, zln_22_38, zln_22_39, zln_22_40, zln_22_45, zchild, zcnt, zc1b, zble, zbeq, z_push, z_ild, z_ald, z_ist, z_ast, z_inc, z_bin, z_dvn, z_un, z_dup, z_dup2, z_pop, z_if, z_cmp, z_ifnull, z_pnull, z_acn, z_gf, z_gfn, z_pf, z_pfz, z_pfr, z_iald, z_iast, z_bald, z_bast, z_aald, z_alen, z_ret, z_invV, z_invS, z_invH, z_lastI, z_throw, z_sw, zup_r, e2, z8]
        exact hK
      · have hi : i < 120 := by omega
        have e1 : nI i + 1 = nI (i + 1) := nI_add i 1
        have e2 : ¬ (120 : Int32) ≤ nI i := zle_n hi (by decide)
        have e3 := vp_in_nI hi (show 120 < 2147483648 by decide)
        have e4 := nI_clamp (show i < 2 ^ 31 by omega)
        have key := hk m rfl _ _ ⟨i + 1, by omega, rfl, rfl⟩
        have eG : zg1 (fun j => if j < i then 0 else zmq T n (zrm T) 22 20 j) i 0 = fun j => if j < i + 1 then 0 else zmq T n (zrm T) 22 20 j := by
          funext j
          unfold zg1
          by_cases h : j = i
          · rw [if_pos h, if_pos (by omega)]
          · rw [if_neg h]
            have : j < i ↔ j < i + 1 := by omega
            simp only [this]
        rw [← eG] at key
        simp [zb_X8_month_210, zsp, zin, znth, ztake, zset, zcont, zcontH, zf_0_0, zf_0_2, zf_1_0, zf_1_1, zf_1_2, zf_1_3, zf_1_4, zf_2_0, zf_2_1, zf_2_2, zf_2_3, zf_2_4, zf_3_0, zf_3_1, zf_3_2, zf_3_3, zf_3_4, zf_3_5, zf_3_6, zf_3_7, zf_3_8, zf_3_9, zf_3_10, zf_4_0, zf_4_1, zf_4_2, zf_4_3, zf_4_4, zf_5_0, zf_5_1, zf_5_2, zf_5_3, zf_5_4, zf_5_5, zf_6_0, zf_6_1, zf_6_2, zf_7_0, zf_7_1, zf_7_2, zf_7_3, zf_7_4, zf_7_5, zf_7_6, zf_7_7, zf_7_8, zf_7_9, zf_7_10, zf_7_11, zf_7_12, zf_7_13, zf_7_14, zf_7_15, zf_7_16, zf_7_17, zf_7_18, zf_8_0, zf_8_1, zf_8_2, zf_8_3, zf_8_4, zf_8_5, zf_8_6, zf_8_7, zf_8_8, zf_8_9, zf_8_10, zf_8_11, zf_8_12, zf_8_13, zf_8_14, zf_8_15, zf_8_16, zf_8_17, zf_8_18, zf_8_19, zf_8_20, zf_8_21, zf_8_22, zf_8_23, zf_8_24, zf_8_25, zf_8_26, zf_8_27, zf_8_28, zf_8_29, zf_8_30, zf_8_31, zf_8_32, zf_8_33, zf_8_34, zf_8_35, zf_8_36, zf_8_37, zf_8_38, zf_8_39, zf_8_40, zf_8_41, zf_8_42, zf_8_43, zf_8_44, zf_8_45, zf_8_46, zln_9, zln_10, zln_15, zln_16, zln_17, zln_18, zln_19, zln_20, zln_21, zln_23, zln_24, zln_11, zln_12, zln_13, zln_14, zln_22_4, zln_22_5, zln_22_6, zln_22_7, zln_22_8, zln_22_9, zln_22_11, zln_22_12, zln_22_13, zln_22_14, zln_22_15, zln_22_16, zln_22_17, zln_22_18, zln_22_20, zln_22_22, zln_22_23, zln_22_24, zln_22_26, zln_22_27, zln_22_29, zln_22_30, zln_22_31, zln_22_32, zln_22_33, zln_22_34, zln_22_36, zln_22_37, zln_22_38, zln_22_39, zln_22_40, zln_22_45, zchild, zcnt, zc1b, zble, zbeq, z_push, z_ild, z_ald, z_ist, z_ast, z_inc, z_bin, z_dvn, z_un, z_dup, z_dup2, z_pop, z_if, z_cmp, z_ifnull, z_pnull, z_acn, z_gf, z_gfn, z_pf, z_pfz, z_pfr, z_iald, z_iast, z_bald, z_bast, z_aald, z_alen, z_ret, z_invV, z_invS, z_invH, z_lastI, z_throw, z_sw, zup_r, e2, e3, e4, e1, zrowk_s]
        exact key
    · have e : (fun j => if j < 0 then (0 : Int32) else zmq T n (zrm T) 22 20 j) = fun j => zmq T n (zrm T) 22 20 j := by
        funext j
        exact if_neg (by omega)
      rw [e]
      exact (zrowk_id _ _ _).symm
  refine z_loop_P (m := n) (fun m L S' => ∃ i, i + m = n ∧ S' = zmq T i (zrm T) ∧ L = [some (zr 8 0), some (zi (nI i))]) ?_ ⟨0, by omega, (zmq_0 T (zrm T)).symm, rfl⟩
  rintro m L S' ⟨i, hm, rfl, rfl⟩ k hk
  have z8 : ∀ f, zmq T i (zrm T) 8 0 f = T 8 0 f := fun f => rfl
  rcases m with _ | m
  · obtain rfl : i = n := by omega
    simp [zb_X8_month_154, zsp, zin, znth, ztake, zset, zcont, zcontH, zf_0_0, zf_0_2, zf_1_0, zf_1_1, zf_1_2, zf_1_3, zf_1_4, zf_2_0, zf_2_1, zf_2_2, zf_2_3, zf_2_4, zf_3_0, zf_3_1, zf_3_2, zf_3_3, zf_3_4, zf_3_5, zf_3_6, zf_3_7, zf_3_8, zf_3_9, zf_3_10, zf_4_0, zf_4_1, zf_4_2, zf_4_3, zf_4_4, zf_5_0, zf_5_1, zf_5_2, zf_5_3, zf_5_4, zf_5_5, zf_6_0, zf_6_1, zf_6_2, zf_7_0, zf_7_1, zf_7_2, zf_7_3, zf_7_4, zf_7_5, zf_7_6, zf_7_7, zf_7_8, zf_7_9, zf_7_10, zf_7_11, zf_7_12, zf_7_13, zf_7_14, zf_7_15, zf_7_16, zf_7_17, zf_7_18, zf_8_0, zf_8_1, zf_8_2, zf_8_3, zf_8_4, zf_8_5, zf_8_6, zf_8_7, zf_8_8, zf_8_9, zf_8_10, zf_8_11, zf_8_12, zf_8_13, zf_8_14, zf_8_15, zf_8_16, zf_8_17, zf_8_18, zf_8_19, zf_8_20, zf_8_21, zf_8_22, zf_8_23, zf_8_24, zf_8_25, zf_8_26, zf_8_27, zf_8_28, zf_8_29, zf_8_30, zf_8_31, zf_8_32, zf_8_33, zf_8_34, zf_8_35, zf_8_36, zf_8_37, zf_8_38, zf_8_39, zf_8_40, zf_8_41, zf_8_42, zf_8_43, zf_8_44, zf_8_45, zf_8_46, zln_9, zln_10, zln_15, zln_16, zln_17, zln_18, zln_19, zln_20, zln_21, zln_23, zln_24, zln_11, zln_12, zln_13, zln_14, zln_22_4, zln_22_5, zln_22_6, zln_22_7, zln_22_8, zln_22_9, zln_22_11, zln_22_12, zln_22_13, zln_22_14, zln_22_15, zln_22_16, zln_22_17, zln_22_18, zln_22_20, zln_22_22, zln_22_23, zln_22_24, zln_22_26, zln_22_27, zln_22_29, zln_22_30, zln_22_31, zln_22_32, zln_22_33, zln_22_34, zln_22_36, zln_22_37, zln_22_38, zln_22_39, zln_22_40, zln_22_45, zchild, zcnt, zc1b, zble, zbeq, z_push, z_ild, z_ald, z_ist, z_ast, z_inc, z_bin, z_dvn, z_un, z_dup, z_dup2, z_pop, z_if, z_cmp, z_ifnull, z_pnull, z_acn, z_gf, z_gfn, z_pf, z_pfz, z_pfr, z_iald, z_iast, z_bald, z_bast, z_aald, z_alen, z_ret, z_invV, z_invS, z_invH, z_lastI, z_throw, z_sw, zup_r, h9, z8]
    exact fin
  · have hi : i < n := by omega
    have e1 : nI i + 1 = nI (i + 1) := nI_add i 1
    have z1 : ∀ k r, zmq T i (zrm T) k r i = T k r i := fun k r => if_neg (by omega)
    have e3 := vp_in_nI (show i < 20 by omega) (show 20 < 2147483648 by decide)
    have e4 := nI_clamp (show i < 2 ^ 31 by omega)
    have key := hk m rfl _ _ ⟨i + 1, by omega, rfl, rfl⟩
    rw [← zmq_s (T := zup (zup (zup (zup (zup (zmq T i (zrm T)) 22 12 i (T 22 13 i)) 22 16 i 0) 22 17 i 0) 22 18 i 0) 23 19 i 0) (fun r => by
        by_cases f1 : r = 12
        · simp [zup, zrm, f1]
        · by_cases f2 : r = 16
          · simp [zup, zrm, f2]
          · by_cases f3 : r = 17
            · simp [zup, zrm, f3]
            · by_cases f4 : r = 18
              · simp [zup, zrm, f4]
              · simp [zup, zrm, f1, f2, f3, f4, z1]) (fun r => by
        by_cases f1 : r = 19
        · simp [zup, zrm, f1]
        · simp [zup, zrm, f1, z1]) (fun k' r j h => by
        have h5 : ∀ x, ¬ (k' = 22 ∧ r = x ∧ j = i) := fun x h' => h ⟨Or.inl h'.1, h'.2.2⟩
        have h6 : ∀ x, ¬ (k' = 23 ∧ r = x ∧ j = i) := fun x h' => h ⟨Or.inr h'.1, h'.2.2⟩
        simp [zup, h5, h6])] at key
    simp [zb_X8_month_154, zsp, zin, znth, ztake, zset, zcont, zcontH, zf_0_0, zf_0_2, zf_1_0, zf_1_1, zf_1_2, zf_1_3, zf_1_4, zf_2_0, zf_2_1, zf_2_2, zf_2_3, zf_2_4, zf_3_0, zf_3_1, zf_3_2, zf_3_3, zf_3_4, zf_3_5, zf_3_6, zf_3_7, zf_3_8, zf_3_9, zf_3_10, zf_4_0, zf_4_1, zf_4_2, zf_4_3, zf_4_4, zf_5_0, zf_5_1, zf_5_2, zf_5_3, zf_5_4, zf_5_5, zf_6_0, zf_6_1, zf_6_2, zf_7_0, zf_7_1, zf_7_2, zf_7_3, zf_7_4, zf_7_5, zf_7_6, zf_7_7, zf_7_8, zf_7_9, zf_7_10, zf_7_11, zf_7_12, zf_7_13, zf_7_14, zf_7_15, zf_7_16, zf_7_17, zf_7_18, zf_8_0, zf_8_1, zf_8_2, zf_8_3, zf_8_4, zf_8_5, zf_8_6, zf_8_7, zf_8_8, zf_8_9, zf_8_10, zf_8_11, zf_8_12, zf_8_13, zf_8_14, zf_8_15, zf_8_16, zf_8_17, zf_8_18, zf_8_19, zf_8_20, zf_8_21, zf_8_22, zf_8_23, zf_8_24, zf_8_25, zf_8_26, zf_8_27, zf_8_28, zf_8_29, zf_8_30, zf_8_31, zf_8_32, zf_8_33, zf_8_34, zf_8_35, zf_8_36, zf_8_37, zf_8_38, zf_8_39, zf_8_40, zf_8_41, zf_8_42, zf_8_43, zf_8_44, zf_8_45, zf_8_46, zln_9, zln_10, zln_15, zln_16, zln_17, zln_18, zln_19, zln_20, zln_21, zln_23, zln_24, zln_11, zln_12, zln_13, zln_14, zln_22_4, zln_22_5, zln_22_6, zln_22_7, zln_22_8, zln_22_9, zln_22_11, zln_22_12, zln_22_13, zln_22_14, zln_22_15, zln_22_16, zln_22_17, zln_22_18, zln_22_20, zln_22_22, zln_22_23, zln_22_24, zln_22_26, zln_22_27, zln_22_29, zln_22_30, zln_22_31, zln_22_32, zln_22_33, zln_22_34, zln_22_36, zln_22_37, zln_22_38, zln_22_39, zln_22_40, zln_22_45, zchild, zcnt, zc1b, zble, zbeq, z_push, z_ild, z_ald, z_ist, z_ast, z_inc, z_bin, z_dvn, z_un, z_dup, z_dup2, z_pop, z_if, z_cmp, z_ifnull, z_pnull, z_acn, z_gf, z_gfn, z_pf, z_pfz, z_pfr, z_iald, z_iast, z_bald, z_bast, z_aald, z_alen, z_ret, z_invV, z_invS, z_invH, z_lastI, z_throw, z_sw, zup_r, h9, z8, zle_n hi (show n < 2147483648 by omega), e3, e4, z1, e1]
    exact key
def zbk1 (S : ZS) (p n : Nat) : ZS := fun k i f => if k = 3 ∧ i = p then (if f = 2 then nI (S 3 p 3).toNatClampNeg else if f = 6 ∨ f = 7 ∨ f = 8 ∨ f = 9 then 0 else S 3 p f) else if k = 10 ∧ i = p ∧ f < n then 0 else S k i f
set_option maxRecDepth 20000 in
set_option maxHeartbeats 2000000 in
theorem p_X3_openNewBook {S : ZS} {K : ZK} {p : Nat} (hK : K (.inl none) (zbk1 S p 6)) : sp_X3_openNewBook [zr 3 p] S K := by
  have loop := z_loop_n (body := fun J30 => zb_X3_openNewBook_30 J30) (K := K) 6 (fun i => [some (zr 3 p), some (zi (nI i))]) (fun i => zbk1 S p i) (fun i hi k hk => by
    have e1 : nI i + 1 = nI (i + 1) := nI_add i 1
    have e2 : ¬ (6 : Int32) ≤ nI i := zle_n hi (by decide)
    have e6 : (nI 6 : Int32) = 6 := rfl
    have e3 := vp_in_nI hi (show 6 < 2147483648 by decide)
    have e4 := nI_clamp (show i < 2 ^ 31 by omega)
    have es : zup (zbk1 S p i) 10 p i 0 = zbk1 S p (i + 1) := by
      funext k j f
      by_cases h : k = 10 ∧ j = p
      · obtain ⟨rfl, rfl⟩ := h
        by_cases hf : f = i
        · simp [zup, zbk1, hf]
        · have : f < i ↔ f < i + 1 := by omega
          simp [zup, zbk1, hf, this]
      · have h1 : ¬ (k = 10 ∧ j = p ∧ f = i) := fun h' => h ⟨h'.1, h'.2.1⟩
        have h2 : ∀ x, ¬ (k = 10 ∧ j = p ∧ f < x) := fun x h' => h ⟨h'.1, h'.2.1⟩
        simp [zup, zbk1, h1, h2]
    simp [zb_X3_openNewBook_30, zsp, zin, znth, ztake, zset, zcont, zcontH, zf_0_0, zf_0_2, zf_1_0, zf_1_1, zf_1_2, zf_1_3, zf_1_4, zf_2_0, zf_2_1, zf_2_2, zf_2_3, zf_2_4, zf_3_0, zf_3_1, zf_3_2, zf_3_3, zf_3_4, zf_3_5, zf_3_6, zf_3_7, zf_3_8, zf_3_9, zf_3_10, zf_4_0, zf_4_1, zf_4_2, zf_4_3, zf_4_4, zf_5_0, zf_5_1, zf_5_2, zf_5_3, zf_5_4, zf_5_5, zf_6_0, zf_6_1, zf_6_2, zf_7_0, zf_7_1, zf_7_2, zf_7_3, zf_7_4, zf_7_5, zf_7_6, zf_7_7, zf_7_8, zf_7_9, zf_7_10, zf_7_11, zf_7_12, zf_7_13, zf_7_14, zf_7_15, zf_7_16, zf_7_17, zf_7_18, zf_8_0, zf_8_1, zf_8_2, zf_8_3, zf_8_4, zf_8_5, zf_8_6, zf_8_7, zf_8_8, zf_8_9, zf_8_10, zf_8_11, zf_8_12, zf_8_13, zf_8_14, zf_8_15, zf_8_16, zf_8_17, zf_8_18, zf_8_19, zf_8_20, zf_8_21, zf_8_22, zf_8_23, zf_8_24, zf_8_25, zf_8_26, zf_8_27, zf_8_28, zf_8_29, zf_8_30, zf_8_31, zf_8_32, zf_8_33, zf_8_34, zf_8_35, zf_8_36, zf_8_37, zf_8_38, zf_8_39, zf_8_40, zf_8_41, zf_8_42, zf_8_43, zf_8_44, zf_8_45, zf_8_46, zln_9, zln_10, zln_15, zln_16, zln_17, zln_18, zln_19, zln_20, zln_21, zln_23, zln_24, zln_11, zln_12, zln_13, zln_14, zln_22_4, zln_22_5, zln_22_6, zln_22_7, zln_22_8, zln_22_9, zln_22_11, zln_22_12, zln_22_13, zln_22_14, zln_22_15, zln_22_16, zln_22_17, zln_22_18, zln_22_20, zln_22_22, zln_22_23, zln_22_24, zln_22_26, zln_22_27, zln_22_29, zln_22_30, zln_22_31, zln_22_32, zln_22_33, zln_22_34, zln_22_36, zln_22_37, zln_22_38, zln_22_39, zln_22_40, zln_22_45, zchild, zcnt, zc1b, zble, zbeq, z_push, z_ild, z_ald, z_ist, z_ast, z_inc, z_bin, z_dvn, z_un, z_dup, z_dup2, z_pop, z_if, z_cmp, z_ifnull, z_pnull, z_acn, z_gf, z_gfn, z_pf, z_pfz, z_pfr, z_iald, z_iast, z_bald, z_bast, z_aald, z_alen, z_ret, z_invV, z_invS, z_invH, z_lastI, z_throw, z_sw, zup_r, e6, e2, e3, e4, e1, es]
    exact hk) (fun k => by
    have e2 : (6 : Int32) ≤ nI 6 := by decide
    have e6 : (nI 6 : Int32) = 6 := rfl
    simp [zb_X3_openNewBook_30, zsp, zin, znth, ztake, zset, zcont, zcontH, zf_0_0, zf_0_2, zf_1_0, zf_1_1, zf_1_2, zf_1_3, zf_1_4, zf_2_0, zf_2_1, zf_2_2, zf_2_3, zf_2_4, zf_3_0, zf_3_1, zf_3_2, zf_3_3, zf_3_4, zf_3_5, zf_3_6, zf_3_7, zf_3_8, zf_3_9, zf_3_10, zf_4_0, zf_4_1, zf_4_2, zf_4_3, zf_4_4, zf_5_0, zf_5_1, zf_5_2, zf_5_3, zf_5_4, zf_5_5, zf_6_0, zf_6_1, zf_6_2, zf_7_0, zf_7_1, zf_7_2, zf_7_3, zf_7_4, zf_7_5, zf_7_6, zf_7_7, zf_7_8, zf_7_9, zf_7_10, zf_7_11, zf_7_12, zf_7_13, zf_7_14, zf_7_15, zf_7_16, zf_7_17, zf_7_18, zf_8_0, zf_8_1, zf_8_2, zf_8_3, zf_8_4, zf_8_5, zf_8_6, zf_8_7, zf_8_8, zf_8_9, zf_8_10, zf_8_11, zf_8_12, zf_8_13, zf_8_14, zf_8_15, zf_8_16, zf_8_17, zf_8_18, zf_8_19, zf_8_20, zf_8_21, zf_8_22, zf_8_23, zf_8_24, zf_8_25, zf_8_26, zf_8_27, zf_8_28, zf_8_29, zf_8_30, zf_8_31, zf_8_32, zf_8_33, zf_8_34, zf_8_35, zf_8_36, zf_8_37, zf_8_38, zf_8_39, zf_8_40, zf_8_41, zf_8_42, zf_8_43, zf_8_44, zf_8_45, zf_8_46, zln_9, zln_10, zln_15, zln_16, zln_17, zln_18, zln_19, zln_20, zln_21, zln_23, zln_24, zln_11, zln_12, zln_13, zln_14, zln_22_4, zln_22_5, zln_22_6, zln_22_7, zln_22_8, zln_22_9, zln_22_11, zln_22_12, zln_22_13, zln_22_14, zln_22_15, zln_22_16, zln_22_17, zln_22_18, zln_22_20, zln_22_22, zln_22_23, zln_22_24, zln_22_26, zln_22_27, zln_22_29, zln_22_30, zln_22_31, zln_22_32, zln_22_33, zln_22_34, zln_22_36, zln_22_37, zln_22_38, zln_22_39, zln_22_40, zln_22_45, zchild, zcnt, zc1b, zble, zbeq, z_push, z_ild, z_ald, z_ist, z_ast, z_inc, z_bin, z_dvn, z_un, z_dup, z_dup2, z_pop, z_if, z_cmp, z_ifnull, z_pnull, z_acn, z_gf, z_gfn, z_pf, z_pfz, z_pfr, z_iald, z_iast, z_bald, z_bast, z_aald, z_alen, z_ret, z_invV, z_invS, z_invH, z_lastI, z_throw, z_sw, zup_r, e6, e2]
    exact hK)
  have e0 : zup (zup (zup (zup (zup S 3 p 2 (nI (S 3 p 3).toNatClampNeg)) 3 p 6 0) 3 p 7 0) 3 p 8 0) 3 p 9 0 = zbk1 S p 0 := by
    funext k j f
    by_cases h : k = 3 ∧ j = p
    · obtain ⟨rfl, rfl⟩ := h
      by_cases f2 : f = 2
      · simp [zup, zbk1, f2]
      · by_cases f6 : f = 6
        · simp [zup, zbk1, f6]
        · by_cases f7 : f = 7
          · simp [zup, zbk1, f7]
          · by_cases f8 : f = 8
            · simp [zup, zbk1, f8]
            · by_cases f9 : f = 9
              · simp [zup, zbk1, f9]
              · simp [zup, zbk1, f2, f6, f7, f8, f9]
    · have h1 : ∀ x, ¬ (k = 3 ∧ j = p ∧ f = x) := fun x h' => h ⟨h'.1, h'.2.1⟩
      simp [zup, zbk1, h, h1]
  simp [sp_X3_openNewBook, zb_X3_openNewBook_0, zsp, zin, znth, ztake, zset, zcont, zcontH, zf_0_0, zf_0_2, zf_1_0, zf_1_1, zf_1_2, zf_1_3, zf_1_4, zf_2_0, zf_2_1, zf_2_2, zf_2_3, zf_2_4, zf_3_0, zf_3_1, zf_3_2, zf_3_3, zf_3_4, zf_3_5, zf_3_6, zf_3_7, zf_3_8, zf_3_9, zf_3_10, zf_4_0, zf_4_1, zf_4_2, zf_4_3, zf_4_4, zf_5_0, zf_5_1, zf_5_2, zf_5_3, zf_5_4, zf_5_5, zf_6_0, zf_6_1, zf_6_2, zf_7_0, zf_7_1, zf_7_2, zf_7_3, zf_7_4, zf_7_5, zf_7_6, zf_7_7, zf_7_8, zf_7_9, zf_7_10, zf_7_11, zf_7_12, zf_7_13, zf_7_14, zf_7_15, zf_7_16, zf_7_17, zf_7_18, zf_8_0, zf_8_1, zf_8_2, zf_8_3, zf_8_4, zf_8_5, zf_8_6, zf_8_7, zf_8_8, zf_8_9, zf_8_10, zf_8_11, zf_8_12, zf_8_13, zf_8_14, zf_8_15, zf_8_16, zf_8_17, zf_8_18, zf_8_19, zf_8_20, zf_8_21, zf_8_22, zf_8_23, zf_8_24, zf_8_25, zf_8_26, zf_8_27, zf_8_28, zf_8_29, zf_8_30, zf_8_31, zf_8_32, zf_8_33, zf_8_34, zf_8_35, zf_8_36, zf_8_37, zf_8_38, zf_8_39, zf_8_40, zf_8_41, zf_8_42, zf_8_43, zf_8_44, zf_8_45, zf_8_46, zln_9, zln_10, zln_15, zln_16, zln_17, zln_18, zln_19, zln_20, zln_21, zln_23, zln_24, zln_11, zln_12, zln_13, zln_14, zln_22_4, zln_22_5, zln_22_6, zln_22_7, zln_22_8, zln_22_9, zln_22_11, zln_22_12, zln_22_13, zln_22_14, zln_22_15, zln_22_16, zln_22_17, zln_22_18, zln_22_20, zln_22_22, zln_22_23, zln_22_24, zln_22_26, zln_22_27, zln_22_29, zln_22_30, zln_22_31, zln_22_32, zln_22_33, zln_22_34, zln_22_36, zln_22_37, zln_22_38, zln_22_39, zln_22_40, zln_22_45, zchild, zcnt, zc1b, zble, zbeq, z_push, z_ild, z_ald, z_ist, z_ast, z_inc, z_bin, z_dvn, z_un, z_dup, z_dup2, z_pop, z_if, z_cmp, z_ifnull, z_pnull, z_acn, z_gf, z_gfn, z_pf, z_pfz, z_pfr, z_iald, z_iast, z_bald, z_bast, z_aald, z_alen, z_ret, z_invV, z_invS, z_invH, z_lastI, z_throw, z_sw, zup_r]
  rw [e0]
  exact loop
