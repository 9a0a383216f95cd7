/-- the model's goods behind the month -/
def zgm (S T : ZS) (k r j : Nat) : Int32 := if k = 22 ∧ r = 8 then 0 else if k = 22 ∧ r = 6 ∧ S 2 j 0 = 1 then zamt S (zll S j) j else T k r j
set_option maxRecDepth 20000 in
set_option maxHeartbeats 4000000 in
theorem p_X8_goods {S T : ZS} {K : ZK} {n m : Nat} (hnS : nS S ≤ 6) (h28 : T 8 0 28 = nI (nS S)) (h2 : T 8 0 2 = S 7 0 12) (hj : zrg (S 7 0 12) 9) (hR : ∀ g, g < 6 → zRg S T g) (hs : ∀ g, g < 6 → zrg (S 2 g 3) n) (hl : ∀ g, g < 6 → zrg (zll S g) m) (hn : n ≤ 6000000) (hm : n + m < 2147483648) (ha : ∀ g, g < 6 → S 2 g 0 = 1 → zbt (S 2 g 1) 1 24) (hK : z_loop (fun J154 => zb_X8_month_154 J154) [some (zr 8 0), some (zi 0)] [] (zup (zup (zup (zmq T 6 (zgm S T)) 8 0 0 (T 8 0 0 + 1)) 8 0 3 0) 8 0 21 0) K) : z_loop (fun J108 => zb_X8_month_108 J108) [some (zr 8 0), some (zi 0)] [] T K := by
  refine z_loop_P (m := 6) (fun m L S' => ∃ i, i + m = 6 ∧ S' = zmq T i (zgm S T) ∧ L = [some (zr 8 0), some (zi (nI i))]) ?_ ⟨0, by omega, (zmq_0 T (zgm S T)).symm, rfl⟩
  rintro m' L S' ⟨i, him, rfl, rfl⟩ k hk
  have z8 : ∀ f, zmq T i (zgm S T) 8 0 f = T 8 0 f := fun f => rfl
  rcases m' with _ | m'
  · obtain rfl : i = 6 := by omega
    have e2 : (6 : Int32) ≤ nI 6 := by decide
    simp [zb_X8_month_108, zsp, zin, znth, ztake, zset, zcont, zcontH, zf_0_0, zf_0_2, zf_1_0, zf_1_1, zf_1_2, zf_1_3, zf_1_4, zf_2_0, zf_2_1, zf_2_2, zf_2_3, zf_2_4, zf_3_0, zf_3_1, zf_3_2, zf_3_3, zf_3_4, zf_3_5, zf_3_6, zf_3_7, zf_3_8, zf_3_9, zf_3_10, zf_4_0, zf_4_1, zf_4_2, zf_4_3, zf_4_4, zf_5_0, zf_5_1, zf_5_2, zf_5_3, zf_5_4, zf_5_5, zf_6_0, zf_6_1, zf_6_2, zf_7_0, zf_7_1, zf_7_2, zf_7_3, zf_7_4, zf_7_5, zf_7_6, zf_7_7, zf_7_8, zf_7_9, zf_7_10, zf_7_11, zf_7_12, zf_7_13, zf_7_14, zf_7_15, zf_7_16, zf_7_17, zf_7_18, zf_8_0, zf_8_1, zf_8_2, zf_8_3, zf_8_4, zf_8_5, zf_8_6, zf_8_7, zf_8_8, zf_8_9, zf_8_10, zf_8_11, zf_8_12, zf_8_13, zf_8_14, zf_8_15, zf_8_16, zf_8_17, zf_8_18, zf_8_19, zf_8_20, zf_8_21, zf_8_22, zf_8_23, zf_8_24, zf_8_25, zf_8_26, zf_8_27, zf_8_28, zf_8_29, zf_8_30, zf_8_31, zf_8_32, zf_8_33, zf_8_34, zf_8_35, zf_8_36, zf_8_37, zf_8_38, zf_8_39, zf_8_40, zf_8_41, zf_8_42, zf_8_43, zf_8_44, zf_8_45, zf_8_46, zln_9, zln_10, zln_15, zln_16, zln_17, zln_18, zln_19, zln_20, zln_21, zln_23, zln_24, zln_11, zln_12, zln_13, zln_14, zln_22_4, zln_22_5, zln_22_6, zln_22_7, zln_22_8, zln_22_9, zln_22_11, zln_22_12, zln_22_13, zln_22_14, zln_22_15, zln_22_16, zln_22_17, zln_22_18, zln_22_20, zln_22_22, zln_22_23, zln_22_24, zln_22_26, zln_22_27, zln_22_29, zln_22_30, zln_22_31, zln_22_32, zln_22_33, zln_22_34, zln_22_36, zln_22_37, zln_22_38, zln_22_39, zln_22_40, zln_22_45, zchild, zcnt, zc1b, zble, zbeq, z_push, z_ild, z_ald, z_ist, z_ast, z_inc, z_bin, z_dvn, z_un, z_dup, z_dup2, z_pop, z_if, z_cmp, z_ifnull, z_pnull, z_acn, z_gf, z_gfn, z_pf, z_pfz, z_pfr, z_iald, z_iast, z_bald, z_bast, z_aald, z_alen, z_ret, z_invV, z_invS, z_invH, z_lastI, z_throw, z_sw, zup_r, e2, z8]
    exact hK
  · have hi : i < 6 := by omega
    have e1 : nI i + 1 = nI (i + 1) := nI_add i 1
    have e2 : ¬ (6 : Int32) ≤ nI i := zle_n hi (by decide)
    have e3 := vp_in_nI hi (show 6 < 2147483648 by decide)
    have e4 := nI_clamp (show i < 2 ^ 31 by omega)
    have key := hk m' rfl _ _ ⟨i + 1, by omega, rfl, rfl⟩
    have z1 : ∀ k r, zmq T i (zgm S T) k r i = T k r i := fun k r => if_neg (by omega)
    have z30 : ∀ j, zmq T i (zgm S T) 22 30 j = T 22 30 j := fun j => by
      unfold zmq zgm
      by_cases h : (22 = 22 ∨ 22 = 23) ∧ j < i
      · rw [if_pos h, if_neg (by decide), if_neg (fun h' => absurd h'.2.1 (by decide))]
      · rw [if_neg h]
    have hR' : zRg S (zmq T i (zgm S T)) i := by
      obtain ⟨t1, t2, t3, t4⟩ := hR i hi
      refine ⟨by rw [z1, t1], fun e => by rw [z1, t2 e], by rw [z1, t3], fun s hs => by rw [z30, t4 s hs]⟩
    simp [zb_X8_month_108, zsp, zin, znth, ztake, zset, zcont, zcontH, zf_0_0, zf_0_2, zf_1_0, zf_1_1, zf_1_2, zf_1_3, zf_1_4, zf_2_0, zf_2_1, zf_2_2, zf_2_3, zf_2_4, zf_3_0, zf_3_1, zf_3_2, zf_3_3, zf_3_4, zf_3_5, zf_3_6, zf_3_7, zf_3_8, zf_3_9, zf_3_10, zf_4_0, zf_4_1, zf_4_2, zf_4_3, zf_4_4, zf_5_0, zf_5_1, zf_5_2, zf_5_3, zf_5_4, zf_5_5, zf_6_0, zf_6_1, zf_6_2, zf_7_0, zf_7_1, zf_7_2, zf_7_3, zf_7_4, zf_7_5, zf_7_6, zf_7_7, zf_7_8, zf_7_9, zf_7_10, zf_7_11, zf_7_12, zf_7_13, zf_7_14, zf_7_15, zf_7_16, zf_7_17, zf_7_18, zf_8_0, zf_8_1, zf_8_2, zf_8_3, zf_8_4, zf_8_5, zf_8_6, zf_8_7, zf_8_8, zf_8_9, zf_8_10, zf_8_11, zf_8_12, zf_8_13, zf_8_14, zf_8_15, zf_8_16, zf_8_17, zf_8_18, zf_8_19, zf_8_20, zf_8_21, zf_8_22, zf_8_23, zf_8_24, zf_8_25, zf_8_26, zf_8_27, zf_8_28, zf_8_29, zf_8_30, zf_8_31, zf_8_32, zf_8_33, zf_8_34, zf_8_35, zf_8_36, zf_8_37, zf_8_38, zf_8_39, zf_8_40, zf_8_41, zf_8_42, zf_8_43, zf_8_44, zf_8_45, zf_8_46, zln_9, zln_10, zln_15, zln_16, zln_17, zln_18, zln_19, zln_20, zln_21, zln_23, zln_24, zln_11, zln_12, zln_13, zln_14, zln_22_4, zln_22_5, zln_22_6, zln_22_7, zln_22_8, zln_22_9, zln_22_11, zln_22_12, zln_22_13, zln_22_14, zln_22_15, zln_22_16, zln_22_17, zln_22_18, zln_22_20, zln_22_22, zln_22_23, zln_22_24, zln_22_26, zln_22_27, zln_22_29, zln_22_30, zln_22_31, zln_22_32, zln_22_33, zln_22_34, zln_22_36, zln_22_37, zln_22_38, zln_22_39, zln_22_40, zln_22_45, zchild, zcnt, zc1b, zble, zbeq, z_push, z_ild, z_ald, z_ist, z_ast, z_inc, z_bin, z_dvn, z_un, z_dup, z_dup2, z_pop, z_if, z_cmp, z_ifnull, z_pnull, z_acn, z_gf, z_gfn, z_pf, z_pfz, z_pfr, z_iald, z_iast, z_bald, z_bast, z_aald, z_alen, z_ret, z_invV, z_invS, z_invH, z_lastI, z_throw, z_sw, zup_r, e2]
    refine p_X8_reprice (S := S) hi hnS h28 h2 hj hR' (hs i hi) (hl i hi) hn hm (ha i hi) ?_
    have hq := zadd_i (a := S 2 i 3) (b := zll S i) (by have := (hs i hi).1; have := (hl i hi).1; omega) (by have := (hs i hi).2; have := (hl i hi).2; omega)
    by_cases hc : S 2 i 0 = 1 ∧ 0 < S 2 i 3 + zll S i
    · rw [if_pos hc]
      simp [zsp, zin, znth, ztake, zset, zcont, zcontH, zf_0_0, zf_0_2, zf_1_0, zf_1_1, zf_1_2, zf_1_3, zf_1_4, zf_2_0, zf_2_1, zf_2_2, zf_2_3, zf_2_4, zf_3_0, zf_3_1, zf_3_2, zf_3_3, zf_3_4, zf_3_5, zf_3_6, zf_3_7, zf_3_8, zf_3_9, zf_3_10, zf_4_0, zf_4_1, zf_4_2, zf_4_3, zf_4_4, zf_5_0, zf_5_1, zf_5_2, zf_5_3, zf_5_4, zf_5_5, zf_6_0, zf_6_1, zf_6_2, zf_7_0, zf_7_1, zf_7_2, zf_7_3, zf_7_4, zf_7_5, zf_7_6, zf_7_7, zf_7_8, zf_7_9, zf_7_10, zf_7_11, zf_7_12, zf_7_13, zf_7_14, zf_7_15, zf_7_16, zf_7_17, zf_7_18, zf_8_0, zf_8_1, zf_8_2, zf_8_3, zf_8_4, zf_8_5, zf_8_6, zf_8_7, zf_8_8, zf_8_9, zf_8_10, zf_8_11, zf_8_12, zf_8_13, zf_8_14, zf_8_15, zf_8_16, zf_8_17, zf_8_18, zf_8_19, zf_8_20, zf_8_21, zf_8_22, zf_8_23, zf_8_24, zf_8_25, zf_8_26, zf_8_27, zf_8_28, zf_8_29, zf_8_30, zf_8_31, zf_8_32, zf_8_33, zf_8_34, zf_8_35, zf_8_36, zf_8_37, zf_8_38, zf_8_39, zf_8_40, zf_8_41, zf_8_42, zf_8_43, zf_8_44, zf_8_45, zf_8_46, zln_9, zln_10, zln_15, zln_16, zln_17, zln_18, zln_19, zln_20, zln_21, zln_23, zln_24, zln_11, zln_12, zln_13, zln_14, zln_22_4, zln_22_5, zln_22_6, zln_22_7, zln_22_8, zln_22_9, zln_22_11, zln_22_12, zln_22_13, zln_22_14, zln_22_15, zln_22_16, zln_22_17, zln_22_18, zln_22_20, zln_22_22, zln_22_23, zln_22_24, zln_22_26, zln_22_27, zln_22_29, zln_22_30, zln_22_31, zln_22_32, zln_22_33, zln_22_34, zln_22_36, zln_22_37, zln_22_38, zln_22_39, zln_22_40, zln_22_45, zchild, zcnt, zc1b, zble, zbeq, z_push, z_ild, z_ald, z_ist, z_ast, z_inc, z_bin, z_dvn, z_un, z_dup, z_dup2, z_pop, z_if, z_cmp, z_ifnull, z_pnull, z_acn, z_gf, z_gfn, z_pf, z_pfz, z_pfr, z_iald, z_iast, z_bald, z_bast, z_aald, z_alen, z_ret, z_invV, z_invS, z_invH, z_lastI, z_throw, z_sw, zup_r, e3, e4, e1]
      rw [← zmq_s (T := zup (zup (zmq T i (zgm S T)) 22 6 i (zamt S (zll S i) i)) 22 8 i 0) (fun r => by
        by_cases f3 : r = 8
        · simp [zup, zgm, f3]
        · by_cases f4 : r = 6
          · simp [zup, zgm, f4, hc.1]
          · simp [zup, zgm, f3, f4, z1]) (fun r => by simp [zup, zgm, z1]) (fun k' r j h => by
        have h5 : ∀ x, ¬ (k' = 22 ∧ r = x ∧ j = i) := fun x h' => h ⟨Or.inl h'.1, h'.2.2⟩
        simp [zup, h5])] at key
      exact key
    · rw [if_neg hc]
      simp [zsp, zin, znth, ztake, zset, zcont, zcontH, zf_0_0, zf_0_2, zf_1_0, zf_1_1, zf_1_2, zf_1_3, zf_1_4, zf_2_0, zf_2_1, zf_2_2, zf_2_3, zf_2_4, zf_3_0, zf_3_1, zf_3_2, zf_3_3, zf_3_4, zf_3_5, zf_3_6, zf_3_7, zf_3_8, zf_3_9, zf_3_10, zf_4_0, zf_4_1, zf_4_2, zf_4_3, zf_4_4, zf_5_0, zf_5_1, zf_5_2, zf_5_3, zf_5_4, zf_5_5, zf_6_0, zf_6_1, zf_6_2, zf_7_0, zf_7_1, zf_7_2, zf_7_3, zf_7_4, zf_7_5, zf_7_6, zf_7_7, zf_7_8, zf_7_9, zf_7_10, zf_7_11, zf_7_12, zf_7_13, zf_7_14, zf_7_15, zf_7_16, zf_7_17, zf_7_18, zf_8_0, zf_8_1, zf_8_2, zf_8_3, zf_8_4, zf_8_5, zf_8_6, zf_8_7, zf_8_8, zf_8_9, zf_8_10, zf_8_11, zf_8_12, zf_8_13, zf_8_14, zf_8_15, zf_8_16, zf_8_17, zf_8_18, zf_8_19, zf_8_20, zf_8_21, zf_8_22, zf_8_23, zf_8_24, zf_8_25, zf_8_26, zf_8_27, zf_8_28, zf_8_29, zf_8_30, zf_8_31, zf_8_32, zf_8_33, zf_8_34, zf_8_35, zf_8_36, zf_8_37, zf_8_38, zf_8_39, zf_8_40, zf_8_41, zf_8_42, zf_8_43, zf_8_44, zf_8_45, zf_8_46, zln_9, zln_10, zln_15, zln_16, zln_17, zln_18, zln_19, zln_20, zln_21, zln_23, zln_24, zln_11, zln_12, zln_13, zln_14, zln_22_4, zln_22_5, zln_22_6, zln_22_7, zln_22_8, zln_22_9, zln_22_11, zln_22_12, zln_22_13, zln_22_14, zln_22_15, zln_22_16, zln_22_17, zln_22_18, zln_22_20, zln_22_22, zln_22_23, zln_22_24, zln_22_26, zln_22_27, zln_22_29, zln_22_30, zln_22_31, zln_22_32, zln_22_33, zln_22_34, zln_22_36, zln_22_37, zln_22_38, zln_22_39, zln_22_40, zln_22_45, zchild, zcnt, zc1b, zble, zbeq, z_push, z_ild, z_ald, z_ist, z_ast, z_inc, z_bin, z_dvn, z_un, z_dup, z_dup2, z_pop, z_if, z_cmp, z_ifnull, z_pnull, z_acn, z_gf, z_gfn, z_pf, z_pfz, z_pfr, z_iald, z_iast, z_bald, z_bast, z_aald, z_alen, z_ret, z_invV, z_invS, z_invH, z_lastI, z_throw, z_sw, zup_r, e3, e4, e1]
      rw [← zmq_s (T := zup (zmq T i (zgm S T)) 22 8 i 0) (fun r => by
        by_cases f3 : r = 8
        · simp [zup, zgm, f3]
        · by_cases f4 : r = 6
          · by_cases h1 : S 2 i 0 = 1
            · have h0 : ¬ 0 < S 2 i 3 + zll S i := fun h => hc ⟨h1, h⟩
              have ht := (hR i hi).2.1 h1
              have h10 : zamt S (zll S i) i = S 2 i 1 := if_neg h0
              simp [zup, zgm, f4, h1, z1, h10, ht]
            · simp [zup, zgm, f4, h1, z1]
          · simp [zup, zgm, f3, f4, z1]) (fun r => by simp [zup, zgm, z1]) (fun k' r j h => by
        have h5 : ∀ x, ¬ (k' = 22 ∧ r = x ∧ j = i) := fun x h' => h ⟨Or.inl h'.1, h'.2.2⟩
        simp [zup, h5])] at key
      exact key
