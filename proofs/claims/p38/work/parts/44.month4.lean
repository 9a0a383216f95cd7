/-- tenths in 0..10 -/
theorem zten_rg {s l : Int32} {n m : Nat} (hs : zrg s n) (hl : zrg l m) (hn : n ≤ 6000000) (hm : n + m < 2147483648) (h0 : 0 < s + l) : ∃ t : Fin 11, 10 * s / (s + l) = nI t := by
  obtain ⟨d1, -⟩ := ztenths hs hl hn hm h0
  obtain ⟨s1, s2⟩ := hs
  obtain ⟨l1, l2⟩ := hl
  have a1 := zadd_i (a := s) (b := l) (by omega) (by omega)
  rw [zlt_iff, zti0] at h0
  have d2 : 0 ≤ 10 * s.toInt / (s.toInt + l.toInt) := Int.ediv_nonneg (by omega) (by omega)
  have d3 : 10 * s.toInt / (s.toInt + l.toInt) < 11 := Int.ediv_lt_of_lt_mul (by omega) (by omega)
  obtain ⟨v1, v2, -⟩ := vp_clamp (a := 10 * s / (s + l)) (n := 11) (by decide) ((vp_iff (by decide)).mpr ⟨by omega, by omega⟩)
  exact ⟨⟨_, v1⟩, v2⟩
theorem zfin {x : Int32} {n : Nat} (hn : n < 1000) (h : zrg x n) : ∃ j : Fin (n + 1), x = nI j := by
  obtain ⟨v1, v2, -⟩ := vp_clamp (a := x) (n := n + 1) (by omega) ((vp_iff (by omega)).mpr ⟨h.1, by have := h.2; omega⟩)
  exact ⟨⟨_, v1⟩, v2⟩
/-- the amount of a good behind the month -/
def zamt (S : ZS) (l : Int32) (g : Nat) : Int32 := if 0 < S 2 g 3 + l then zprc (S 7 0 12) (S 2 g 1) (10 * S 2 g 3 / (S 2 g 3 + l)) else S 2 g 1
theorem z_mm_n (k : ZP) (L : List (Option ZV)) (y x : Int32) (st : List ZV) (S : ZS) (K : ZK) : z_mm (fun x y => if y < x then y else x) k L (Sum.inl y :: Sum.inl x :: st) S K ↔ (st.length ≤ 4 ∧ k L (Sum.inl (zmn x y) :: st) S K) := by
  simp [z_mm, zble, zmn]
theorem z_mm_0 (k : ZP) (L : List (Option ZV)) (y : Int32) (st : List ZV) (S : ZS) (K : ZK) : z_mm (fun x y => if x < y then y else x) k L (Sum.inl y :: Sum.inl 0 :: st) S K ↔ (st.length ≤ 4 ∧ k L (Sum.inl (zm0 y) :: st) S K) := by
  simp [z_mm, zble, zm0_mx]
theorem z_mm_1 (k : ZP) (L : List (Option ZV)) (y : Int32) (st : List ZV) (S : ZS) (K : ZK) : z_mm (fun x y => if x < y then y else x) k L (Sum.inl y :: Sum.inl 1 :: st) S K ↔ (st.length ≤ 4 ∧ k L (Sum.inl (zmx1 y) :: st) S K) := by
  simp [z_mm, zble, zmx1]
def zrp4 : ZP := z_ald 1 (z_push 1 (z_push 24 (z_ald 1 (z_gf 2 1 (z_ild 5 (z_bin (fun x y => x + y) (z_ild 6 (z_bin (fun x y => x - y) (z_mm (fun x y => if y < x then y else x) (z_mm (fun x y => if x < y then y else x) (z_pf 2 1 (z_ret 0))))))))))))
def zrp3 : ZP := z_ald 0 (z_gf 7 12 (z_push 0 (z_push 3 (z_ild 4 (z_bin (fun x y => x - y) (z_mm (fun x y => if x < y then y else x) (z_mm (fun x y => if y < x then y else x) (z_ist 6 zrp4))))))))
def zrp2 : ZP := z_ald 0 (z_gf 7 12 (z_push 0 (z_ild 4 (z_push 7 (z_bin (fun x y => x - y) (z_mm (fun x y => if x < y then y else x) (z_mm (fun x y => if y < x then y else x) (z_ist 5 zrp3))))))))
def zrp1 : ZP := z_push 10 (z_ald 1 (z_gf 2 3 (z_bin (fun x y => x * y) (z_ild 3 (z_dvn (fun x y => x / y) (z_ist 4 zrp2))))))
theorem zrp_eq : zb_X7_repriceGood_0 = z_ald 1 (z_gf 2 3 (z_ild 2 (z_bin (fun x y => x + y) (z_ist 3 (z_ild 3 (z_if (fun x => 0 < x) zrp1 (z_ret 0))))))) := rfl
set_option maxRecDepth 20000 in
set_option maxHeartbeats 2000000 in
theorem p_X7_repriceGood {S : ZS} {K : ZK} {g : Nat} (l : Int32) (h0 : 0 < S 2 g 3 + l → ¬ S 2 g 3 + l = 0) (hK : ∀ S', S' = zup S 2 g 1 (zamt S l g) → K (.inl none) S') : sp_X7_repriceGood [zr 7 0, zr 2 g, zi l] S K := by
  by_cases h : 0 < S 2 g 3 + l
  · have h0' := h0 h
    have this : K (.inl none) (zup S 2 g 1 (zmx1 (zmn 24 (S 2 g 1 + zmn (S 7 0 12) (zm0 (10 * S 2 g 3 / (S 2 g 3 + l) - 7)) - zmn (S 7 0 12) (zm0 (3 - 10 * S 2 g 3 / (S 2 g 3 + l))))))) := hK _ (by rw [zamt, if_pos h, zprc, zrise, zfallp])
    rw [← zm0_mx, ← zm0_mx] at this
    have k2 : zrp2 [some (zr 7 0), some (zr 2 g), some (zi l), some (zi (S 2 g 3 + l)), some (zi (10 * S 2 g 3 / (S 2 g 3 + l))), none, none] [] S K := this
    have k1 : zrp1 [some (zr 7 0), some (zr 2 g), some (zi l), some (zi (S 2 g 3 + l)), none, none, none] [] S K := ⟨h0', k2⟩
    simp [sp_X7_repriceGood, zrp_eq, zsp, zin, znth, ztake, zset, zcont, zcontH, zf_0_0, zf_0_2, zf_1_0, zf_1_1, zf_1_2, zf_1_3, zf_1_4, zf_2_0, zf_2_1, zf_2_2, zf_2_3, zf_2_4, zf_3_0, zf_3_1, zf_3_2, zf_3_3, zf_3_4, zf_3_5, zf_3_6, zf_3_7, zf_3_8, zf_3_9, zf_3_10, zf_4_0, zf_4_1, zf_4_2, zf_4_3, zf_4_4, zf_5_0, zf_5_1, zf_5_2, zf_5_3, zf_5_4, zf_5_5, zf_6_0, zf_6_1, zf_6_2, zf_7_0, zf_7_1, zf_7_2, zf_7_3, zf_7_4, zf_7_5, zf_7_6, zf_7_7, zf_7_8, zf_7_9, zf_7_10, zf_7_11, zf_7_12, zf_7_13, zf_7_14, zf_7_15, zf_7_16, zf_7_17, zf_7_18, zln_9, zln_10, zln_15, zln_16, zln_17, zln_18, zln_19, zln_20, zln_21, zln_11, zln_12, zln_13, zln_14, zchild, zcnt, zc1b, zble, zbeq, z_push, z_ild, z_ald, z_ist, z_ast, z_inc, z_bin, z_dvn, z_un, z_dup, z_dup2, z_pop, z_if, z_cmp, z_ifnull, z_pnull, z_acn, z_gf, z_gfn, z_pf, z_pfz, z_pfr, z_iald, z_iast, z_aald, z_alen, z_ret, z_invV, z_invS, z_invH, z_throw, z_sw, zup_r, h]
    exact k1
  · have e : zup S 2 g 1 (S 2 g 1) = S := by
      funext k i f
      unfold zup
      by_cases h : k = 2 ∧ i = g ∧ f = 1
      · rw [if_pos h, h.1, h.2.1, h.2.2]
      · rw [if_neg h]
    have this : K (.inl none) S := hK _ (by rw [zamt, if_neg h, e])
    simp [sp_X7_repriceGood, zrp_eq, zsp, zin, znth, ztake, zset, zcont, zcontH, zf_0_0, zf_0_2, zf_1_0, zf_1_1, zf_1_2, zf_1_3, zf_1_4, zf_2_0, zf_2_1, zf_2_2, zf_2_3, zf_2_4, zf_3_0, zf_3_1, zf_3_2, zf_3_3, zf_3_4, zf_3_5, zf_3_6, zf_3_7, zf_3_8, zf_3_9, zf_3_10, zf_4_0, zf_4_1, zf_4_2, zf_4_3, zf_4_4, zf_5_0, zf_5_1, zf_5_2, zf_5_3, zf_5_4, zf_5_5, zf_6_0, zf_6_1, zf_6_2, zf_7_0, zf_7_1, zf_7_2, zf_7_3, zf_7_4, zf_7_5, zf_7_6, zf_7_7, zf_7_8, zf_7_9, zf_7_10, zf_7_11, zf_7_12, zf_7_13, zf_7_14, zf_7_15, zf_7_16, zf_7_17, zf_7_18, zln_9, zln_10, zln_15, zln_16, zln_17, zln_18, zln_19, zln_20, zln_21, zln_11, zln_12, zln_13, zln_14, zchild, zcnt, zc1b, zble, zbeq, z_push, z_ild, z_ald, z_ist, z_ast, z_inc, z_bin, z_dvn, z_un, z_dup, z_dup2, z_pop, z_if, z_cmp, z_ifnull, z_pnull, z_acn, z_gf, z_gfn, z_pf, z_pfz, z_pfr, z_iald, z_iast, z_aald, z_alen, z_ret, z_invV, z_invS, z_invH, z_throw, z_sw, zup_r, h]
    exact this
def zll (S : ZS) (g : Nat) : Int32 := zsu (fun s => S 5 (6 * s + g) 0) (nS S)
def zgp (S : ZS) (i f : Nat) : Int32 := if f = 1 ∧ S 2 i 0 = 1 then zamt S (zll S i) i else S 2 i f
set_option maxRecDepth 20000 in
set_option maxHeartbeats 2000000 in
theorem p_X7_repriceGoods {S : ZS} {K : ZK} (h9 : S 7 0 9 = nI (nS S)) (hn : nS S ≤ 6) (hpos : ∀ g, g < 6 → (0 < S 2 g 3 + zll S g → ¬ S 2 g 3 + zll S g = 0)) (hK : K (.inl none) (zmp S 2 6 (zgp S))) : sp_X7_repriceGoods [zr 7 0] S K := by
  have loop : z_loop (fun J2 => zb_X7_repriceGoods_2 J2) [some (zr 7 0), some (zi (nI 0))] [] S K := by
    refine z_loop_P (m := 6) (fun m L S' => ∃ i, i + m = 6 ∧ S' = zmp S 2 i (zgp S) ∧ L = [some (zr 7 0), some (zi (nI i))]) ?_ ⟨0, by omega, (zmp_0 S 2 (zgp S)).symm, rfl⟩
    rintro m L S' ⟨i, hm, rfl, rfl⟩ k hk
    rcases m with _ | m
    · obtain rfl : i = 6 := by omega
      have e2 : (6 : Int32) ≤ nI 6 := by decide
      simp [zb_X7_repriceGoods_2, zsp, zin, znth, ztake, zset, zcont, zcontH, zf_0_0, zf_0_2, zf_1_0, zf_1_1, zf_1_2, zf_1_3, zf_1_4, zf_2_0, zf_2_1, zf_2_2, zf_2_3, zf_2_4, zf_3_0, zf_3_1, zf_3_2, zf_3_3, zf_3_4, zf_3_5, zf_3_6, zf_3_7, zf_3_8, zf_3_9, zf_3_10, zf_4_0, zf_4_1, zf_4_2, zf_4_3, zf_4_4, zf_5_0, zf_5_1, zf_5_2, zf_5_3, zf_5_4, zf_5_5, zf_6_0, zf_6_1, zf_6_2, zf_7_0, zf_7_1, zf_7_2, zf_7_3, zf_7_4, zf_7_5, zf_7_6, zf_7_7, zf_7_8, zf_7_9, zf_7_10, zf_7_11, zf_7_12, zf_7_13, zf_7_14, zf_7_15, zf_7_16, zf_7_17, zf_7_18, zln_9, zln_10, zln_15, zln_16, zln_17, zln_18, zln_19, zln_20, zln_21, zln_11, zln_12, zln_13, zln_14, zchild, zcnt, zc1b, zble, zbeq, z_push, z_ild, z_ald, z_ist, z_ast, z_inc, z_bin, z_dvn, z_un, z_dup, z_dup2, z_pop, z_if, z_cmp, z_ifnull, z_pnull, z_acn, z_gf, z_gfn, z_pf, z_pfz, z_pfr, z_iald, z_iast, z_aald, z_alen, z_ret, z_invV, z_invS, z_invH, z_throw, z_sw, zup_r, e2]
      exact hK
    · have hi : i < 6 := by omega
      have e1 : nI i + 1 = nI (i + 1) := nI_add i 1
      have e2 : ¬ (6 : Int32) ≤ nI i := zle_n hi (by decide)
      have z1 : ∀ f, zmp S 2 i (zgp S) 2 i f = S 2 i f := fun f => if_neg (by omega)
      have e3 := vp_in_nI hi (show 6 < 2147483648 by decide)
      have e4 := nI_clamp (show i < 2 ^ 31 by omega)
      have key := hk m rfl _ _ ⟨i + 1, by omega, rfl, rfl⟩
      by_cases hl : S 2 i 0 = 1
      · simp [zb_X7_repriceGoods_2, zb_X7_repriceGoods_36, zsp, zin, znth, ztake, zset, zcont, zcontH, zf_0_0, zf_0_2, zf_1_0, zf_1_1, zf_1_2, zf_1_3, zf_1_4, zf_2_0, zf_2_1, zf_2_2, zf_2_3, zf_2_4, zf_3_0, zf_3_1, zf_3_2, zf_3_3, zf_3_4, zf_3_5, zf_3_6, zf_3_7, zf_3_8, zf_3_9, zf_3_10, zf_4_0, zf_4_1, zf_4_2, zf_4_3, zf_4_4, zf_5_0, zf_5_1, zf_5_2, zf_5_3, zf_5_4, zf_5_5, zf_6_0, zf_6_1, zf_6_2, zf_7_0, zf_7_1, zf_7_2, zf_7_3, zf_7_4, zf_7_5, zf_7_6, zf_7_7, zf_7_8, zf_7_9, zf_7_10, zf_7_11, zf_7_12, zf_7_13, zf_7_14, zf_7_15, zf_7_16, zf_7_17, zf_7_18, zln_9, zln_10, zln_15, zln_16, zln_17, zln_18, zln_19, zln_20, zln_21, zln_11, zln_12, zln_13, zln_14, zchild, zcnt, zc1b, zble, zbeq, z_push, z_ild, z_ald, z_ist, z_ast, z_inc, z_bin, z_dvn, z_un, z_dup, z_dup2, z_pop, z_if, z_cmp, z_ifnull, z_pnull, z_acn, z_gf, z_gfn, z_pf, z_pfz, z_pfr, z_iald, z_iast, z_aald, z_alen, z_ret, z_invV, z_invS, z_invH, z_throw, z_sw, zup_r, e2, e3, e4, hi, z1, hl]
        refine p_X7_lies (S := zmp S 2 i (zgp S)) h9 hn e3 ?_
        rw [e4]
        simp [zsp, zin, znth, ztake, zset, zcont, zcontH, zf_0_0, zf_0_2, zf_1_0, zf_1_1, zf_1_2, zf_1_3, zf_1_4, zf_2_0, zf_2_1, zf_2_2, zf_2_3, zf_2_4, zf_3_0, zf_3_1, zf_3_2, zf_3_3, zf_3_4, zf_3_5, zf_3_6, zf_3_7, zf_3_8, zf_3_9, zf_3_10, zf_4_0, zf_4_1, zf_4_2, zf_4_3, zf_4_4, zf_5_0, zf_5_1, zf_5_2, zf_5_3, zf_5_4, zf_5_5, zf_6_0, zf_6_1, zf_6_2, zf_7_0, zf_7_1, zf_7_2, zf_7_3, zf_7_4, zf_7_5, zf_7_6, zf_7_7, zf_7_8, zf_7_9, zf_7_10, zf_7_11, zf_7_12, zf_7_13, zf_7_14, zf_7_15, zf_7_16, zf_7_17, zf_7_18, zln_9, zln_10, zln_15, zln_16, zln_17, zln_18, zln_19, zln_20, zln_21, zln_11, zln_12, zln_13, zln_14, zchild, zcnt, zc1b, zble, zbeq, z_push, z_ild, z_ald, z_ist, z_ast, z_inc, z_bin, z_dvn, z_un, z_dup, z_dup2, z_pop, z_if, z_cmp, z_ifnull, z_pnull, z_acn, z_gf, z_gfn, z_pf, z_pfz, z_pfr, z_iald, z_iast, z_aald, z_alen, z_ret, z_invV, z_invS, z_invH, z_throw, z_sw, zup_r]
        refine p_X7_repriceGood _ ?_ (fun S' e => ?_)
        · rw [z1]
          exact hpos i hi
        simp [zsp, zin, znth, ztake, zset, zcont, zcontH, zf_0_0, zf_0_2, zf_1_0, zf_1_1, zf_1_2, zf_1_3, zf_1_4, zf_2_0, zf_2_1, zf_2_2, zf_2_3, zf_2_4, zf_3_0, zf_3_1, zf_3_2, zf_3_3, zf_3_4, zf_3_5, zf_3_6, zf_3_7, zf_3_8, zf_3_9, zf_3_10, zf_4_0, zf_4_1, zf_4_2, zf_4_3, zf_4_4, zf_5_0, zf_5_1, zf_5_2, zf_5_3, zf_5_4, zf_5_5, zf_6_0, zf_6_1, zf_6_2, zf_7_0, zf_7_1, zf_7_2, zf_7_3, zf_7_4, zf_7_5, zf_7_6, zf_7_7, zf_7_8, zf_7_9, zf_7_10, zf_7_11, zf_7_12, zf_7_13, zf_7_14, zf_7_15, zf_7_16, zf_7_17, zf_7_18, zln_9, zln_10, zln_15, zln_16, zln_17, zln_18, zln_19, zln_20, zln_21, zln_11, zln_12, zln_13, zln_14, zchild, zcnt, zc1b, zble, zbeq, z_push, z_ild, z_ald, z_ist, z_ast, z_inc, z_bin, z_dvn, z_un, z_dup, z_dup2, z_pop, z_if, z_cmp, z_ifnull, z_pnull, z_acn, z_gf, z_gfn, z_pf, z_pfz, z_pfr, z_iald, z_iast, z_aald, z_alen, z_ret, z_invV, z_invS, z_invH, z_throw, z_sw, zup_r, e1]
        rw [e]
        have za : zamt (zmp S 2 i (zgp S)) (zsu (fun s => zmp S 2 i (zgp S) 5 (6 * s + i) 0) (nS (zmp S 2 i (zgp S)))) i = zamt S (zll S i) i := by
          unfold zamt
          rw [z1, z1]
          rfl
        rw [za]
        rw [← zmp_s (T := zup (zmp S 2 i (zgp S)) 2 i 1 (zamt S (zll S i) i)) (fun f => by
          by_cases f3 : f = 1
          · simp [zup, zgp, f3, hl]
          · simp [zup, zgp, f3, z1]) (fun k' j f h => by
          have h5 : ∀ x, ¬ (k' = 2 ∧ j = i ∧ f = x) := fun x h' => h ⟨h'.1, h'.2.1⟩
          simp [zup, h5])] at key
        exact key
      · simp [zb_X7_repriceGoods_2, zb_X7_repriceGoods_36, zsp, zin, znth, ztake, zset, zcont, zcontH, zf_0_0, zf_0_2, zf_1_0, zf_1_1, zf_1_2, zf_1_3, zf_1_4, zf_2_0, zf_2_1, zf_2_2, zf_2_3, zf_2_4, zf_3_0, zf_3_1, zf_3_2, zf_3_3, zf_3_4, zf_3_5, zf_3_6, zf_3_7, zf_3_8, zf_3_9, zf_3_10, zf_4_0, zf_4_1, zf_4_2, zf_4_3, zf_4_4, zf_5_0, zf_5_1, zf_5_2, zf_5_3, zf_5_4, zf_5_5, zf_6_0, zf_6_1, zf_6_2, zf_7_0, zf_7_1, zf_7_2, zf_7_3, zf_7_4, zf_7_5, zf_7_6, zf_7_7, zf_7_8, zf_7_9, zf_7_10, zf_7_11, zf_7_12, zf_7_13, zf_7_14, zf_7_15, zf_7_16, zf_7_17, zf_7_18, zln_9, zln_10, zln_15, zln_16, zln_17, zln_18, zln_19, zln_20, zln_21, zln_11, zln_12, zln_13, zln_14, zchild, zcnt, zc1b, zble, zbeq, z_push, z_ild, z_ald, z_ist, z_ast, z_inc, z_bin, z_dvn, z_un, z_dup, z_dup2, z_pop, z_if, z_cmp, z_ifnull, z_pnull, z_acn, z_gf, z_gfn, z_pf, z_pfz, z_pfr, z_iald, z_iast, z_aald, z_alen, z_ret, z_invV, z_invS, z_invH, z_throw, z_sw, zup_r, e2, e3, e4, hi, z1, hl, e1]
        rw [← zmp_s (T := zmp S 2 i (zgp S)) (fun f => by simp [zgp, hl, z1]) (fun k' j f h => rfl)] at key
        exact key
  simp [sp_X7_repriceGoods, zb_X7_repriceGoods_0, zsp, zin, znth, ztake, zset, zcont, zcontH, zf_0_0, zf_0_2, zf_1_0, zf_1_1, zf_1_2, zf_1_3, zf_1_4, zf_2_0, zf_2_1, zf_2_2, zf_2_3, zf_2_4, zf_3_0, zf_3_1, zf_3_2, zf_3_3, zf_3_4, zf_3_5, zf_3_6, zf_3_7, zf_3_8, zf_3_9, zf_3_10, zf_4_0, zf_4_1, zf_4_2, zf_4_3, zf_4_4, zf_5_0, zf_5_1, zf_5_2, zf_5_3, zf_5_4, zf_5_5, zf_6_0, zf_6_1, zf_6_2, zf_7_0, zf_7_1, zf_7_2, zf_7_3, zf_7_4, zf_7_5, zf_7_6, zf_7_7, zf_7_8, zf_7_9, zf_7_10, zf_7_11, zf_7_12, zf_7_13, zf_7_14, zf_7_15, zf_7_16, zf_7_17, zf_7_18, zln_9, zln_10, zln_15, zln_16, zln_17, zln_18, zln_19, zln_20, zln_21, zln_11, zln_12, zln_13, zln_14, zchild, zcnt, zc1b, zble, zbeq, z_push, z_ild, z_ald, z_ist, z_ast, z_inc, z_bin, z_dvn, z_un, z_dup, z_dup2, z_pop, z_if, z_cmp, z_ifnull, z_pnull, z_acn, z_gf, z_gfn, z_pf, z_pfz, z_pfr, z_iald, z_iast, z_aald, z_alen, z_ret, z_invV, z_invS, z_invH, z_throw, z_sw, zup_r]
  exact loop
/-- the model's good is the program's -/
def zRg (S T : ZS) (g : Nat) : Prop := T 22 4 g = S 2 g 0 ∧ (S 2 g 0 = 1 → T 22 6 g = S 2 g 1) ∧ T 22 8 g = S 2 g 3 ∧ (∀ s, s < nS S → T 22 30 (6 * s + g) = S 5 (6 * s + g) 0)
