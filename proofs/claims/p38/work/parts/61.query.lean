/-! WHAT IS ASKED: the answer, and nothing changed -/
set_option maxRecDepth 20000 in
set_option maxHeartbeats 4000000 in
theorem q_sh0 {c : Nat} {S : ZS} (h : J c S) {a b : Nat} (ha : a < nS S) (hb : b < 6) : sp_X7_shopIs [zr 7 0, zi (nI a), zi (nI b), zi 0] S (zR (fun v S' => v = S 5 (6 * a + b) 0 ∧ S' = S)) := by
  obtain ⟨r1, r2⟩ := h.1.2.2.1
  obtain ⟨ha1, ha2⟩ := znn ha (by omega)
  obtain ⟨hb1, hb2⟩ := zn6 hb
  have hz : zbt (0 : Int32) 0 4 := ⟨by decide, by decide⟩
  simp [zb_X7_shopIs_0, sp_X7_shopIs, zsp, zin, znth, ztake, zset, zcont, zcontH, zf_0_0, zf_0_2, zf_1_0, zf_1_1, zf_1_2, zf_1_3, zf_1_4, zf_2_0, zf_2_1, zf_2_2, zf_2_3, zf_2_4, zf_3_0, zf_3_1, zf_3_2, zf_3_3, zf_3_4, zf_3_5, zf_3_6, zf_3_7, zf_3_8, zf_3_9, zf_3_10, zf_4_0, zf_4_1, zf_4_2, zf_4_3, zf_4_4, zf_5_0, zf_5_1, zf_5_2, zf_5_3, zf_5_4, zf_5_5, zf_6_0, zf_6_1, zf_6_2, zf_7_0, zf_7_1, zf_7_2, zf_7_3, zf_7_4, zf_7_5, zf_7_6, zf_7_7, zf_7_8, zf_7_9, zf_7_10, zf_7_11, zf_7_12, zf_7_13, zf_7_14, zf_7_15, zf_7_16, zf_7_17, zf_7_18, zln_9, zln_10, zln_15, zln_16, zln_17, zln_18, zln_19, zln_20, zln_21, zln_11, zln_12, zln_13, zln_14, zchild, zcnt, zc1b, zble, zbeq, z_push, z_ild, z_ald, z_ist, z_ast, z_inc, z_bin, z_dvn, z_un, z_dup, z_dup2, z_pop, z_if, z_cmp, z_ifnull, z_pnull, z_acn, z_gf, z_gfn, z_pf, z_pfz, z_pfr, z_iald, z_iast, z_aald, z_alen, z_ret, z_invV, z_invS, z_invH, z_throw, z_sw, zup_r, p_X7_knownGood, p_X7_requireRange, p_X7_requireRoom, p_X7_requireEnough, p_X7_requireAlive, p_X7_requireBook, p_X3_isDead, p_X3_isWithoutBook, p_X7_pointsLeft, p_X7_changeGood, vp01, zup2, p_X7_knownShop r1 r2, ha1, hb1, ha2, hb2, hz, zR_i, hb, ha]
set_option maxRecDepth 20000 in
set_option maxHeartbeats 4000000 in
theorem q_sh1 {c : Nat} {S : ZS} (h : J c S) {a b : Nat} (ha : a < nS S) (hb : b < 6) : sp_X7_shopIs [zr 7 0, zi (nI a), zi (nI b), zi 1] S (zR (fun v S' => v = S 5 (6 * a + b) 1 ∧ S' = S)) := by
  obtain ⟨r1, r2⟩ := h.1.2.2.1
  obtain ⟨ha1, ha2⟩ := znn ha (by omega)
  obtain ⟨hb1, hb2⟩ := zn6 hb
  have hz : zbt (1 : Int32) 0 4 := ⟨by decide, by decide⟩
  simp [zb_X7_shopIs_0, sp_X7_shopIs, zsp, zin, znth, ztake, zset, zcont, zcontH, zf_0_0, zf_0_2, zf_1_0, zf_1_1, zf_1_2, zf_1_3, zf_1_4, zf_2_0, zf_2_1, zf_2_2, zf_2_3, zf_2_4, zf_3_0, zf_3_1, zf_3_2, zf_3_3, zf_3_4, zf_3_5, zf_3_6, zf_3_7, zf_3_8, zf_3_9, zf_3_10, zf_4_0, zf_4_1, zf_4_2, zf_4_3, zf_4_4, zf_5_0, zf_5_1, zf_5_2, zf_5_3, zf_5_4, zf_5_5, zf_6_0, zf_6_1, zf_6_2, zf_7_0, zf_7_1, zf_7_2, zf_7_3, zf_7_4, zf_7_5, zf_7_6, zf_7_7, zf_7_8, zf_7_9, zf_7_10, zf_7_11, zf_7_12, zf_7_13, zf_7_14, zf_7_15, zf_7_16, zf_7_17, zf_7_18, zln_9, zln_10, zln_15, zln_16, zln_17, zln_18, zln_19, zln_20, zln_21, zln_11, zln_12, zln_13, zln_14, zchild, zcnt, zc1b, zble, zbeq, z_push, z_ild, z_ald, z_ist, z_ast, z_inc, z_bin, z_dvn, z_un, z_dup, z_dup2, z_pop, z_if, z_cmp, z_ifnull, z_pnull, z_acn, z_gf, z_gfn, z_pf, z_pfz, z_pfr, z_iald, z_iast, z_aald, z_alen, z_ret, z_invV, z_invS, z_invH, z_throw, z_sw, zup_r, p_X7_knownGood, p_X7_requireRange, p_X7_requireRoom, p_X7_requireEnough, p_X7_requireAlive, p_X7_requireBook, p_X3_isDead, p_X3_isWithoutBook, p_X7_pointsLeft, p_X7_changeGood, vp01, zup2, p_X7_knownShop r1 r2, ha1, hb1, ha2, hb2, hz, zR_i, hb, ha]
set_option maxRecDepth 20000 in
set_option maxHeartbeats 4000000 in
theorem q_sh2 {c : Nat} {S : ZS} (h : J c S) {a b : Nat} (ha : a < nS S) (hb : b < 6) : sp_X7_shopIs [zr 7 0, zi (nI a), zi (nI b), zi 2] S (zR (fun v S' => v = S 5 (6 * a + b) 2 ∧ S' = S)) := by
  obtain ⟨r1, r2⟩ := h.1.2.2.1
  obtain ⟨ha1, ha2⟩ := znn ha (by omega)
  obtain ⟨hb1, hb2⟩ := zn6 hb
  have hz : zbt (2 : Int32) 0 4 := ⟨by decide, by decide⟩
  simp [zb_X7_shopIs_0, sp_X7_shopIs, zsp, zin, znth, ztake, zset, zcont, zcontH, zf_0_0, zf_0_2, zf_1_0, zf_1_1, zf_1_2, zf_1_3, zf_1_4, zf_2_0, zf_2_1, zf_2_2, zf_2_3, zf_2_4, zf_3_0, zf_3_1, zf_3_2, zf_3_3, zf_3_4, zf_3_5, zf_3_6, zf_3_7, zf_3_8, zf_3_9, zf_3_10, zf_4_0, zf_4_1, zf_4_2, zf_4_3, zf_4_4, zf_5_0, zf_5_1, zf_5_2, zf_5_3, zf_5_4, zf_5_5, zf_6_0, zf_6_1, zf_6_2, zf_7_0, zf_7_1, zf_7_2, zf_7_3, zf_7_4, zf_7_5, zf_7_6, zf_7_7, zf_7_8, zf_7_9, zf_7_10, zf_7_11, zf_7_12, zf_7_13, zf_7_14, zf_7_15, zf_7_16, zf_7_17, zf_7_18, zln_9, zln_10, zln_15, zln_16, zln_17, zln_18, zln_19, zln_20, zln_21, zln_11, zln_12, zln_13, zln_14, zchild, zcnt, zc1b, zble, zbeq, z_push, z_ild, z_ald, z_ist, z_ast, z_inc, z_bin, z_dvn, z_un, z_dup, z_dup2, z_pop, z_if, z_cmp, z_ifnull, z_pnull, z_acn, z_gf, z_gfn, z_pf, z_pfz, z_pfr, z_iald, z_iast, z_aald, z_alen, z_ret, z_invV, z_invS, z_invH, z_throw, z_sw, zup_r, p_X7_knownGood, p_X7_requireRange, p_X7_requireRoom, p_X7_requireEnough, p_X7_requireAlive, p_X7_requireBook, p_X3_isDead, p_X3_isWithoutBook, p_X7_pointsLeft, p_X7_changeGood, vp01, zup2, p_X7_knownShop r1 r2, ha1, hb1, ha2, hb2, hz, zR_i, hb, ha]
set_option maxRecDepth 20000 in
set_option maxHeartbeats 4000000 in
theorem q_sh3 {c : Nat} {S : ZS} (h : J c S) {a b : Nat} (ha : a < nS S) (hb : b < 6) : sp_X7_shopIs [zr 7 0, zi (nI a), zi (nI b), zi 3] S (zR (fun v S' => v = S 5 (6 * a + b) 3 - S 5 (6 * a + b) 4 - S 5 (6 * a + b) 0 ∧ S' = S)) := by
  obtain ⟨r1, r2⟩ := h.1.2.2.1
  obtain ⟨ha1, ha2⟩ := znn ha (by omega)
  obtain ⟨hb1, hb2⟩ := zn6 hb
  have hz : zbt (3 : Int32) 0 4 := ⟨by decide, by decide⟩
  simp [zb_X7_shopIs_0, sp_X7_shopIs, zsp, zin, znth, ztake, zset, zcont, zcontH, zf_0_0, zf_0_2, zf_1_0, zf_1_1, zf_1_2, zf_1_3, zf_1_4, zf_2_0, zf_2_1, zf_2_2, zf_2_3, zf_2_4, zf_3_0, zf_3_1, zf_3_2, zf_3_3, zf_3_4, zf_3_5, zf_3_6, zf_3_7, zf_3_8, zf_3_9, zf_3_10, zf_4_0, zf_4_1, zf_4_2, zf_4_3, zf_4_4, zf_5_0, zf_5_1, zf_5_2, zf_5_3, zf_5_4, zf_5_5, zf_6_0, zf_6_1, zf_6_2, zf_7_0, zf_7_1, zf_7_2, zf_7_3, zf_7_4, zf_7_5, zf_7_6, zf_7_7, zf_7_8, zf_7_9, zf_7_10, zf_7_11, zf_7_12, zf_7_13, zf_7_14, zf_7_15, zf_7_16, zf_7_17, zf_7_18, zln_9, zln_10, zln_15, zln_16, zln_17, zln_18, zln_19, zln_20, zln_21, zln_11, zln_12, zln_13, zln_14, zchild, zcnt, zc1b, zble, zbeq, z_push, z_ild, z_ald, z_ist, z_ast, z_inc, z_bin, z_dvn, z_un, z_dup, z_dup2, z_pop, z_if, z_cmp, z_ifnull, z_pnull, z_acn, z_gf, z_gfn, z_pf, z_pfz, z_pfr, z_iald, z_iast, z_aald, z_alen, z_ret, z_invV, z_invS, z_invH, z_throw, z_sw, zup_r, p_X7_knownGood, p_X7_requireRange, p_X7_requireRoom, p_X7_requireEnough, p_X7_requireAlive, p_X7_requireBook, p_X3_isDead, p_X3_isWithoutBook, p_X7_pointsLeft, p_X7_changeGood, vp01, zup2, p_X7_knownShop r1 r2, ha1, hb1, ha2, hb2, hz, zR_i, hb, ha]
set_option maxRecDepth 20000 in
set_option maxHeartbeats 4000000 in
theorem q_sh4 {c : Nat} {S : ZS} (h : J c S) {a b : Nat} (ha : a < nS S) (hb : b < 6) : sp_X7_shopIs [zr 7 0, zi (nI a), zi (nI b), zi 4] S (zR (fun v S' => v = S 5 (6 * a + b) 5 ∧ S' = S)) := by
  obtain ⟨r1, r2⟩ := h.1.2.2.1
  obtain ⟨ha1, ha2⟩ := znn ha (by omega)
  obtain ⟨hb1, hb2⟩ := zn6 hb
  have hz : zbt (4 : Int32) 0 4 := ⟨by decide, by decide⟩
  simp [zb_X7_shopIs_0, sp_X7_shopIs, zsp, zin, znth, ztake, zset, zcont, zcontH, zf_0_0, zf_0_2, zf_1_0, zf_1_1, zf_1_2, zf_1_3, zf_1_4, zf_2_0, zf_2_1, zf_2_2, zf_2_3, zf_2_4, zf_3_0, zf_3_1, zf_3_2, zf_3_3, zf_3_4, zf_3_5, zf_3_6, zf_3_7, zf_3_8, zf_3_9, zf_3_10, zf_4_0, zf_4_1, zf_4_2, zf_4_3, zf_4_4, zf_5_0, zf_5_1, zf_5_2, zf_5_3, zf_5_4, zf_5_5, zf_6_0, zf_6_1, zf_6_2, zf_7_0, zf_7_1, zf_7_2, zf_7_3, zf_7_4, zf_7_5, zf_7_6, zf_7_7, zf_7_8, zf_7_9, zf_7_10, zf_7_11, zf_7_12, zf_7_13, zf_7_14, zf_7_15, zf_7_16, zf_7_17, zf_7_18, zln_9, zln_10, zln_15, zln_16, zln_17, zln_18, zln_19, zln_20, zln_21, zln_11, zln_12, zln_13, zln_14, zchild, zcnt, zc1b, zble, zbeq, z_push, z_ild, z_ald, z_ist, z_ast, z_inc, z_bin, z_dvn, z_un, z_dup, z_dup2, z_pop, z_if, z_cmp, z_ifnull, z_pnull, z_acn, z_gf, z_gfn, z_pf, z_pfz, z_pfr, z_iald, z_iast, z_aald, z_alen, z_ret, z_invV, z_invS, z_invH, z_throw, z_sw, zup_r, p_X7_knownGood, p_X7_requireRange, p_X7_requireRoom, p_X7_requireEnough, p_X7_requireAlive, p_X7_requireBook, p_X3_isDead, p_X3_isWithoutBook, p_X7_pointsLeft, p_X7_changeGood, vp01, zup2, p_X7_knownShop r1 r2, ha1, hb1, ha2, hb2, hz, zR_i, hb, ha]
set_option maxRecDepth 20000 in
set_option maxHeartbeats 4000000 in
theorem q_go0 {S : ZS} {b : Nat} (hb : b < 6) : sp_X7_goodIs [zr 7 0, zi (nI b), zi 0] S (zR (fun v S' => v = S 2 b 0 ∧ S' = S)) := by
  obtain ⟨hb1, hb2⟩ := zn6 hb
  have hz : zbt (0 : Int32) 0 5 := ⟨by decide, by decide⟩
  simp [zb_X7_goodIs_0, sp_X7_goodIs, zsp, zin, znth, ztake, zset, zcont, zcontH, zf_0_0, zf_0_2, zf_1_0, zf_1_1, zf_1_2, zf_1_3, zf_1_4, zf_2_0, zf_2_1, zf_2_2, zf_2_3, zf_2_4, zf_3_0, zf_3_1, zf_3_2, zf_3_3, zf_3_4, zf_3_5, zf_3_6, zf_3_7, zf_3_8, zf_3_9, zf_3_10, zf_4_0, zf_4_1, zf_4_2, zf_4_3, zf_4_4, zf_5_0, zf_5_1, zf_5_2, zf_5_3, zf_5_4, zf_5_5, zf_6_0, zf_6_1, zf_6_2, zf_7_0, zf_7_1, zf_7_2, zf_7_3, zf_7_4, zf_7_5, zf_7_6, zf_7_7, zf_7_8, zf_7_9, zf_7_10, zf_7_11, zf_7_12, zf_7_13, zf_7_14, zf_7_15, zf_7_16, zf_7_17, zf_7_18, zln_9, zln_10, zln_15, zln_16, zln_17, zln_18, zln_19, zln_20, zln_21, zln_11, zln_12, zln_13, zln_14, zchild, zcnt, zc1b, zble, zbeq, z_push, z_ild, z_ald, z_ist, z_ast, z_inc, z_bin, z_dvn, z_un, z_dup, z_dup2, z_pop, z_if, z_cmp, z_ifnull, z_pnull, z_acn, z_gf, z_gfn, z_pf, z_pfz, z_pfr, z_iald, z_iast, z_aald, z_alen, z_ret, z_invV, z_invS, z_invH, z_throw, z_sw, zup_r, p_X7_knownGood, p_X7_requireRange, p_X7_requireRoom, p_X7_requireEnough, p_X7_requireAlive, p_X7_requireBook, p_X3_isDead, p_X3_isWithoutBook, p_X7_pointsLeft, p_X7_changeGood, vp01, zup2, hb1, hb2, hz, zR_i, hb]
set_option maxRecDepth 20000 in
set_option maxHeartbeats 4000000 in
theorem q_go1 {S : ZS} {b : Nat} (hb : b < 6) : sp_X7_goodIs [zr 7 0, zi (nI b), zi 1] S (zR (fun v S' => v = S 2 b 1 ∧ S' = S)) := by
  obtain ⟨hb1, hb2⟩ := zn6 hb
  have hz : zbt (1 : Int32) 0 5 := ⟨by decide, by decide⟩
  simp [zb_X7_goodIs_0, sp_X7_goodIs, zsp, zin, znth, ztake, zset, zcont, zcontH, zf_0_0, zf_0_2, zf_1_0, zf_1_1, zf_1_2, zf_1_3, zf_1_4, zf_2_0, zf_2_1, zf_2_2, zf_2_3, zf_2_4, zf_3_0, zf_3_1, zf_3_2, zf_3_3, zf_3_4, zf_3_5, zf_3_6, zf_3_7, zf_3_8, zf_3_9, zf_3_10, zf_4_0, zf_4_1, zf_4_2, zf_4_3, zf_4_4, zf_5_0, zf_5_1, zf_5_2, zf_5_3, zf_5_4, zf_5_5, zf_6_0, zf_6_1, zf_6_2, zf_7_0, zf_7_1, zf_7_2, zf_7_3, zf_7_4, zf_7_5, zf_7_6, zf_7_7, zf_7_8, zf_7_9, zf_7_10, zf_7_11, zf_7_12, zf_7_13, zf_7_14, zf_7_15, zf_7_16, zf_7_17, zf_7_18, zln_9, zln_10, zln_15, zln_16, zln_17, zln_18, zln_19, zln_20, zln_21, zln_11, zln_12, zln_13, zln_14, zchild, zcnt, zc1b, zble, zbeq, z_push, z_ild, z_ald, z_ist, z_ast, z_inc, z_bin, z_dvn, z_un, z_dup, z_dup2, z_pop, z_if, z_cmp, z_ifnull, z_pnull, z_acn, z_gf, z_gfn, z_pf, z_pfz, z_pfr, z_iald, z_iast, z_aald, z_alen, z_ret, z_invV, z_invS, z_invH, z_throw, z_sw, zup_r, p_X7_knownGood, p_X7_requireRange, p_X7_requireRoom, p_X7_requireEnough, p_X7_requireAlive, p_X7_requireBook, p_X3_isDead, p_X3_isWithoutBook, p_X7_pointsLeft, p_X7_changeGood, vp01, zup2, hb1, hb2, hz, zR_i, hb]
set_option maxRecDepth 20000 in
set_option maxHeartbeats 4000000 in
theorem q_go3 {S : ZS} {b : Nat} (hb : b < 6) : sp_X7_goodIs [zr 7 0, zi (nI b), zi 3] S (zR (fun v S' => v = S 2 b 3 ∧ S' = S)) := by
  obtain ⟨hb1, hb2⟩ := zn6 hb
  have hz : zbt (3 : Int32) 0 5 := ⟨by decide, by decide⟩
  simp [zb_X7_goodIs_0, sp_X7_goodIs, zsp, zin, znth, ztake, zset, zcont, zcontH, zf_0_0, zf_0_2, zf_1_0, zf_1_1, zf_1_2, zf_1_3, zf_1_4, zf_2_0, zf_2_1, zf_2_2, zf_2_3, zf_2_4, zf_3_0, zf_3_1, zf_3_2, zf_3_3, zf_3_4, zf_3_5, zf_3_6, zf_3_7, zf_3_8, zf_3_9, zf_3_10, zf_4_0, zf_4_1, zf_4_2, zf_4_3, zf_4_4, zf_5_0, zf_5_1, zf_5_2, zf_5_3, zf_5_4, zf_5_5, zf_6_0, zf_6_1, zf_6_2, zf_7_0, zf_7_1, zf_7_2, zf_7_3, zf_7_4, zf_7_5, zf_7_6, zf_7_7, zf_7_8, zf_7_9, zf_7_10, zf_7_11, zf_7_12, zf_7_13, zf_7_14, zf_7_15, zf_7_16, zf_7_17, zf_7_18, zln_9, zln_10, zln_15, zln_16, zln_17, zln_18, zln_19, zln_20, zln_21, zln_11, zln_12, zln_13, zln_14, zchild, zcnt, zc1b, zble, zbeq, z_push, z_ild, z_ald, z_ist, z_ast, z_inc, z_bin, z_dvn, z_un, z_dup, z_dup2, z_pop, z_if, z_cmp, z_ifnull, z_pnull, z_acn, z_gf, z_gfn, z_pf, z_pfz, z_pfr, z_iald, z_iast, z_aald, z_alen, z_ret, z_invV, z_invS, z_invH, z_throw, z_sw, zup_r, p_X7_knownGood, p_X7_requireRange, p_X7_requireRoom, p_X7_requireEnough, p_X7_requireAlive, p_X7_requireBook, p_X3_isDead, p_X3_isWithoutBook, p_X7_pointsLeft, p_X7_changeGood, vp01, zup2, hb1, hb2, hz, zR_i, hb]
set_option maxRecDepth 20000 in
set_option maxHeartbeats 4000000 in
theorem q_go5 {S : ZS} {b : Nat} (hb : b < 6) : sp_X7_goodIs [zr 7 0, zi (nI b), zi 5] S (zR (fun v S' => v = S 2 b 4 ∧ S' = S)) := by
  obtain ⟨hb1, hb2⟩ := zn6 hb
  have hz : zbt (5 : Int32) 0 5 := ⟨by decide, by decide⟩
  simp [zb_X7_goodIs_0, sp_X7_goodIs, zsp, zin, znth, ztake, zset, zcont, zcontH, zf_0_0, zf_0_2, zf_1_0, zf_1_1, zf_1_2, zf_1_3, zf_1_4, zf_2_0, zf_2_1, zf_2_2, zf_2_3, zf_2_4, zf_3_0, zf_3_1, zf_3_2, zf_3_3, zf_3_4, zf_3_5, zf_3_6, zf_3_7, zf_3_8, zf_3_9, zf_3_10, zf_4_0, zf_4_1, zf_4_2, zf_4_3, zf_4_4, zf_5_0, zf_5_1, zf_5_2, zf_5_3, zf_5_4, zf_5_5, zf_6_0, zf_6_1, zf_6_2, zf_7_0, zf_7_1, zf_7_2, zf_7_3, zf_7_4, zf_7_5, zf_7_6, zf_7_7, zf_7_8, zf_7_9, zf_7_10, zf_7_11, zf_7_12, zf_7_13, zf_7_14, zf_7_15, zf_7_16, zf_7_17, zf_7_18, zln_9, zln_10, zln_15, zln_16, zln_17, zln_18, zln_19, zln_20, zln_21, zln_11, zln_12, zln_13, zln_14, zchild, zcnt, zc1b, zble, zbeq, z_push, z_ild, z_ald, z_ist, z_ast, z_inc, z_bin, z_dvn, z_un, z_dup, z_dup2, z_pop, z_if, z_cmp, z_ifnull, z_pnull, z_acn, z_gf, z_gfn, z_pf, z_pfz, z_pfr, z_iald, z_iast, z_aald, z_alen, z_ret, z_invV, z_invS, z_invH, z_throw, z_sw, zup_r, p_X7_knownGood, p_X7_requireRange, p_X7_requireRoom, p_X7_requireEnough, p_X7_requireAlive, p_X7_requireBook, p_X3_isDead, p_X3_isWithoutBook, p_X7_pointsLeft, p_X7_changeGood, vp01, zup2, hb1, hb2, hz, zR_i, hb]
set_option maxRecDepth 20000 in
set_option maxHeartbeats 4000000 in
theorem q_go4 {c : Nat} {S : ZS} (h : J c S) {b : Nat} (hb : b < 6) : sp_X7_goodIs [zr 7 0, zi (nI b), zi 4] S (zR (fun v S' => v = zsu (fun s => S 5 (6 * s + b) 0) (nS S) ∧ S' = S)) := by
  obtain ⟨r1, r2⟩ := h.1.2.2.1
  obtain ⟨hb1, hb2⟩ := zn6 hb
  have hz : zbt (4 : Int32) 0 5 := ⟨by decide, by decide⟩
  simp [zb_X7_goodIs_0, sp_X7_goodIs, zsp, zin, znth, ztake, zset, zcont, zcontH, zf_0_0, zf_0_2, zf_1_0, zf_1_1, zf_1_2, zf_1_3, zf_1_4, zf_2_0, zf_2_1, zf_2_2, zf_2_3, zf_2_4, zf_3_0, zf_3_1, zf_3_2, zf_3_3, zf_3_4, zf_3_5, zf_3_6, zf_3_7, zf_3_8, zf_3_9, zf_3_10, zf_4_0, zf_4_1, zf_4_2, zf_4_3, zf_4_4, zf_5_0, zf_5_1, zf_5_2, zf_5_3, zf_5_4, zf_5_5, zf_6_0, zf_6_1, zf_6_2, zf_7_0, zf_7_1, zf_7_2, zf_7_3, zf_7_4, zf_7_5, zf_7_6, zf_7_7, zf_7_8, zf_7_9, zf_7_10, zf_7_11, zf_7_12, zf_7_13, zf_7_14, zf_7_15, zf_7_16, zf_7_17, zf_7_18, zln_9, zln_10, zln_15, zln_16, zln_17, zln_18, zln_19, zln_20, zln_21, zln_11, zln_12, zln_13, zln_14, zchild, zcnt, zc1b, zble, zbeq, z_push, z_ild, z_ald, z_ist, z_ast, z_inc, z_bin, z_dvn, z_un, z_dup, z_dup2, z_pop, z_if, z_cmp, z_ifnull, z_pnull, z_acn, z_gf, z_gfn, z_pf, z_pfz, z_pfr, z_iald, z_iast, z_aald, z_alen, z_ret, z_invV, z_invS, z_invH, z_throw, z_sw, zup_r, p_X7_knownGood, p_X7_requireRange, p_X7_requireRoom, p_X7_requireEnough, p_X7_requireAlive, p_X7_requireBook, p_X3_isDead, p_X3_isWithoutBook, p_X7_pointsLeft, p_X7_changeGood, vp01, zup2, hb1, hb2, hz, hb]
  refine p_X7_lies r1 r2 hb1 ?_
  simp [zb_X7_goodIs_0, sp_X7_goodIs, zsp, zin, znth, ztake, zset, zcont, zcontH, zf_0_0, zf_0_2, zf_1_0, zf_1_1, zf_1_2, zf_1_3, zf_1_4, zf_2_0, zf_2_1, zf_2_2, zf_2_3, zf_2_4, zf_3_0, zf_3_1, zf_3_2, zf_3_3, zf_3_4, zf_3_5, zf_3_6, zf_3_7, zf_3_8, zf_3_9, zf_3_10, zf_4_0, zf_4_1, zf_4_2, zf_4_3, zf_4_4, zf_5_0, zf_5_1, zf_5_2, zf_5_3, zf_5_4, zf_5_5, zf_6_0, zf_6_1, zf_6_2, zf_7_0, zf_7_1, zf_7_2, zf_7_3, zf_7_4, zf_7_5, zf_7_6, zf_7_7, zf_7_8, zf_7_9, zf_7_10, zf_7_11, zf_7_12, zf_7_13, zf_7_14, zf_7_15, zf_7_16, zf_7_17, zf_7_18, zln_9, zln_10, zln_15, zln_16, zln_17, zln_18, zln_19, zln_20, zln_21, zln_11, zln_12, zln_13, zln_14, zchild, zcnt, zc1b, zble, zbeq, z_push, z_ild, z_ald, z_ist, z_ast, z_inc, z_bin, z_dvn, z_un, z_dup, z_dup2, z_pop, z_if, z_cmp, z_ifnull, z_pnull, z_acn, z_gf, z_gfn, z_pf, z_pfz, z_pfr, z_iald, z_iast, z_aald, z_alen, z_ret, z_invV, z_invS, z_invH, z_throw, z_sw, zup_r, hb2, zR_i]
set_option maxRecDepth 20000 in
set_option maxHeartbeats 4000000 in
theorem q_pe1 {c : Nat} {S : ZS} (h : J c S) {p : Nat} (hp : p < nP S) : sp_X7_personIs [zr 7 0, zi (nI p), zi 1] S (zR (fun v S' => v = S 3 p 2 ∧ S' = S)) := by
  obtain ⟨q1, q2⟩ := h.1.1
  have r2 := h.1.2.2.1.2
  obtain ⟨hp1, hp2⟩ := znn hp (by omega)
  have hz : zbt (1 : Int32) 0 6 := ⟨by decide, by decide⟩
  have hq := h.2.2.1 p hp
  have hs := (h.2.2.2.2.1.1 _ (vp_clamp (by omega) hq.2.1).1).1
  rw [← (vp_clamp (by omega) hq.2.1).2.1] at hs
  simp [zb_X7_personIs_98, zb_X7_personIs_0, sp_X7_personIs, zsp, zin, znth, ztake, zset, zcont, zcontH, zf_0_0, zf_0_2, zf_1_0, zf_1_1, zf_1_2, zf_1_3, zf_1_4, zf_2_0, zf_2_1, zf_2_2, zf_2_3, zf_2_4, zf_3_0, zf_3_1, zf_3_2, zf_3_3, zf_3_4, zf_3_5, zf_3_6, zf_3_7, zf_3_8, zf_3_9, zf_3_10, zf_4_0, zf_4_1, zf_4_2, zf_4_3, zf_4_4, zf_5_0, zf_5_1, zf_5_2, zf_5_3, zf_5_4, zf_5_5, zf_6_0, zf_6_1, zf_6_2, zf_7_0, zf_7_1, zf_7_2, zf_7_3, zf_7_4, zf_7_5, zf_7_6, zf_7_7, zf_7_8, zf_7_9, zf_7_10, zf_7_11, zf_7_12, zf_7_13, zf_7_14, zf_7_15, zf_7_16, zf_7_17, zf_7_18, zln_9, zln_10, zln_15, zln_16, zln_17, zln_18, zln_19, zln_20, zln_21, zln_11, zln_12, zln_13, zln_14, zchild, zcnt, zc1b, zble, zbeq, z_push, z_ild, z_ald, z_ist, z_ast, z_inc, z_bin, z_dvn, z_un, z_dup, z_dup2, z_pop, z_if, z_cmp, z_ifnull, z_pnull, z_acn, z_gf, z_gfn, z_pf, z_pfz, z_pfr, z_iald, z_iast, z_aald, z_alen, z_ret, z_invV, z_invS, z_invH, z_throw, z_sw, zup_r, p_X7_knownGood, p_X7_requireRange, p_X7_requireRoom, p_X7_requireEnough, p_X7_requireAlive, p_X7_requireBook, p_X3_isDead, p_X3_isWithoutBook, p_X7_pointsLeft, p_X7_changeGood, vp01, zup2, p_X7_knownPerson q1 q2, hp1, hp2, hz, hs, zR_i]
set_option maxRecDepth 20000 in
set_option maxHeartbeats 4000000 in
theorem q_pe2 {c : Nat} {S : ZS} (h : J c S) {p : Nat} (hp : p < nP S) : sp_X7_personIs [zr 7 0, zi (nI p), zi 2] S (zR (fun v S' => v = S 3 p 4 ∧ S' = S)) := by
  obtain ⟨q1, q2⟩ := h.1.1
  have r2 := h.1.2.2.1.2
  obtain ⟨hp1, hp2⟩ := znn hp (by omega)
  have hz : zbt (2 : Int32) 0 6 := ⟨by decide, by decide⟩
  simp [zb_X7_personIs_98, zb_X7_personIs_0, sp_X7_personIs, zsp, zin, znth, ztake, zset, zcont, zcontH, zf_0_0, zf_0_2, zf_1_0, zf_1_1, zf_1_2, zf_1_3, zf_1_4, zf_2_0, zf_2_1, zf_2_2, zf_2_3, zf_2_4, zf_3_0, zf_3_1, zf_3_2, zf_3_3, zf_3_4, zf_3_5, zf_3_6, zf_3_7, zf_3_8, zf_3_9, zf_3_10, zf_4_0, zf_4_1, zf_4_2, zf_4_3, zf_4_4, zf_5_0, zf_5_1, zf_5_2, zf_5_3, zf_5_4, zf_5_5, zf_6_0, zf_6_1, zf_6_2, zf_7_0, zf_7_1, zf_7_2, zf_7_3, zf_7_4, zf_7_5, zf_7_6, zf_7_7, zf_7_8, zf_7_9, zf_7_10, zf_7_11, zf_7_12, zf_7_13, zf_7_14, zf_7_15, zf_7_16, zf_7_17, zf_7_18, zln_9, zln_10, zln_15, zln_16, zln_17, zln_18, zln_19, zln_20, zln_21, zln_11, zln_12, zln_13, zln_14, zchild, zcnt, zc1b, zble, zbeq, z_push, z_ild, z_ald, z_ist, z_ast, z_inc, z_bin, z_dvn, z_un, z_dup, z_dup2, z_pop, z_if, z_cmp, z_ifnull, z_pnull, z_acn, z_gf, z_gfn, z_pf, z_pfz, z_pfr, z_iald, z_iast, z_aald, z_alen, z_ret, z_invV, z_invS, z_invH, z_throw, z_sw, zup_r, p_X7_knownGood, p_X7_requireRange, p_X7_requireRoom, p_X7_requireEnough, p_X7_requireAlive, p_X7_requireBook, p_X3_isDead, p_X3_isWithoutBook, p_X7_pointsLeft, p_X7_changeGood, vp01, zup2, p_X7_knownPerson q1 q2, hp1, hp2, hz, zR_i]
set_option maxRecDepth 20000 in
set_option maxHeartbeats 4000000 in
theorem q_pe4 {c : Nat} {S : ZS} (h : J c S) {p : Nat} (hp : p < nP S) : sp_X7_personIs [zr 7 0, zi (nI p), zi 4] S (zR (fun v S' => v = zpl (S 3 p 6) (S 3 p 4) (20 + S 3 p 7 - S 3 p 8) ∧ S' = S)) := by
  obtain ⟨q1, q2⟩ := h.1.1
  have r2 := h.1.2.2.1.2
  obtain ⟨hp1, hp2⟩ := znn hp (by omega)
  have hz : zbt (4 : Int32) 0 6 := ⟨by decide, by decide⟩
  simp [zb_X7_personIs_98, zb_X7_personIs_0, sp_X7_personIs, zsp, zin, znth, ztake, zset, zcont, zcontH, zf_0_0, zf_0_2, zf_1_0, zf_1_1, zf_1_2, zf_1_3, zf_1_4, zf_2_0, zf_2_1, zf_2_2, zf_2_3, zf_2_4, zf_3_0, zf_3_1, zf_3_2, zf_3_3, zf_3_4, zf_3_5, zf_3_6, zf_3_7, zf_3_8, zf_3_9, zf_3_10, zf_4_0, zf_4_1, zf_4_2, zf_4_3, zf_4_4, zf_5_0, zf_5_1, zf_5_2, zf_5_3, zf_5_4, zf_5_5, zf_6_0, zf_6_1, zf_6_2, zf_7_0, zf_7_1, zf_7_2, zf_7_3, zf_7_4, zf_7_5, zf_7_6, zf_7_7, zf_7_8, zf_7_9, zf_7_10, zf_7_11, zf_7_12, zf_7_13, zf_7_14, zf_7_15, zf_7_16, zf_7_17, zf_7_18, zln_9, zln_10, zln_15, zln_16, zln_17, zln_18, zln_19, zln_20, zln_21, zln_11, zln_12, zln_13, zln_14, zchild, zcnt, zc1b, zble, zbeq, z_push, z_ild, z_ald, z_ist, z_ast, z_inc, z_bin, z_dvn, z_un, z_dup, z_dup2, z_pop, z_if, z_cmp, z_ifnull, z_pnull, z_acn, z_gf, z_gfn, z_pf, z_pfz, z_pfr, z_iald, z_iast, z_aald, z_alen, z_ret, z_invV, z_invS, z_invH, z_throw, z_sw, zup_r, p_X7_knownGood, p_X7_requireRange, p_X7_requireRoom, p_X7_requireEnough, p_X7_requireAlive, p_X7_requireBook, p_X3_isDead, p_X3_isWithoutBook, p_X7_pointsLeft, p_X7_changeGood, vp01, zup2, p_X7_knownPerson q1 q2, hp1, hp2, hz, h.1.2.2.2.2.1, zR_i]
set_option maxRecDepth 20000 in
set_option maxHeartbeats 4000000 in
theorem q_pe5 {c : Nat} {S : ZS} (h : J c S) {p : Nat} (hp : p < nP S) : sp_X7_personIs [zr 7 0, zi (nI p), zi 5] S (zR (fun v S' => v = S 3 p 9 ∧ S' = S)) := by
  obtain ⟨q1, q2⟩ := h.1.1
  have r2 := h.1.2.2.1.2
  obtain ⟨hp1, hp2⟩ := znn hp (by omega)
  have hz : zbt (5 : Int32) 0 6 := ⟨by decide, by decide⟩
  simp [zb_X7_personIs_98, zb_X7_personIs_0, sp_X7_personIs, zsp, zin, znth, ztake, zset, zcont, zcontH, zf_0_0, zf_0_2, zf_1_0, zf_1_1, zf_1_2, zf_1_3, zf_1_4, zf_2_0, zf_2_1, zf_2_2, zf_2_3, zf_2_4, zf_3_0, zf_3_1, zf_3_2, zf_3_3, zf_3_4, zf_3_5, zf_3_6, zf_3_7, zf_3_8, zf_3_9, zf_3_10, zf_4_0, zf_4_1, zf_4_2, zf_4_3, zf_4_4, zf_5_0, zf_5_1, zf_5_2, zf_5_3, zf_5_4, zf_5_5, zf_6_0, zf_6_1, zf_6_2, zf_7_0, zf_7_1, zf_7_2, zf_7_3, zf_7_4, zf_7_5, zf_7_6, zf_7_7, zf_7_8, zf_7_9, zf_7_10, zf_7_11, zf_7_12, zf_7_13, zf_7_14, zf_7_15, zf_7_16, zf_7_17, zf_7_18, zln_9, zln_10, zln_15, zln_16, zln_17, zln_18, zln_19, zln_20, zln_21, zln_11, zln_12, zln_13, zln_14, zchild, zcnt, zc1b, zble, zbeq, z_push, z_ild, z_ald, z_ist, z_ast, z_inc, z_bin, z_dvn, z_un, z_dup, z_dup2, z_pop, z_if, z_cmp, z_ifnull, z_pnull, z_acn, z_gf, z_gfn, z_pf, z_pfz, z_pfr, z_iald, z_iast, z_aald, z_alen, z_ret, z_invV, z_invS, z_invH, z_throw, z_sw, zup_r, p_X7_knownGood, p_X7_requireRange, p_X7_requireRoom, p_X7_requireEnough, p_X7_requireAlive, p_X7_requireBook, p_X3_isDead, p_X3_isWithoutBook, p_X7_pointsLeft, p_X7_changeGood, vp01, zup2, p_X7_knownPerson q1 q2, hp1, hp2, hz, zR_i]
set_option maxRecDepth 20000 in
set_option maxHeartbeats 4000000 in
theorem q_pe6 {c : Nat} {S : ZS} (h : J c S) {p : Nat} (hp : p < nP S) : sp_X7_personIs [zr 7 0, zi (nI p), zi 6] S (zR (fun v S' => v = (if 0 < S 3 p 4 then 0 else 1) ∧ S' = S)) := by
  obtain ⟨q1, q2⟩ := h.1.1
  have r2 := h.1.2.2.1.2
  obtain ⟨hp1, hp2⟩ := znn hp (by omega)
  have hz : zbt (6 : Int32) 0 6 := ⟨by decide, by decide⟩
  by_cases hl : 0 < S 3 p 4
  · simp [zb_X7_personIs_98, zb_X7_personIs_0, sp_X7_personIs, zsp, zin, znth, ztake, zset, zcont, zcontH, zf_0_0, zf_0_2, zf_1_0, zf_1_1, zf_1_2, zf_1_3, zf_1_4, zf_2_0, zf_2_1, zf_2_2, zf_2_3, zf_2_4, zf_3_0, zf_3_1, zf_3_2, zf_3_3, zf_3_4, zf_3_5, zf_3_6, zf_3_7, zf_3_8, zf_3_9, zf_3_10, zf_4_0, zf_4_1, zf_4_2, zf_4_3, zf_4_4, zf_5_0, zf_5_1, zf_5_2, zf_5_3, zf_5_4, zf_5_5, zf_6_0, zf_6_1, zf_6_2, zf_7_0, zf_7_1, zf_7_2, zf_7_3, zf_7_4, zf_7_5, zf_7_6, zf_7_7, zf_7_8, zf_7_9, zf_7_10, zf_7_11, zf_7_12, zf_7_13, zf_7_14, zf_7_15, zf_7_16, zf_7_17, zf_7_18, zln_9, zln_10, zln_15, zln_16, zln_17, zln_18, zln_19, zln_20, zln_21, zln_11, zln_12, zln_13, zln_14, zchild, zcnt, zc1b, zble, zbeq, z_push, z_ild, z_ald, z_ist, z_ast, z_inc, z_bin, z_dvn, z_un, z_dup, z_dup2, z_pop, z_if, z_cmp, z_ifnull, z_pnull, z_acn, z_gf, z_gfn, z_pf, z_pfz, z_pfr, z_iald, z_iast, z_aald, z_alen, z_ret, z_invV, z_invS, z_invH, z_throw, z_sw, zup_r, p_X7_knownGood, p_X7_requireRange, p_X7_requireRoom, p_X7_requireEnough, p_X7_requireAlive, p_X7_requireBook, p_X3_isDead, p_X3_isWithoutBook, p_X7_pointsLeft, p_X7_changeGood, vp01, zup2, p_X7_knownPerson q1 q2, hp1, hp2, hz, hl, zR_i]
  · simp [zb_X7_personIs_98, zb_X7_personIs_0, sp_X7_personIs, zsp, zin, znth, ztake, zset, zcont, zcontH, zf_0_0, zf_0_2, zf_1_0, zf_1_1, zf_1_2, zf_1_3, zf_1_4, zf_2_0, zf_2_1, zf_2_2, zf_2_3, zf_2_4, zf_3_0, zf_3_1, zf_3_2, zf_3_3, zf_3_4, zf_3_5, zf_3_6, zf_3_7, zf_3_8, zf_3_9, zf_3_10, zf_4_0, zf_4_1, zf_4_2, zf_4_3, zf_4_4, zf_5_0, zf_5_1, zf_5_2, zf_5_3, zf_5_4, zf_5_5, zf_6_0, zf_6_1, zf_6_2, zf_7_0, zf_7_1, zf_7_2, zf_7_3, zf_7_4, zf_7_5, zf_7_6, zf_7_7, zf_7_8, zf_7_9, zf_7_10, zf_7_11, zf_7_12, zf_7_13, zf_7_14, zf_7_15, zf_7_16, zf_7_17, zf_7_18, zln_9, zln_10, zln_15, zln_16, zln_17, zln_18, zln_19, zln_20, zln_21, zln_11, zln_12, zln_13, zln_14, zchild, zcnt, zc1b, zble, zbeq, z_push, z_ild, z_ald, z_ist, z_ast, z_inc, z_bin, z_dvn, z_un, z_dup, z_dup2, z_pop, z_if, z_cmp, z_ifnull, z_pnull, z_acn, z_gf, z_gfn, z_pf, z_pfz, z_pfr, z_iald, z_iast, z_aald, z_alen, z_ret, z_invV, z_invS, z_invH, z_throw, z_sw, zup_r, p_X7_knownGood, p_X7_requireRange, p_X7_requireRoom, p_X7_requireEnough, p_X7_requireAlive, p_X7_requireBook, p_X3_isDead, p_X3_isWithoutBook, p_X7_pointsLeft, p_X7_changeGood, vp01, zup2, p_X7_knownPerson q1 q2, hp1, hp2, hz, hl, zR_i]
/-- what is LEFT of a good -/
def zlt1 (S : ZS) (p g : Nat) : Int32 := zgl (S 2 g 0) (S 3 p 6) (S 3 p 4) (S 2 g 1) (zq (S 3 p 1)) (S 10 p g)
/-- the points LEFT -/
def zpt (S : ZS) (p : Nat) : Int32 := zpl (S 3 p 6) (S 3 p 4) (20 + S 3 p 7 - S 3 p 8)
set_option maxRecDepth 20000 in
set_option maxHeartbeats 4000000 in
theorem q_left {c : Nat} {S : ZS} (h : J c S) {p b : Nat} (hp : p < nP S) (hb : b < 6) : sp_X7_left [zr 7 0, zi (nI p), zi (nI b)] S (zR (fun v S' => v = zlt1 S p b ∧ S' = S)) := by
  obtain ⟨q1, q2⟩ := h.1.1
  obtain ⟨hp1, hp2⟩ := znn hp (by omega)
  obtain ⟨hb1, hb2⟩ := zn6 hb
  have hq := h.2.2.1 p hp
  simp [zb_X7_left_0, sp_X7_left, zsp, zin, znth, ztake, zset, zcont, zcontH, zf_0_0, zf_0_2, zf_1_0, zf_1_1, zf_1_2, zf_1_3, zf_1_4, zf_2_0, zf_2_1, zf_2_2, zf_2_3, zf_2_4, zf_3_0, zf_3_1, zf_3_2, zf_3_3, zf_3_4, zf_3_5, zf_3_6, zf_3_7, zf_3_8, zf_3_9, zf_3_10, zf_4_0, zf_4_1, zf_4_2, zf_4_3, zf_4_4, zf_5_0, zf_5_1, zf_5_2, zf_5_3, zf_5_4, zf_5_5, zf_6_0, zf_6_1, zf_6_2, zf_7_0, zf_7_1, zf_7_2, zf_7_3, zf_7_4, zf_7_5, zf_7_6, zf_7_7, zf_7_8, zf_7_9, zf_7_10, zf_7_11, zf_7_12, zf_7_13, zf_7_14, zf_7_15, zf_7_16, zf_7_17, zf_7_18, zln_9, zln_10, zln_15, zln_16, zln_17, zln_18, zln_19, zln_20, zln_21, zln_11, zln_12, zln_13, zln_14, zchild, zcnt, zc1b, zble, zbeq, z_push, z_ild, z_ald, z_ist, z_ast, z_inc, z_bin, z_dvn, z_un, z_dup, z_dup2, z_pop, z_if, z_cmp, z_ifnull, z_pnull, z_acn, z_gf, z_gfn, z_pf, z_pfz, z_pfr, z_iald, z_iast, z_aald, z_alen, z_ret, z_invV, z_invS, z_invH, z_throw, z_sw, zup_r, p_X7_knownGood, p_X7_requireRange, p_X7_requireRoom, p_X7_requireEnough, p_X7_requireAlive, p_X7_requireBook, p_X3_isDead, p_X3_isWithoutBook, p_X7_pointsLeft, p_X7_changeGood, vp01, zup2, p_X7_knownPerson q1 q2, p_X7_gramsLeft hq.1 hb1, hp1, hp2, hb1, hb2, zR_i, zlt1, hb]
set_option maxRecDepth 20000 in
set_option maxHeartbeats 4000000 in
theorem q_anew {c : Nat} {S : ZS} (hc : c ≤ 512) (h : J c S) {p b : Nat} (hp : p < nP S) (hb : b < 6) : sp_X7_leftAnew [zr 7 0, zi (nI p), zi (nI b)] S (zR (fun v S' => v = zlt1 S p b ∧ S' = S)) := by
  obtain ⟨q1, q2⟩ := h.1.1
  obtain ⟨hp1, hp2⟩ := znn hp (by omega)
  obtain ⟨hb1, hb2⟩ := zn6 hb
  have hq := h.2.2.1 p hp
  obtain ⟨n, l1, l2, l3, l4⟩ := h.2.2.2.2.2.2.1
  simp [zb_X7_leftAnew_0, sp_X7_leftAnew, zsp, zin, znth, ztake, zset, zcont, zcontH, zf_0_0, zf_0_2, zf_1_0, zf_1_1, zf_1_2, zf_1_3, zf_1_4, zf_2_0, zf_2_1, zf_2_2, zf_2_3, zf_2_4, zf_3_0, zf_3_1, zf_3_2, zf_3_3, zf_3_4, zf_3_5, zf_3_6, zf_3_7, zf_3_8, zf_3_9, zf_3_10, zf_4_0, zf_4_1, zf_4_2, zf_4_3, zf_4_4, zf_5_0, zf_5_1, zf_5_2, zf_5_3, zf_5_4, zf_5_5, zf_6_0, zf_6_1, zf_6_2, zf_7_0, zf_7_1, zf_7_2, zf_7_3, zf_7_4, zf_7_5, zf_7_6, zf_7_7, zf_7_8, zf_7_9, zf_7_10, zf_7_11, zf_7_12, zf_7_13, zf_7_14, zf_7_15, zf_7_16, zf_7_17, zf_7_18, zln_9, zln_10, zln_15, zln_16, zln_17, zln_18, zln_19, zln_20, zln_21, zln_11, zln_12, zln_13, zln_14, zchild, zcnt, zc1b, zble, zbeq, z_push, z_ild, z_ald, z_ist, z_ast, z_inc, z_bin, z_dvn, z_un, z_dup, z_dup2, z_pop, z_if, z_cmp, z_ifnull, z_pnull, z_acn, z_gf, z_gfn, z_pf, z_pfz, z_pfr, z_iald, z_iast, z_aald, z_alen, z_ret, z_invV, z_invS, z_invH, z_throw, z_sw, zup_r, p_X7_knownGood, p_X7_requireRange, p_X7_requireRoom, p_X7_requireEnough, p_X7_requireAlive, p_X7_requireBook, p_X3_isDead, p_X3_isWithoutBook, p_X7_pointsLeft, p_X7_changeGood, vp01, zup2, p_X7_knownPerson q1 q2, hp1, hp2, hb1, hb2, hq.2.2.2.2.2.2.2.2, hb]
  refine p_X4_bought _ _ _ l2 (by omega) ?_
  simp [zsp, zin, znth, ztake, zset, zcont, zcontH, zf_0_0, zf_0_2, zf_1_0, zf_1_1, zf_1_2, zf_1_3, zf_1_4, zf_2_0, zf_2_1, zf_2_2, zf_2_3, zf_2_4, zf_3_0, zf_3_1, zf_3_2, zf_3_3, zf_3_4, zf_3_5, zf_3_6, zf_3_7, zf_3_8, zf_3_9, zf_3_10, zf_4_0, zf_4_1, zf_4_2, zf_4_3, zf_4_4, zf_5_0, zf_5_1, zf_5_2, zf_5_3, zf_5_4, zf_5_5, zf_6_0, zf_6_1, zf_6_2, zf_7_0, zf_7_1, zf_7_2, zf_7_3, zf_7_4, zf_7_5, zf_7_6, zf_7_7, zf_7_8, zf_7_9, zf_7_10, zf_7_11, zf_7_12, zf_7_13, zf_7_14, zf_7_15, zf_7_16, zf_7_17, zf_7_18, zln_9, zln_10, zln_15, zln_16, zln_17, zln_18, zln_19, zln_20, zln_21, zln_11, zln_12, zln_13, zln_14, zchild, zcnt, zc1b, zble, zbeq, z_push, z_ild, z_ald, z_ist, z_ast, z_inc, z_bin, z_dvn, z_un, z_dup, z_dup2, z_pop, z_if, z_cmp, z_ifnull, z_pnull, z_acn, z_gf, z_gfn, z_pf, z_pfz, z_pfr, z_iald, z_iast, z_aald, z_alen, z_ret, z_invV, z_invS, z_invH, z_throw, z_sw, zup_r, p_X7_gramsLeftAfter hq.1, zR_i, zlt1]
  rw [l4 p (by omega) b hb, if_pos hp]
set_option maxRecDepth 20000 in
set_option maxHeartbeats 4000000 in
theorem q_su0 {c : Nat} {S : ZS} (h : J c S) : sp_X7_sum [zr 7 0, zi 0] S (zR (fun v S' => v = S 7 0 13 ∧ S' = S)) := by
  obtain ⟨q1, q2⟩ := h.1.1
  obtain ⟨d1, d2⟩ := h.1.2.1
  obtain ⟨r1, r2⟩ := h.1.2.2.1
  have hz : zbt (0 : Int32) 0 8 := ⟨by decide, by decide⟩
  simp [zb_X7_sum_0, sp_X7_sum, zsp, zin, znth, ztake, zset, zcont, zcontH, zf_0_0, zf_0_2, zf_1_0, zf_1_1, zf_1_2, zf_1_3, zf_1_4, zf_2_0, zf_2_1, zf_2_2, zf_2_3, zf_2_4, zf_3_0, zf_3_1, zf_3_2, zf_3_3, zf_3_4, zf_3_5, zf_3_6, zf_3_7, zf_3_8, zf_3_9, zf_3_10, zf_4_0, zf_4_1, zf_4_2, zf_4_3, zf_4_4, zf_5_0, zf_5_1, zf_5_2, zf_5_3, zf_5_4, zf_5_5, zf_6_0, zf_6_1, zf_6_2, zf_7_0, zf_7_1, zf_7_2, zf_7_3, zf_7_4, zf_7_5, zf_7_6, zf_7_7, zf_7_8, zf_7_9, zf_7_10, zf_7_11, zf_7_12, zf_7_13, zf_7_14, zf_7_15, zf_7_16, zf_7_17, zf_7_18, zln_9, zln_10, zln_15, zln_16, zln_17, zln_18, zln_19, zln_20, zln_21, zln_11, zln_12, zln_13, zln_14, zchild, zcnt, zc1b, zble, zbeq, z_push, z_ild, z_ald, z_ist, z_ast, z_inc, z_bin, z_dvn, z_un, z_dup, z_dup2, z_pop, z_if, z_cmp, z_ifnull, z_pnull, z_acn, z_gf, z_gfn, z_pf, z_pfz, z_pfr, z_iald, z_iast, z_aald, z_alen, z_ret, z_invV, z_invS, z_invH, z_throw, z_sw, zup_r, p_X7_knownGood, p_X7_requireRange, p_X7_requireRoom, p_X7_requireEnough, p_X7_requireAlive, p_X7_requireBook, p_X3_isDead, p_X3_isWithoutBook, p_X7_pointsLeft, p_X7_changeGood, vp01, zup2, hz, zR_i]
set_option maxRecDepth 20000 in
set_option maxHeartbeats 4000000 in
theorem q_su1 {c : Nat} {S : ZS} (h : J c S) : sp_X7_sum [zr 7 0, zi 1] S (zR (fun v S' => v = S 7 0 15 ∧ S' = S)) := by
  obtain ⟨q1, q2⟩ := h.1.1
  obtain ⟨d1, d2⟩ := h.1.2.1
  obtain ⟨r1, r2⟩ := h.1.2.2.1
  have hz : zbt (1 : Int32) 0 8 := ⟨by decide, by decide⟩
  simp [zb_X7_sum_0, sp_X7_sum, zsp, zin, znth, ztake, zset, zcont, zcontH, zf_0_0, zf_0_2, zf_1_0, zf_1_1, zf_1_2, zf_1_3, zf_1_4, zf_2_0, zf_2_1, zf_2_2, zf_2_3, zf_2_4, zf_3_0, zf_3_1, zf_3_2, zf_3_3, zf_3_4, zf_3_5, zf_3_6, zf_3_7, zf_3_8, zf_3_9, zf_3_10, zf_4_0, zf_4_1, zf_4_2, zf_4_3, zf_4_4, zf_5_0, zf_5_1, zf_5_2, zf_5_3, zf_5_4, zf_5_5, zf_6_0, zf_6_1, zf_6_2, zf_7_0, zf_7_1, zf_7_2, zf_7_3, zf_7_4, zf_7_5, zf_7_6, zf_7_7, zf_7_8, zf_7_9, zf_7_10, zf_7_11, zf_7_12, zf_7_13, zf_7_14, zf_7_15, zf_7_16, zf_7_17, zf_7_18, zln_9, zln_10, zln_15, zln_16, zln_17, zln_18, zln_19, zln_20, zln_21, zln_11, zln_12, zln_13, zln_14, zchild, zcnt, zc1b, zble, zbeq, z_push, z_ild, z_ald, z_ist, z_ast, z_inc, z_bin, z_dvn, z_un, z_dup, z_dup2, z_pop, z_if, z_cmp, z_ifnull, z_pnull, z_acn, z_gf, z_gfn, z_pf, z_pfz, z_pfr, z_iald, z_iast, z_aald, z_alen, z_ret, z_invV, z_invS, z_invH, z_throw, z_sw, zup_r, p_X7_knownGood, p_X7_requireRange, p_X7_requireRoom, p_X7_requireEnough, p_X7_requireAlive, p_X7_requireBook, p_X3_isDead, p_X3_isWithoutBook, p_X7_pointsLeft, p_X7_changeGood, vp01, zup2, hz, zR_i]
set_option maxRecDepth 20000 in
set_option maxHeartbeats 4000000 in
theorem q_su2 {c : Nat} {S : ZS} (h : J c S) : sp_X7_sum [zr 7 0, zi 2] S (zR (fun v S' => v = zsd S ∧ S' = S)) := by
  obtain ⟨q1, q2⟩ := h.1.1
  obtain ⟨d1, d2⟩ := h.1.2.1
  obtain ⟨r1, r2⟩ := h.1.2.2.1
  have hz : zbt (2 : Int32) 0 8 := ⟨by decide, by decide⟩
  simp [zb_X7_sum_0, sp_X7_sum, zsp, zin, znth, ztake, zset, zcont, zcontH, zf_0_0, zf_0_2, zf_1_0, zf_1_1, zf_1_2, zf_1_3, zf_1_4, zf_2_0, zf_2_1, zf_2_2, zf_2_3, zf_2_4, zf_3_0, zf_3_1, zf_3_2, zf_3_3, zf_3_4, zf_3_5, zf_3_6, zf_3_7, zf_3_8, zf_3_9, zf_3_10, zf_4_0, zf_4_1, zf_4_2, zf_4_3, zf_4_4, zf_5_0, zf_5_1, zf_5_2, zf_5_3, zf_5_4, zf_5_5, zf_6_0, zf_6_1, zf_6_2, zf_7_0, zf_7_1, zf_7_2, zf_7_3, zf_7_4, zf_7_5, zf_7_6, zf_7_7, zf_7_8, zf_7_9, zf_7_10, zf_7_11, zf_7_12, zf_7_13, zf_7_14, zf_7_15, zf_7_16, zf_7_17, zf_7_18, zln_9, zln_10, zln_15, zln_16, zln_17, zln_18, zln_19, zln_20, zln_21, zln_11, zln_12, zln_13, zln_14, zchild, zcnt, zc1b, zble, zbeq, z_push, z_ild, z_ald, z_ist, z_ast, z_inc, z_bin, z_dvn, z_un, z_dup, z_dup2, z_pop, z_if, z_cmp, z_ifnull, z_pnull, z_acn, z_gf, z_gfn, z_pf, z_pfz, z_pfr, z_iald, z_iast, z_aald, z_alen, z_ret, z_invV, z_invS, z_invH, z_throw, z_sw, zup_r, p_X7_knownGood, p_X7_requireRange, p_X7_requireRoom, p_X7_requireEnough, p_X7_requireAlive, p_X7_requireBook, p_X3_isDead, p_X3_isWithoutBook, p_X7_pointsLeft, p_X7_changeGood, vp01, zup2, hz]
  refine p_X7_inDepots d1 d2 ?_
  simp [zb_X7_sum_0, sp_X7_sum, zsp, zin, znth, ztake, zset, zcont, zcontH, zf_0_0, zf_0_2, zf_1_0, zf_1_1, zf_1_2, zf_1_3, zf_1_4, zf_2_0, zf_2_1, zf_2_2, zf_2_3, zf_2_4, zf_3_0, zf_3_1, zf_3_2, zf_3_3, zf_3_4, zf_3_5, zf_3_6, zf_3_7, zf_3_8, zf_3_9, zf_3_10, zf_4_0, zf_4_1, zf_4_2, zf_4_3, zf_4_4, zf_5_0, zf_5_1, zf_5_2, zf_5_3, zf_5_4, zf_5_5, zf_6_0, zf_6_1, zf_6_2, zf_7_0, zf_7_1, zf_7_2, zf_7_3, zf_7_4, zf_7_5, zf_7_6, zf_7_7, zf_7_8, zf_7_9, zf_7_10, zf_7_11, zf_7_12, zf_7_13, zf_7_14, zf_7_15, zf_7_16, zf_7_17, zf_7_18, zln_9, zln_10, zln_15, zln_16, zln_17, zln_18, zln_19, zln_20, zln_21, zln_11, zln_12, zln_13, zln_14, zchild, zcnt, zc1b, zble, zbeq, z_push, z_ild, z_ald, z_ist, z_ast, z_inc, z_bin, z_dvn, z_un, z_dup, z_dup2, z_pop, z_if, z_cmp, z_ifnull, z_pnull, z_acn, z_gf, z_gfn, z_pf, z_pfz, z_pfr, z_iald, z_iast, z_aald, z_alen, z_ret, z_invV, z_invS, z_invH, z_throw, z_sw, zup_r, zR_i, zsd, zsh, zsb]
set_option maxRecDepth 20000 in
set_option maxHeartbeats 4000000 in
theorem q_su3 {c : Nat} {S : ZS} (h : J c S) : sp_X7_sum [zr 7 0, zi 3] S (zR (fun v S' => v = zsh S ∧ S' = S)) := by
  obtain ⟨q1, q2⟩ := h.1.1
  obtain ⟨d1, d2⟩ := h.1.2.1
  obtain ⟨r1, r2⟩ := h.1.2.2.1
  have hz : zbt (3 : Int32) 0 8 := ⟨by decide, by decide⟩
  simp [zb_X7_sum_0, sp_X7_sum, zsp, zin, znth, ztake, zset, zcont, zcontH, zf_0_0, zf_0_2, zf_1_0, zf_1_1, zf_1_2, zf_1_3, zf_1_4, zf_2_0, zf_2_1, zf_2_2, zf_2_3, zf_2_4, zf_3_0, zf_3_1, zf_3_2, zf_3_3, zf_3_4, zf_3_5, zf_3_6, zf_3_7, zf_3_8, zf_3_9, zf_3_10, zf_4_0, zf_4_1, zf_4_2, zf_4_3, zf_4_4, zf_5_0, zf_5_1, zf_5_2, zf_5_3, zf_5_4, zf_5_5, zf_6_0, zf_6_1, zf_6_2, zf_7_0, zf_7_1, zf_7_2, zf_7_3, zf_7_4, zf_7_5, zf_7_6, zf_7_7, zf_7_8, zf_7_9, zf_7_10, zf_7_11, zf_7_12, zf_7_13, zf_7_14, zf_7_15, zf_7_16, zf_7_17, zf_7_18, zln_9, zln_10, zln_15, zln_16, zln_17, zln_18, zln_19, zln_20, zln_21, zln_11, zln_12, zln_13, zln_14, zchild, zcnt, zc1b, zble, zbeq, z_push, z_ild, z_ald, z_ist, z_ast, z_inc, z_bin, z_dvn, z_un, z_dup, z_dup2, z_pop, z_if, z_cmp, z_ifnull, z_pnull, z_acn, z_gf, z_gfn, z_pf, z_pfz, z_pfr, z_iald, z_iast, z_aald, z_alen, z_ret, z_invV, z_invS, z_invH, z_throw, z_sw, zup_r, p_X7_knownGood, p_X7_requireRange, p_X7_requireRoom, p_X7_requireEnough, p_X7_requireAlive, p_X7_requireBook, p_X3_isDead, p_X3_isWithoutBook, p_X7_pointsLeft, p_X7_changeGood, vp01, zup2, hz]
  refine p_X7_inShops r1 r2 ?_
  simp [zb_X7_sum_0, sp_X7_sum, zsp, zin, znth, ztake, zset, zcont, zcontH, zf_0_0, zf_0_2, zf_1_0, zf_1_1, zf_1_2, zf_1_3, zf_1_4, zf_2_0, zf_2_1, zf_2_2, zf_2_3, zf_2_4, zf_3_0, zf_3_1, zf_3_2, zf_3_3, zf_3_4, zf_3_5, zf_3_6, zf_3_7, zf_3_8, zf_3_9, zf_3_10, zf_4_0, zf_4_1, zf_4_2, zf_4_3, zf_4_4, zf_5_0, zf_5_1, zf_5_2, zf_5_3, zf_5_4, zf_5_5, zf_6_0, zf_6_1, zf_6_2, zf_7_0, zf_7_1, zf_7_2, zf_7_3, zf_7_4, zf_7_5, zf_7_6, zf_7_7, zf_7_8, zf_7_9, zf_7_10, zf_7_11, zf_7_12, zf_7_13, zf_7_14, zf_7_15, zf_7_16, zf_7_17, zf_7_18, zln_9, zln_10, zln_15, zln_16, zln_17, zln_18, zln_19, zln_20, zln_21, zln_11, zln_12, zln_13, zln_14, zchild, zcnt, zc1b, zble, zbeq, z_push, z_ild, z_ald, z_ist, z_ast, z_inc, z_bin, z_dvn, z_un, z_dup, z_dup2, z_pop, z_if, z_cmp, z_ifnull, z_pnull, z_acn, z_gf, z_gfn, z_pf, z_pfz, z_pfr, z_iald, z_iast, z_aald, z_alen, z_ret, z_invV, z_invS, z_invH, z_throw, z_sw, zup_r, zR_i, zsd, zsh, zsb]
set_option maxRecDepth 20000 in
set_option maxHeartbeats 4000000 in
theorem q_su4 {c : Nat} {S : ZS} (h : J c S) : sp_X7_sum [zr 7 0, zi 4] S (zR (fun v S' => v = S 7 0 16 ∧ S' = S)) := by
  obtain ⟨q1, q2⟩ := h.1.1
  obtain ⟨d1, d2⟩ := h.1.2.1
  obtain ⟨r1, r2⟩ := h.1.2.2.1
  have hz : zbt (4 : Int32) 0 8 := ⟨by decide, by decide⟩
  simp [zb_X7_sum_0, sp_X7_sum, zsp, zin, znth, ztake, zset, zcont, zcontH, zf_0_0, zf_0_2, zf_1_0, zf_1_1, zf_1_2, zf_1_3, zf_1_4, zf_2_0, zf_2_1, zf_2_2, zf_2_3, zf_2_4, zf_3_0, zf_3_1, zf_3_2, zf_3_3, zf_3_4, zf_3_5, zf_3_6, zf_3_7, zf_3_8, zf_3_9, zf_3_10, zf_4_0, zf_4_1, zf_4_2, zf_4_3, zf_4_4, zf_5_0, zf_5_1, zf_5_2, zf_5_3, zf_5_4, zf_5_5, zf_6_0, zf_6_1, zf_6_2, zf_7_0, zf_7_1, zf_7_2, zf_7_3, zf_7_4, zf_7_5, zf_7_6, zf_7_7, zf_7_8, zf_7_9, zf_7_10, zf_7_11, zf_7_12, zf_7_13, zf_7_14, zf_7_15, zf_7_16, zf_7_17, zf_7_18, zln_9, zln_10, zln_15, zln_16, zln_17, zln_18, zln_19, zln_20, zln_21, zln_11, zln_12, zln_13, zln_14, zchild, zcnt, zc1b, zble, zbeq, z_push, z_ild, z_ald, z_ist, z_ast, z_inc, z_bin, z_dvn, z_un, z_dup, z_dup2, z_pop, z_if, z_cmp, z_ifnull, z_pnull, z_acn, z_gf, z_gfn, z_pf, z_pfz, z_pfr, z_iald, z_iast, z_aald, z_alen, z_ret, z_invV, z_invS, z_invH, z_throw, z_sw, zup_r, p_X7_knownGood, p_X7_requireRange, p_X7_requireRoom, p_X7_requireEnough, p_X7_requireAlive, p_X7_requireBook, p_X3_isDead, p_X3_isWithoutBook, p_X7_pointsLeft, p_X7_changeGood, vp01, zup2, hz, zR_i]
set_option maxRecDepth 20000 in
set_option maxHeartbeats 4000000 in
theorem q_su5 {c : Nat} {S : ZS} (h : J c S) : sp_X7_sum [zr 7 0, zi 5] S (zR (fun v S' => v = S 7 0 17 ∧ S' = S)) := by
  obtain ⟨q1, q2⟩ := h.1.1
  obtain ⟨d1, d2⟩ := h.1.2.1
  obtain ⟨r1, r2⟩ := h.1.2.2.1
  have hz : zbt (5 : Int32) 0 8 := ⟨by decide, by decide⟩
  simp [zb_X7_sum_0, sp_X7_sum, zsp, zin, znth, ztake, zset, zcont, zcontH, zf_0_0, zf_0_2, zf_1_0, zf_1_1, zf_1_2, zf_1_3, zf_1_4, zf_2_0, zf_2_1, zf_2_2, zf_2_3, zf_2_4, zf_3_0, zf_3_1, zf_3_2, zf_3_3, zf_3_4, zf_3_5, zf_3_6, zf_3_7, zf_3_8, zf_3_9, zf_3_10, zf_4_0, zf_4_1, zf_4_2, zf_4_3, zf_4_4, zf_5_0, zf_5_1, zf_5_2, zf_5_3, zf_5_4, zf_5_5, zf_6_0, zf_6_1, zf_6_2, zf_7_0, zf_7_1, zf_7_2, zf_7_3, zf_7_4, zf_7_5, zf_7_6, zf_7_7, zf_7_8, zf_7_9, zf_7_10, zf_7_11, zf_7_12, zf_7_13, zf_7_14, zf_7_15, zf_7_16, zf_7_17, zf_7_18, zln_9, zln_10, zln_15, zln_16, zln_17, zln_18, zln_19, zln_20, zln_21, zln_11, zln_12, zln_13, zln_14, zchild, zcnt, zc1b, zble, zbeq, z_push, z_ild, z_ald, z_ist, z_ast, z_inc, z_bin, z_dvn, z_un, z_dup, z_dup2, z_pop, z_if, z_cmp, z_ifnull, z_pnull, z_acn, z_gf, z_gfn, z_pf, z_pfz, z_pfr, z_iald, z_iast, z_aald, z_alen, z_ret, z_invV, z_invS, z_invH, z_throw, z_sw, zup_r, p_X7_knownGood, p_X7_requireRange, p_X7_requireRoom, p_X7_requireEnough, p_X7_requireAlive, p_X7_requireBook, p_X3_isDead, p_X3_isWithoutBook, p_X7_pointsLeft, p_X7_changeGood, vp01, zup2, hz, zR_i]
set_option maxRecDepth 20000 in
set_option maxHeartbeats 4000000 in
theorem q_su6 {c : Nat} {S : ZS} (h : J c S) : sp_X7_sum [zr 7 0, zi 6] S (zR (fun v S' => v = zsb S ∧ S' = S)) := by
  obtain ⟨q1, q2⟩ := h.1.1
  obtain ⟨d1, d2⟩ := h.1.2.1
  obtain ⟨r1, r2⟩ := h.1.2.2.1
  have hz : zbt (6 : Int32) 0 8 := ⟨by decide, by decide⟩
  simp [zb_X7_sum_0, sp_X7_sum, zsp, zin, znth, ztake, zset, zcont, zcontH, zf_0_0, zf_0_2, zf_1_0, zf_1_1, zf_1_2, zf_1_3, zf_1_4, zf_2_0, zf_2_1, zf_2_2, zf_2_3, zf_2_4, zf_3_0, zf_3_1, zf_3_2, zf_3_3, zf_3_4, zf_3_5, zf_3_6, zf_3_7, zf_3_8, zf_3_9, zf_3_10, zf_4_0, zf_4_1, zf_4_2, zf_4_3, zf_4_4, zf_5_0, zf_5_1, zf_5_2, zf_5_3, zf_5_4, zf_5_5, zf_6_0, zf_6_1, zf_6_2, zf_7_0, zf_7_1, zf_7_2, zf_7_3, zf_7_4, zf_7_5, zf_7_6, zf_7_7, zf_7_8, zf_7_9, zf_7_10, zf_7_11, zf_7_12, zf_7_13, zf_7_14, zf_7_15, zf_7_16, zf_7_17, zf_7_18, zln_9, zln_10, zln_15, zln_16, zln_17, zln_18, zln_19, zln_20, zln_21, zln_11, zln_12, zln_13, zln_14, zchild, zcnt, zc1b, zble, zbeq, z_push, z_ild, z_ald, z_ist, z_ast, z_inc, z_bin, z_dvn, z_un, z_dup, z_dup2, z_pop, z_if, z_cmp, z_ifnull, z_pnull, z_acn, z_gf, z_gfn, z_pf, z_pfz, z_pfr, z_iald, z_iast, z_aald, z_alen, z_ret, z_invV, z_invS, z_invH, z_throw, z_sw, zup_r, p_X7_knownGood, p_X7_requireRange, p_X7_requireRoom, p_X7_requireEnough, p_X7_requireAlive, p_X7_requireBook, p_X3_isDead, p_X3_isWithoutBook, p_X7_pointsLeft, p_X7_changeGood, vp01, zup2, hz]
  refine p_X7_onBlack ?_
  simp [zb_X7_sum_0, sp_X7_sum, zsp, zin, znth, ztake, zset, zcont, zcontH, zf_0_0, zf_0_2, zf_1_0, zf_1_1, zf_1_2, zf_1_3, zf_1_4, zf_2_0, zf_2_1, zf_2_2, zf_2_3, zf_2_4, zf_3_0, zf_3_1, zf_3_2, zf_3_3, zf_3_4, zf_3_5, zf_3_6, zf_3_7, zf_3_8, zf_3_9, zf_3_10, zf_4_0, zf_4_1, zf_4_2, zf_4_3, zf_4_4, zf_5_0, zf_5_1, zf_5_2, zf_5_3, zf_5_4, zf_5_5, zf_6_0, zf_6_1, zf_6_2, zf_7_0, zf_7_1, zf_7_2, zf_7_3, zf_7_4, zf_7_5, zf_7_6, zf_7_7, zf_7_8, zf_7_9, zf_7_10, zf_7_11, zf_7_12, zf_7_13, zf_7_14, zf_7_15, zf_7_16, zf_7_17, zf_7_18, zln_9, zln_10, zln_15, zln_16, zln_17, zln_18, zln_19, zln_20, zln_21, zln_11, zln_12, zln_13, zln_14, zchild, zcnt, zc1b, zble, zbeq, z_push, z_ild, z_ald, z_ist, z_ast, z_inc, z_bin, z_dvn, z_un, z_dup, z_dup2, z_pop, z_if, z_cmp, z_ifnull, z_pnull, z_acn, z_gf, z_gfn, z_pf, z_pfz, z_pfr, z_iald, z_iast, z_aald, z_alen, z_ret, z_invV, z_invS, z_invH, z_throw, z_sw, zup_r, zR_i, zsd, zsh, zsb]
set_option maxRecDepth 20000 in
set_option maxHeartbeats 4000000 in
theorem q_su7 {c : Nat} {S : ZS} (h : J c S) : sp_X7_sum [zr 7 0, zi 7] S (zR (fun v S' => v = zsu (fun p => if 0 < S 3 p 4 then 1 else 0) (nP S) ∧ S' = S)) := by
  obtain ⟨q1, q2⟩ := h.1.1
  obtain ⟨d1, d2⟩ := h.1.2.1
  obtain ⟨r1, r2⟩ := h.1.2.2.1
  have hz : zbt (7 : Int32) 0 8 := ⟨by decide, by decide⟩
  simp [zb_X7_sum_0, sp_X7_sum, zsp, zin, znth, ztake, zset, zcont, zcontH, zf_0_0, zf_0_2, zf_1_0, zf_1_1, zf_1_2, zf_1_3, zf_1_4, zf_2_0, zf_2_1, zf_2_2, zf_2_3, zf_2_4, zf_3_0, zf_3_1, zf_3_2, zf_3_3, zf_3_4, zf_3_5, zf_3_6, zf_3_7, zf_3_8, zf_3_9, zf_3_10, zf_4_0, zf_4_1, zf_4_2, zf_4_3, zf_4_4, zf_5_0, zf_5_1, zf_5_2, zf_5_3, zf_5_4, zf_5_5, zf_6_0, zf_6_1, zf_6_2, zf_7_0, zf_7_1, zf_7_2, zf_7_3, zf_7_4, zf_7_5, zf_7_6, zf_7_7, zf_7_8, zf_7_9, zf_7_10, zf_7_11, zf_7_12, zf_7_13, zf_7_14, zf_7_15, zf_7_16, zf_7_17, zf_7_18, zln_9, zln_10, zln_15, zln_16, zln_17, zln_18, zln_19, zln_20, zln_21, zln_11, zln_12, zln_13, zln_14, zchild, zcnt, zc1b, zble, zbeq, z_push, z_ild, z_ald, z_ist, z_ast, z_inc, z_bin, z_dvn, z_un, z_dup, z_dup2, z_pop, z_if, z_cmp, z_ifnull, z_pnull, z_acn, z_gf, z_gfn, z_pf, z_pfz, z_pfr, z_iald, z_iast, z_aald, z_alen, z_ret, z_invV, z_invS, z_invH, z_throw, z_sw, zup_r, p_X7_knownGood, p_X7_requireRange, p_X7_requireRoom, p_X7_requireEnough, p_X7_requireAlive, p_X7_requireBook, p_X3_isDead, p_X3_isWithoutBook, p_X7_pointsLeft, p_X7_changeGood, vp01, zup2, hz]
  refine p_X7_alive q1 q2 ?_
  simp [zb_X7_sum_0, sp_X7_sum, zsp, zin, znth, ztake, zset, zcont, zcontH, zf_0_0, zf_0_2, zf_1_0, zf_1_1, zf_1_2, zf_1_3, zf_1_4, zf_2_0, zf_2_1, zf_2_2, zf_2_3, zf_2_4, zf_3_0, zf_3_1, zf_3_2, zf_3_3, zf_3_4, zf_3_5, zf_3_6, zf_3_7, zf_3_8, zf_3_9, zf_3_10, zf_4_0, zf_4_1, zf_4_2, zf_4_3, zf_4_4, zf_5_0, zf_5_1, zf_5_2, zf_5_3, zf_5_4, zf_5_5, zf_6_0, zf_6_1, zf_6_2, zf_7_0, zf_7_1, zf_7_2, zf_7_3, zf_7_4, zf_7_5, zf_7_6, zf_7_7, zf_7_8, zf_7_9, zf_7_10, zf_7_11, zf_7_12, zf_7_13, zf_7_14, zf_7_15, zf_7_16, zf_7_17, zf_7_18, zln_9, zln_10, zln_15, zln_16, zln_17, zln_18, zln_19, zln_20, zln_21, zln_11, zln_12, zln_13, zln_14, zchild, zcnt, zc1b, zble, zbeq, z_push, z_ild, z_ald, z_ist, z_ast, z_inc, z_bin, z_dvn, z_un, z_dup, z_dup2, z_pop, z_if, z_cmp, z_ifnull, z_pnull, z_acn, z_gf, z_gfn, z_pf, z_pfz, z_pfr, z_iald, z_iast, z_aald, z_alen, z_ret, z_invV, z_invS, z_invH, z_throw, z_sw, zup_r, zR_i, zsd, zsh, zsb]
set_option maxRecDepth 20000 in
set_option maxHeartbeats 4000000 in
theorem q_su8 {c : Nat} {S : ZS} (h : J c S) : sp_X7_sum [zr 7 0, zi 8] S (zR (fun v S' => v = S 7 0 18 ∧ S' = S)) := by
  obtain ⟨q1, q2⟩ := h.1.1
  obtain ⟨d1, d2⟩ := h.1.2.1
  obtain ⟨r1, r2⟩ := h.1.2.2.1
  have hz : zbt (8 : Int32) 0 8 := ⟨by decide, by decide⟩
  simp [zb_X7_sum_0, sp_X7_sum, zsp, zin, znth, ztake, zset, zcont, zcontH, zf_0_0, zf_0_2, zf_1_0, zf_1_1, zf_1_2, zf_1_3, zf_1_4, zf_2_0, zf_2_1, zf_2_2, zf_2_3, zf_2_4, zf_3_0, zf_3_1, zf_3_2, zf_3_3, zf_3_4, zf_3_5, zf_3_6, zf_3_7, zf_3_8, zf_3_9, zf_3_10, zf_4_0, zf_4_1, zf_4_2, zf_4_3, zf_4_4, zf_5_0, zf_5_1, zf_5_2, zf_5_3, zf_5_4, zf_5_5, zf_6_0, zf_6_1, zf_6_2, zf_7_0, zf_7_1, zf_7_2, zf_7_3, zf_7_4, zf_7_5, zf_7_6, zf_7_7, zf_7_8, zf_7_9, zf_7_10, zf_7_11, zf_7_12, zf_7_13, zf_7_14, zf_7_15, zf_7_16, zf_7_17, zf_7_18, zln_9, zln_10, zln_15, zln_16, zln_17, zln_18, zln_19, zln_20, zln_21, zln_11, zln_12, zln_13, zln_14, zchild, zcnt, zc1b, zble, zbeq, z_push, z_ild, z_ald, z_ist, z_ast, z_inc, z_bin, z_dvn, z_un, z_dup, z_dup2, z_pop, z_if, z_cmp, z_ifnull, z_pnull, z_acn, z_gf, z_gfn, z_pf, z_pfz, z_pfr, z_iald, z_iast, z_aald, z_alen, z_ret, z_invV, z_invS, z_invH, z_throw, z_sw, zup_r, p_X7_knownGood, p_X7_requireRange, p_X7_requireRoom, p_X7_requireEnough, p_X7_requireAlive, p_X7_requireBook, p_X3_isDead, p_X3_isWithoutBook, p_X7_pointsLeft, p_X7_changeGood, vp01, zup2, hz, zR_i]
theorem J.ch {c : Nat} {S : ZS} (h : J c S) : zch S := by
  intro d hd
  have d2 := h.1.2.1.2
  rcases (h.2.2.2.1 d hd).1 with ⟨-, h1⟩ | ⟨h0, h1⟩
  · exact Or.inl ⟨by rw [h1]; decide, h1⟩
  · obtain ⟨k, hk, e⟩ := vp_in_of h1 (by omega)
    refine Or.inr ⟨?_, ?_, ?_⟩
    · rw [e, zlt_iff, zti0, zti_nI (by omega)]
      omega
    · rw [e]
      exact nI_neg1 (by omega)
    · rw [e, nI_clamp (by omega)]
      exact hk
set_option maxRecDepth 20000 in
set_option maxHeartbeats 4000000 in
theorem q_la1 {c : Nat} {S : ZS} (h : J c S) {a b : Nat} {d : Int32} (ha : a < nS S) (hb : b < 6) (hd : zbt d 1 99999) : sp_X7_lacks [zr 7 0, zi (nI a), zi (nI b), zi d, zi 1] S (zR (fun v S' => v = (zlkk S b ((S 6 a 1).toNatClampNeg + 1) (S 6 a 1).toNatClampNeg d 0 0 (-1)).2.2.1 ∧ S' = S)) := by
  obtain ⟨r1, r2⟩ := h.1.2.2.1
  obtain ⟨d1, d2⟩ := h.1.2.1
  obtain ⟨ha1, ha2⟩ := znn ha (by omega)
  obtain ⟨hb1, hb2⟩ := zn6 hb
  have hs := h.2.2.2.2.1.1 a ha
  have n1 := (vp_clamp (by omega) hs.2).1
  have hz : zbt (1 : Int32) 0 2 := ⟨by decide, by decide⟩
  simp [sp_X7_lacks, zb_X7_lacks_0, zsp, zin, znth, ztake, zset, zcont, zcontH, zf_0_0, zf_0_2, zf_1_0, zf_1_1, zf_1_2, zf_1_3, zf_1_4, zf_2_0, zf_2_1, zf_2_2, zf_2_3, zf_2_4, zf_3_0, zf_3_1, zf_3_2, zf_3_3, zf_3_4, zf_3_5, zf_3_6, zf_3_7, zf_3_8, zf_3_9, zf_3_10, zf_4_0, zf_4_1, zf_4_2, zf_4_3, zf_4_4, zf_5_0, zf_5_1, zf_5_2, zf_5_3, zf_5_4, zf_5_5, zf_6_0, zf_6_1, zf_6_2, zf_7_0, zf_7_1, zf_7_2, zf_7_3, zf_7_4, zf_7_5, zf_7_6, zf_7_7, zf_7_8, zf_7_9, zf_7_10, zf_7_11, zf_7_12, zf_7_13, zf_7_14, zf_7_15, zf_7_16, zf_7_17, zf_7_18, zln_9, zln_10, zln_15, zln_16, zln_17, zln_18, zln_19, zln_20, zln_21, zln_11, zln_12, zln_13, zln_14, zchild, zcnt, zc1b, zble, zbeq, z_push, z_ild, z_ald, z_ist, z_ast, z_inc, z_bin, z_dvn, z_un, z_dup, z_dup2, z_pop, z_if, z_cmp, z_ifnull, z_pnull, z_acn, z_gf, z_gfn, z_pf, z_pfz, z_pfr, z_iald, z_iast, z_aald, z_alen, z_ret, z_invV, z_invS, z_invH, z_throw, z_sw, zup_r, p_X7_knownGood, p_X7_requireRange, p_X7_requireRoom, p_X7_requireEnough, p_X7_requireAlive, p_X7_requireBook, p_X3_isDead, p_X3_isWithoutBook, p_X7_pointsLeft, p_X7_changeGood, vp01, zup2, p_X7_knownShop r1 r2, ha1, ha2, hb1, hd, hz, hb, ha]
  refine p_X7_lacks d2 h.ch (fun e he => (h.2.2.2.1 e he).2.1) _ _ d 1 _ hb1 n1 ?_
  rw [hb2]
  exact zR_i.mpr ⟨rfl, rfl⟩
set_option maxRecDepth 20000 in
set_option maxHeartbeats 4000000 in
theorem q_la2 {c : Nat} {S : ZS} (h : J c S) {a b : Nat} {d : Int32} (ha : a < nS S) (hb : b < 6) (hd : zbt d 1 99999) : sp_X7_lacks [zr 7 0, zi (nI a), zi (nI b), zi d, zi 2] S (zR (fun v S' => v = (zlkk S b ((S 6 a 1).toNatClampNeg + 1) (S 6 a 1).toNatClampNeg d 0 0 (-1)).2.2.2 ∧ S' = S)) := by
  obtain ⟨r1, r2⟩ := h.1.2.2.1
  obtain ⟨d1, d2⟩ := h.1.2.1
  obtain ⟨ha1, ha2⟩ := znn ha (by omega)
  obtain ⟨hb1, hb2⟩ := zn6 hb
  have hs := h.2.2.2.2.1.1 a ha
  have n1 := (vp_clamp (by omega) hs.2).1
  have hz : zbt (2 : Int32) 0 2 := ⟨by decide, by decide⟩
  simp [sp_X7_lacks, zb_X7_lacks_0, zsp, zin, znth, ztake, zset, zcont, zcontH, zf_0_0, zf_0_2, zf_1_0, zf_1_1, zf_1_2, zf_1_3, zf_1_4, zf_2_0, zf_2_1, zf_2_2, zf_2_3, zf_2_4, zf_3_0, zf_3_1, zf_3_2, zf_3_3, zf_3_4, zf_3_5, zf_3_6, zf_3_7, zf_3_8, zf_3_9, zf_3_10, zf_4_0, zf_4_1, zf_4_2, zf_4_3, zf_4_4, zf_5_0, zf_5_1, zf_5_2, zf_5_3, zf_5_4, zf_5_5, zf_6_0, zf_6_1, zf_6_2, zf_7_0, zf_7_1, zf_7_2, zf_7_3, zf_7_4, zf_7_5, zf_7_6, zf_7_7, zf_7_8, zf_7_9, zf_7_10, zf_7_11, zf_7_12, zf_7_13, zf_7_14, zf_7_15, zf_7_16, zf_7_17, zf_7_18, zln_9, zln_10, zln_15, zln_16, zln_17, zln_18, zln_19, zln_20, zln_21, zln_11, zln_12, zln_13, zln_14, zchild, zcnt, zc1b, zble, zbeq, z_push, z_ild, z_ald, z_ist, z_ast, z_inc, z_bin, z_dvn, z_un, z_dup, z_dup2, z_pop, z_if, z_cmp, z_ifnull, z_pnull, z_acn, z_gf, z_gfn, z_pf, z_pfz, z_pfr, z_iald, z_iast, z_aald, z_alen, z_ret, z_invV, z_invS, z_invH, z_throw, z_sw, zup_r, p_X7_knownGood, p_X7_requireRange, p_X7_requireRoom, p_X7_requireEnough, p_X7_requireAlive, p_X7_requireBook, p_X3_isDead, p_X3_isWithoutBook, p_X7_pointsLeft, p_X7_changeGood, vp01, zup2, p_X7_knownShop r1 r2, ha1, ha2, hb1, hd, hz, hb, ha]
  refine p_X7_lacks d2 h.ch (fun e he => (h.2.2.2.1 e he).2.1) _ _ d 2 _ hb1 n1 ?_
  rw [hb2]
  exact zR_i.mpr ⟨rfl, rfl⟩
