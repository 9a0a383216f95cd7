/-! WHAT IS MADE: depots, shops, people, farms; what is told of goods -/
theorem JM.mk {S S' : ZS} (h : JM S) {x15 xd xh x16 x17 xb : Int32} (e15 : S' 7 0 15 = S 7 0 15 + x15) (ed : zsd S' = zsd S + xd) (eh : zsh S' = zsh S + xh) (e16 : S' 7 0 16 = S 7 0 16 + x16) (e17 : S' 7 0 17 = S 7 0 17 + x17) (eb : zsb S' = zsb S + xb) (hx : x15 = xd + xh + x16 + x17 + xb) : JM S' := by
  unfold JM at h ⊢
  rw [e15, ed, eh, e16, e17, eb, hx, h]
  grind
/-- the counts behind a maker -/
def zN (S S' : ZS) (p d s f : Nat) : Prop := nP S' = nP S + p ∧ nD S' = nD S + d ∧ nS S' = nS S + s ∧ nF S' = nF S + f ∧ S' 7 0 18 = S 7 0 18
set_option maxRecDepth 20000 in
set_option maxHeartbeats 4000000 in
theorem JgrD {c : Nat} {S : ZS} (h : J c S) (x : Int32) (hx : (nD S = 0 ∧ x = -1) ∨ (0 < nD S ∧ vp_in x (nD S))) (v1 : nD S < 6) : J (c + 1) (zgrD S x) ∧ zN S (zgrD S x) 0 1 0 0 := by
  obtain ⟨h1, h2, h3, h4, h5, h6, h7, h8⟩ := h.up
  obtain ⟨d1, d2⟩ := h.1.2.1
  have e8 : nD (zgrD S x) = nD S + 1 := show (nI (nD S + 1)).toNatClampNeg = nD S + 1 from nI_clamp (by omega)
  refine ⟨⟨?_, h2.fr rfl, h3.fr rfl rfl rfl, ?_, ?_, ?_, h7.fr rfl rfl rfl rfl rfl rfl rfl rfl, ?_⟩, rfl, e8, rfl, rfl, rfl⟩
  · obtain ⟨a1, a2, a3⟩ := h1
    exact ⟨a1, ⟨congrArg nI e8.symm, by omega⟩, a3⟩
  · intro i hi
    rw [e8] at hi
    by_cases e : i = nD S
    · subst e
      have z1 : ∀ f, zgrD S x 0 (nD S) f = zFD (nD S) x f := fun f => zgr_at _ _ _ _ _ _ _
      have z2 : ∀ g, zgrD S x 9 (nD S) g = 0 := fun g => by simp [zgrD, zgrow, zsubD, zble, zbeq]
      simp [JDd, z1, z2, zFD, zrg0, hx]
    · have z1 : ∀ f, zgrD S x 0 i f = S 0 i f := fun f => by simp [zgrD, zgrow, e, zsubD, zble, zbeq]
      have z2 : ∀ g, zgrD S x 9 i g = S 9 i g := fun g => by simp [zgrD, zgrow, zsubD, e, zble, zbeq]
      have := h4 i (by omega)
      simp only [JDd, z1, z2] at this ⊢
      exact this
  · exact ⟨fun s hs => ⟨(h5.1 s hs).1, vp_in.mono (h5.1 s hs).2 (by rw [e8]; omega)⟩, h5.2⟩
  · intro f hf
    exact ⟨vp_in.mono (h6 f hf).1 (by rw [e8]; omega), (h6 f hf).2⟩
  · refine JM.mk (x15 := 0) (xd := 0) (xh := 0) (x16 := 0) (x17 := 0) (xb := 0) h8 (Int32.add_zero _).symm ?_ ((zsh_fr rfl (fun j => rfl)).trans (Int32.add_zero _).symm) (Int32.add_zero _).symm (Int32.add_zero _).symm ((zsb_fr (fun j => rfl)).trans (Int32.add_zero _).symm) rfl
    unfold zsd
    rw [e8, zsu]
    congr 1
    · exact zsu_congr (fun i hi => zsu_congr (fun g hg => by simp [zgrD, zgrow, zsubD, show ¬ i = nD S by omega, zble, zbeq]))
    · exact zsu_zero (fun g hg => by simp [zgrD, zgrow, zsubD, zble, zbeq])
set_option maxRecDepth 20000 in
set_option maxHeartbeats 4000000 in
theorem JgrS {c : Nat} {S : ZS} (h : J c S) (d : Nat) (hd : d < nD S) (v1 : nS S < 6) : J (c + 1) (zgrS S d) ∧ zN S (zgrS S d) 0 0 1 0 := by
  obtain ⟨h1, h2, h3, h4, h5, h6, h7, h8⟩ := h.up
  obtain ⟨d1, d2⟩ := h.1.2.1
  have e8 : nS (zgrS S d) = nS S + 1 := show (nI (nS S + 1)).toNatClampNeg = nS S + 1 from nI_clamp (by omega)
  have z5 : ∀ j f, zgrS S d 5 j f = if 6 * nS S ≤ j ∧ j ≤ 6 * nS S + 5 then 0 else S 5 j f := fun j f => by simp [zgrS, zgrow, zsubS, zble, zbeq]
  refine ⟨⟨?_, h2.fr rfl, ?_, h4.fr rfl rfl rfl, ?_, h6.fr rfl rfl (fun f => ⟨rfl, rfl⟩), h7.fr rfl rfl rfl rfl rfl rfl rfl rfl, ?_⟩, rfl, rfl, e8, rfl, rfl⟩
  · obtain ⟨a1, a2, a3, a4⟩ := h1
    exact ⟨a1, a2, ⟨congrArg nI e8.symm, by omega⟩, a4⟩
  · intro i hi
    obtain ⟨k1, k2, k3, k4⟩ := h3 i hi
    exact ⟨k1, vp_in.mono k2 (by rw [e8]; omega), vp_in.mono k3 (by rw [e8]; omega), k4⟩
  · refine ⟨fun s hs => ?_, fun j hj => ?_⟩
    · rw [e8] at hs
      by_cases e : s = nS S
      · subst e
        have z1 : ∀ f, zgrS S d 6 (nS S) f = zFS (nS S) d f := fun f => zgr_at _ _ _ _ _ _ _
        rw [z1, z1]
        exact ⟨rfl, vp_in_nI hd (by have : nD (zgrS S d) = nD S := rfl; omega)⟩
      · have z1 : ∀ f, zgrS S d 6 s f = S 6 s f := fun f => by simp [zgrS, zgrow, e, zsubS, zble, zbeq]
        rw [z1, z1]
        exact h5.1 s (by omega)
    · rw [e8] at hj
      simp only [JHs, z5]
      by_cases e : 6 * nS S ≤ j ∧ j ≤ 6 * nS S + 5
      · simp [e, zrg0]
      · simp only [if_neg e]
        exact h5.2 j (by omega)
  · refine JM.mk (x15 := 0) (xd := 0) (xh := 0) (x16 := 0) (x17 := 0) (xb := 0) h8 (Int32.add_zero _).symm ((zsd_fr rfl rfl).trans (Int32.add_zero _).symm) ?_ (Int32.add_zero _).symm (Int32.add_zero _).symm ((zsb_fr (fun j => rfl)).trans (Int32.add_zero _).symm) rfl
    unfold zsh
    rw [Int32.add_zero, e8]
    refine zsu_congr (fun g hg => ?_)
    rw [zsu, z5, if_pos (by omega), Int32.add_zero]
    exact zsu_congr (fun i hi => by rw [z5, if_neg (by omega)])
set_option maxRecDepth 20000 in
set_option maxHeartbeats 4000000 in
theorem JgrP {c : Nat} {S : ZS} (h : J c S) (kd : Int32) (j : Nat) (hk : zbt kd 0 3) (hj : j < nS S) (v1 : nP S < 20) : J (c + 1) (zgrP S kd j) ∧ zN S (zgrP S kd j) 1 0 0 0 := by
  obtain ⟨h1, h2, h3, h4, h5, h6, h7, h8⟩ := h.up
  obtain ⟨d1, d2⟩ := h.1.2.2.1
  have e8 : nP (zgrP S kd j) = nP S + 1 := show (nI (nP S + 1)).toNatClampNeg = nP S + 1 from nI_clamp (by omega)
  refine ⟨⟨?_, h2.fr rfl, ?_, h4.fr rfl rfl rfl, h5.fr rfl rfl rfl rfl, h6.fr rfl rfl (fun f => ⟨rfl, rfl⟩), ?_, h8.fr rfl rfl (fun f hf hg => by rcases (show f = 15 ∨ f = 16 ∨ f = 17 by omega) with rfl | rfl | rfl <;> rfl) rfl (fun j => rfl) (fun g => rfl)⟩, e8, rfl, rfl, rfl, rfl⟩
  · obtain ⟨a1, a2⟩ := h1
    exact ⟨⟨congrArg nI e8.symm, by omega⟩, a2⟩
  · intro i hi
    rw [e8] at hi
    by_cases e : i = nP S
    · subst e
      have z1 : ∀ f, zgrP S kd j 3 (nP S) f = zFP (nP S) kd j f := fun f => zgr_at _ _ _ _ _ _ _
      have z4 : nS (zgrP S kd j) = nS S := rfl
      simp [JPd, z1, z4, zFP, hk, zrg0, show zrg 100 100 from ⟨by decide, by decide⟩, vp_in_nI hj (show nS S < 2147483648 by omega)]
    · have z1 : ∀ f, zgrP S kd j 3 i f = S 3 i f := fun f => by simp [zgrP, zgrow, e, zsubP, zble, zbeq]
      have := h3 i (by omega)
      have z4 : nS (zgrP S kd j) = nS S := rfl
      simp only [JPd, z1, z4] at this ⊢
      exact this
  · obtain ⟨n, l1, l2, l3, l4⟩ := h7
    refine ⟨n, l1, l2, l3, fun p hp g hg => ?_⟩
    rw [zss_fr (S := S) (S' := zgrP S kd j) rfl rfl rfl rfl, show zgrP S kd j 7 0 13 = S 7 0 13 from rfl, l4 p hp g hg, e8]
    by_cases e : p = nP S
    · subst e
      rw [if_neg (Nat.lt_irrefl _), if_pos (Nat.lt_succ_self _)]
      simp [zgrP, zgrow, zsubP, zble, zbeq]
    · have z2 : zgrP S kd j 10 p g = S 10 p g := by simp [zgrP, zgrow, zsubP, e, zble, zbeq]
      rw [z2]
      by_cases e2 : p < nP S
      · rw [if_pos e2, if_pos (by omega)]
      · rw [if_neg e2, if_neg (by omega)]
set_option maxRecDepth 20000 in
set_option maxHeartbeats 4000000 in
theorem JgrF {c : Nat} {S : ZS} (h : J c S) (d : Nat) (gd qt : Int32) (hd : d < nD S) (hg : vp_in gd 6) (v1 : nF S < 6) : J (c + 1) (zgrF S d gd qt) ∧ zN S (zgrF S d gd qt) 0 0 0 1 := by
  obtain ⟨h1, h2, h3, h4, h5, h6, h7, h8⟩ := h.up
  obtain ⟨d1, d2⟩ := h.1.2.1
  have e8 : nF (zgrF S d gd qt) = nF S + 1 := show (nI (nF S + 1)).toNatClampNeg = nF S + 1 from nI_clamp (by omega)
  refine ⟨⟨?_, h2.fr rfl, h3.fr rfl rfl rfl, h4.fr rfl rfl rfl, h5.fr rfl rfl rfl rfl, ?_, h7.fr rfl rfl rfl rfl rfl rfl rfl rfl, h8.fr rfl rfl (fun f hf hg => by rcases (show f = 15 ∨ f = 16 ∨ f = 17 by omega) with rfl | rfl | rfl <;> rfl) rfl (fun j => rfl) (fun g => rfl)⟩, rfl, rfl, rfl, e8, rfl⟩
  · obtain ⟨a1, a2, a3, a4, a5⟩ := h1
    exact ⟨a1, a2, a3, ⟨congrArg nI e8.symm, by omega⟩, a5⟩
  · intro i hi
    rw [e8] at hi
    have z4 : nD (zgrF S d gd qt) = nD S := rfl
    by_cases e : i = nF S
    · subst e
      have z1 : ∀ f, zgrF S d gd qt 1 (nF S) f = zFF d gd qt f := fun f => zgr_at _ _ _ _ _ _ _
      rw [z1, z1, z4]
      exact ⟨vp_in_nI hd (by omega), hg⟩
    · have z1 : ∀ f, zgrF S d gd qt 1 i f = S 1 i f := fun f => by simp [zgrF, zgrow, e]
      rw [z1, z1, z4]
      exact h6 i (by omega)
set_option maxRecDepth 20000 in
set_option maxHeartbeats 4000000 in
theorem m_depot0 {c : Nat} {S : ZS} (h : J c S) (h0 : nD S = 0) : sp_X7_depot [zr 7 0, zi (-1)] S (zR (fun _ S' => J (c + 1) S' ∧ zN S S' 0 1 0 0)) := by
  obtain ⟨d1, d2⟩ := h.1.2.1
  have e0 : S 7 0 8 = 0 := by rw [d1, h0]; rfl
  have hv : vp_in (0 : Int32) 6 := vp_in_nI (n := 0) (by decide) (by decide)
  have := JgrD h (-1) (Or.inl ⟨h0, rfl⟩) (by omega)
  simp [zb_X7_depot_20, zb_X7_depot_14, zb_X7_depot_0, sp_X7_depot, z_newD, zsp, zin, znth, ztake, zset, zcont, zcontH, zf_0_0, zf_0_2, zf_1_0, zf_1_1, zf_1_2, zf_1_3, zf_1_4, zf_2_0, zf_2_1, zf_2_2, zf_2_3, zf_2_4, zf_3_0, zf_3_1, zf_3_2, zf_3_3, zf_3_4, zf_3_5, zf_3_6, zf_3_7, zf_3_8, zf_3_9, zf_3_10, zf_4_0, zf_4_1, zf_4_2, zf_4_3, zf_4_4, zf_5_0, zf_5_1, zf_5_2, zf_5_3, zf_5_4, zf_5_5, zf_6_0, zf_6_1, zf_6_2, zf_7_0, zf_7_1, zf_7_2, zf_7_3, zf_7_4, zf_7_5, zf_7_6, zf_7_7, zf_7_8, zf_7_9, zf_7_10, zf_7_11, zf_7_12, zf_7_13, zf_7_14, zf_7_15, zf_7_16, zf_7_17, zf_7_18, zln_9, zln_10, zln_15, zln_16, zln_17, zln_18, zln_19, zln_20, zln_21, zln_11, zln_12, zln_13, zln_14, zchild, zcnt, zc1b, zble, zbeq, z_push, z_ild, z_ald, z_ist, z_ast, z_inc, z_bin, z_dvn, z_un, z_dup, z_dup2, z_pop, z_if, z_cmp, z_ifnull, z_pnull, z_acn, z_gf, z_gfn, z_pf, z_pfz, z_pfr, z_iald, z_iast, z_aald, z_alen, z_ret, z_invV, z_invS, z_invH, z_throw, z_sw, zup_r, p_X7_knownGood, p_X7_requireRange, p_X7_requireRoom, p_X7_requireEnough, p_X7_requireAlive, p_X7_requireBook, p_X3_isDead, p_X3_isWithoutBook, p_X7_pointsLeft, p_X7_changeGood, vp01, zup2, p_X7_knownDepot d1 d2, nD_f, e0, hv, zgrD_n, nI_s1, h0, zR_i]
  exact this
set_option maxRecDepth 20000 in
set_option maxHeartbeats 4000000 in
theorem m_depot {c : Nat} {S : ZS} (h : J c S) {a : Nat} (ha : a < nD S) (hn : nD S < 6) : sp_X7_depot [zr 7 0, zi (nI a)] S (zR (fun _ S' => J (c + 1) S' ∧ zN S S' 0 1 0 0)) := by
  obtain ⟨d1, d2⟩ := h.1.2.1
  obtain ⟨ha1, ha2⟩ := znn ha (by omega)
  have hv : vp_in (S 7 0 8) 6 := by rw [d1]; exact vp_in_nI hn (by decide)
  have h0 : 0 < S 7 0 8 := by rw [d1, zlt_iff, zti0, zti_nI (by omega)]; omega
  have h0' : ¬ S 7 0 8 = 0 := fun e => by
    rw [e] at h0
    exact absurd h0 (by decide)
  have hl : S 7 0 8 < 6 := by rw [d1]; exact (nI_ltI (by omega) (by decide)).mpr hn
  have := JgrD h (nI a) (Or.inr ⟨by omega, ha1⟩) hn
  simp [zb_X7_depot_20, zb_X7_depot_14, zb_X7_depot_0, sp_X7_depot, z_newD, zsp, zin, znth, ztake, zset, zcont, zcontH, zf_0_0, zf_0_2, zf_1_0, zf_1_1, zf_1_2, zf_1_3, zf_1_4, zf_2_0, zf_2_1, zf_2_2, zf_2_3, zf_2_4, zf_3_0, zf_3_1, zf_3_2, zf_3_3, zf_3_4, zf_3_5, zf_3_6, zf_3_7, zf_3_8, zf_3_9, zf_3_10, zf_4_0, zf_4_1, zf_4_2, zf_4_3, zf_4_4, zf_5_0, zf_5_1, zf_5_2, zf_5_3, zf_5_4, zf_5_5, zf_6_0, zf_6_1, zf_6_2, zf_7_0, zf_7_1, zf_7_2, zf_7_3, zf_7_4, zf_7_5, zf_7_6, zf_7_7, zf_7_8, zf_7_9, zf_7_10, zf_7_11, zf_7_12, zf_7_13, zf_7_14, zf_7_15, zf_7_16, zf_7_17, zf_7_18, zln_9, zln_10, zln_15, zln_16, zln_17, zln_18, zln_19, zln_20, zln_21, zln_11, zln_12, zln_13, zln_14, zchild, zcnt, zc1b, zble, zbeq, z_push, z_ild, z_ald, z_ist, z_ast, z_inc, z_bin, z_dvn, z_un, z_dup, z_dup2, z_pop, z_if, z_cmp, z_ifnull, z_pnull, z_acn, z_gf, z_gfn, z_pf, z_pfz, z_pfr, z_iald, z_iast, z_aald, z_alen, z_ret, z_invV, z_invS, z_invH, z_throw, z_sw, zup_r, p_X7_knownGood, p_X7_requireRange, p_X7_requireRoom, p_X7_requireEnough, p_X7_requireAlive, p_X7_requireBook, p_X3_isDead, p_X3_isWithoutBook, p_X7_pointsLeft, p_X7_changeGood, vp01, zup2, p_X7_knownDepot d1 d2, nD_f, h0, h0', ha1, ha2, hl, Int32.not_le.mpr hl, hv, zgrD_n, nI_s1, zR_i, ha]
  exact this
set_option maxRecDepth 20000 in
set_option maxHeartbeats 4000000 in
theorem m_shop {c : Nat} {S : ZS} (h : J c S) {a : Nat} (ha : a < nD S) (hn : nS S < 6) : sp_X7_shop [zr 7 0, zi (nI a)] S (zR (fun _ S' => J (c + 1) S' ∧ zN S S' 0 0 1 0)) := by
  obtain ⟨d1, d2⟩ := h.1.2.1
  obtain ⟨r1, r2⟩ := h.1.2.2.1
  obtain ⟨ha1, ha2⟩ := znn ha (by omega)
  have hv : vp_in (S 7 0 9) 6 := by rw [r1]; exact vp_in_nI hn (by decide)
  have hl : S 7 0 9 < 6 := by rw [r1]; exact (nI_ltI (by omega) (by decide)).mpr hn
  have := JgrS h a ha hn
  simp [zb_X7_shop_0, sp_X7_shop, z_newS, zsp, zin, znth, ztake, zset, zcont, zcontH, zf_0_0, zf_0_2, zf_1_0, zf_1_1, zf_1_2, zf_1_3, zf_1_4, zf_2_0, zf_2_1, zf_2_2, zf_2_3, zf_2_4, zf_3_0, zf_3_1, zf_3_2, zf_3_3, zf_3_4, zf_3_5, zf_3_6, zf_3_7, zf_3_8, zf_3_9, zf_3_10, zf_4_0, zf_4_1, zf_4_2, zf_4_3, zf_4_4, zf_5_0, zf_5_1, zf_5_2, zf_5_3, zf_5_4, zf_5_5, zf_6_0, zf_6_1, zf_6_2, zf_7_0, zf_7_1, zf_7_2, zf_7_3, zf_7_4, zf_7_5, zf_7_6, zf_7_7, zf_7_8, zf_7_9, zf_7_10, zf_7_11, zf_7_12, zf_7_13, zf_7_14, zf_7_15, zf_7_16, zf_7_17, zf_7_18, zln_9, zln_10, zln_15, zln_16, zln_17, zln_18, zln_19, zln_20, zln_21, zln_11, zln_12, zln_13, zln_14, zchild, zcnt, zc1b, zble, zbeq, z_push, z_ild, z_ald, z_ist, z_ast, z_inc, z_bin, z_dvn, z_un, z_dup, z_dup2, z_pop, z_if, z_cmp, z_ifnull, z_pnull, z_acn, z_gf, z_gfn, z_pf, z_pfz, z_pfr, z_iald, z_iast, z_aald, z_alen, z_ret, z_invV, z_invS, z_invH, z_throw, z_sw, zup_r, p_X7_knownGood, p_X7_requireRange, p_X7_requireRoom, p_X7_requireEnough, p_X7_requireAlive, p_X7_requireBook, p_X3_isDead, p_X3_isWithoutBook, p_X7_pointsLeft, p_X7_changeGood, vp01, zup2, p_X7_knownDepot d1 d2, nD_f, nS_f, ha1, ha2, hl, Int32.not_le.mpr hl, hv, zgrS_n, nI_s1, zR_i, ha]
  exact this
set_option maxRecDepth 20000 in
set_option maxHeartbeats 4000000 in
theorem m_person {c : Nat} {S : ZS} (h : J c S) {k a : Nat} (hk : k < 4) (ha : a < nS S) (hn : nP S < 20) : sp_X7_person [zr 7 0, zi (nI k), zi (nI a)] S (zR (fun _ S' => J (c + 1) S' ∧ zN S S' 1 0 0 0)) := by
  obtain ⟨q1, q2⟩ := h.1.1
  obtain ⟨r1, r2⟩ := h.1.2.2.1
  obtain ⟨ha1, ha2⟩ := znn ha (by omega)
  have hv : vp_in (S 7 0 7) 20 := by rw [q1]; exact vp_in_nI hn (by decide)
  have hl : S 7 0 7 < 20 := by rw [q1]; exact (nI_ltI (by omega) (by decide)).mpr hn
  have hz : zbt (nI k) 0 3 := by rcases (show k = 0 ∨ k = 1 ∨ k = 2 ∨ k = 3 by omega) with rfl | rfl | rfl | rfl <;> exact ⟨by decide, by decide⟩
  have := JgrP h (nI k) a hz ha hn
  simp [zb_X7_person_0, sp_X7_person, z_newP, zsp, zin, znth, ztake, zset, zcont, zcontH, zf_0_0, zf_0_2, zf_1_0, zf_1_1, zf_1_2, zf_1_3, zf_1_4, zf_2_0, zf_2_1, zf_2_2, zf_2_3, zf_2_4, zf_3_0, zf_3_1, zf_3_2, zf_3_3, zf_3_4, zf_3_5, zf_3_6, zf_3_7, zf_3_8, zf_3_9, zf_3_10, zf_4_0, zf_4_1, zf_4_2, zf_4_3, zf_4_4, zf_5_0, zf_5_1, zf_5_2, zf_5_3, zf_5_4, zf_5_5, zf_6_0, zf_6_1, zf_6_2, zf_7_0, zf_7_1, zf_7_2, zf_7_3, zf_7_4, zf_7_5, zf_7_6, zf_7_7, zf_7_8, zf_7_9, zf_7_10, zf_7_11, zf_7_12, zf_7_13, zf_7_14, zf_7_15, zf_7_16, zf_7_17, zf_7_18, zln_9, zln_10, zln_15, zln_16, zln_17, zln_18, zln_19, zln_20, zln_21, zln_11, zln_12, zln_13, zln_14, zchild, zcnt, zc1b, zble, zbeq, z_push, z_ild, z_ald, z_ist, z_ast, z_inc, z_bin, z_dvn, z_un, z_dup, z_dup2, z_pop, z_if, z_cmp, z_ifnull, z_pnull, z_acn, z_gf, z_gfn, z_pf, z_pfz, z_pfr, z_iald, z_iast, z_aald, z_alen, z_ret, z_invV, z_invS, z_invH, z_throw, z_sw, zup_r, p_X7_knownGood, p_X7_requireRange, p_X7_requireRoom, p_X7_requireEnough, p_X7_requireAlive, p_X7_requireBook, p_X3_isDead, p_X3_isWithoutBook, p_X7_pointsLeft, p_X7_changeGood, vp01, zup2, p_X7_knownShop r1 r2, nP_f, nS_f, ha1, ha2, hz, hl, Int32.not_le.mpr hl, hv, zgrP_n, nI_s1, zR_i, ha]
  exact this
set_option maxRecDepth 20000 in
set_option maxHeartbeats 4000000 in
theorem m_farm {c : Nat} {S : ZS} (h : J c S) {a b : Nat} {d : Int32} (ha : a < nD S) (hb : b < 6) (hd : zbt d 1 99999) (hn : nF S < 6) : sp_X7_farm [zr 7 0, zi (nI a), zi (nI b), zi d] S (zR (fun _ S' => J (c + 1) S' ∧ zN S S' 0 0 0 1)) := by
  obtain ⟨d1, d2⟩ := h.1.2.1
  obtain ⟨f1, f2⟩ := h.1.2.2.2.1
  obtain ⟨ha1, ha2⟩ := znn ha (by omega)
  obtain ⟨hb1, hb2⟩ := zn6 hb
  have hv : vp_in (S 7 0 10) 6 := by rw [f1]; exact vp_in_nI hn (by decide)
  have hl : S 7 0 10 < 6 := by rw [f1]; exact (nI_ltI (by omega) (by decide)).mpr hn
  have := JgrF h a (nI b) d ha hb1 hn
  simp [zb_X7_farm_0, sp_X7_farm, z_newF, zsp, zin, znth, ztake, zset, zcont, zcontH, zf_0_0, zf_0_2, zf_1_0, zf_1_1, zf_1_2, zf_1_3, zf_1_4, zf_2_0, zf_2_1, zf_2_2, zf_2_3, zf_2_4, zf_3_0, zf_3_1, zf_3_2, zf_3_3, zf_3_4, zf_3_5, zf_3_6, zf_3_7, zf_3_8, zf_3_9, zf_3_10, zf_4_0, zf_4_1, zf_4_2, zf_4_3, zf_4_4, zf_5_0, zf_5_1, zf_5_2, zf_5_3, zf_5_4, zf_5_5, zf_6_0, zf_6_1, zf_6_2, zf_7_0, zf_7_1, zf_7_2, zf_7_3, zf_7_4, zf_7_5, zf_7_6, zf_7_7, zf_7_8, zf_7_9, zf_7_10, zf_7_11, zf_7_12, zf_7_13, zf_7_14, zf_7_15, zf_7_16, zf_7_17, zf_7_18, zln_9, zln_10, zln_15, zln_16, zln_17, zln_18, zln_19, zln_20, zln_21, zln_11, zln_12, zln_13, zln_14, zchild, zcnt, zc1b, zble, zbeq, z_push, z_ild, z_ald, z_ist, z_ast, z_inc, z_bin, z_dvn, z_un, z_dup, z_dup2, z_pop, z_if, z_cmp, z_ifnull, z_pnull, z_acn, z_gf, z_gfn, z_pf, z_pfz, z_pfr, z_iald, z_iast, z_aald, z_alen, z_ret, z_invV, z_invS, z_invH, z_throw, z_sw, zup_r, p_X7_knownGood, p_X7_requireRange, p_X7_requireRoom, p_X7_requireEnough, p_X7_requireAlive, p_X7_requireBook, p_X3_isDead, p_X3_isWithoutBook, p_X7_pointsLeft, p_X7_changeGood, vp01, zup2, p_X7_knownDepot d1 d2, nD_f, nF_f, ha1, ha2, hb1, hd, hl, Int32.not_le.mpr hl, hv, zgrF_n, nI_s1, zR_i, hb, ha]
  exact this
set_option maxRecDepth 20000 in
set_option maxHeartbeats 4000000 in
theorem m_energy {c : Nat} {S : ZS} (h : J c S) {b : Nat} {d : Int32} (hb : b < 6) (hd : zbt d 0 900) : sp_X7_energy [zr 7 0, zi (nI b), zi d] S (zR (fun _ S' => J (c + 1) S' ∧ zEq S S')) := by
  obtain ⟨hb1, hb2⟩ := zn6 hb
  simp [zb_X7_energy_0, sp_X7_energy, zsp, zin, znth, ztake, zset, zcont, zcontH, zf_0_0, zf_0_2, zf_1_0, zf_1_1, zf_1_2, zf_1_3, zf_1_4, zf_2_0, zf_2_1, zf_2_2, zf_2_3, zf_2_4, zf_3_0, zf_3_1, zf_3_2, zf_3_3, zf_3_4, zf_3_5, zf_3_6, zf_3_7, zf_3_8, zf_3_9, zf_3_10, zf_4_0, zf_4_1, zf_4_2, zf_4_3, zf_4_4, zf_5_0, zf_5_1, zf_5_2, zf_5_3, zf_5_4, zf_5_5, zf_6_0, zf_6_1, zf_6_2, zf_7_0, zf_7_1, zf_7_2, zf_7_3, zf_7_4, zf_7_5, zf_7_6, zf_7_7, zf_7_8, zf_7_9, zf_7_10, zf_7_11, zf_7_12, zf_7_13, zf_7_14, zf_7_15, zf_7_16, zf_7_17, zf_7_18, zln_9, zln_10, zln_15, zln_16, zln_17, zln_18, zln_19, zln_20, zln_21, zln_11, zln_12, zln_13, zln_14, zchild, zcnt, zc1b, zble, zbeq, z_push, z_ild, z_ald, z_ist, z_ast, z_inc, z_bin, z_dvn, z_un, z_dup, z_dup2, z_pop, z_if, z_cmp, z_ifnull, z_pnull, z_acn, z_gf, z_gfn, z_pf, z_pfz, z_pfr, z_iald, z_iast, z_aald, z_alen, z_ret, z_invV, z_invS, z_invH, z_throw, z_sw, zup_r, p_X7_knownGood, p_X7_requireRange, p_X7_requireRoom, p_X7_requireEnough, p_X7_requireAlive, p_X7_requireBook, p_X3_isDead, p_X3_isWithoutBook, p_X7_pointsLeft, p_X7_changeGood, vp01, zup2, hb1, hb2, hd, zR_i, hb]
  obtain ⟨h1, h2, h3, h4, h5, h6, h7, h8⟩ := h.up
  refine ⟨⟨h1.fr (fun f hf => rfl), h2.put b (fun i f hi => by simp [zup, hi]) ?_, h3.fr rfl rfl rfl, h4.fr rfl rfl rfl, h5.fr rfl rfl rfl rfl, h6.fr rfl rfl (fun f => ⟨rfl, rfl⟩), h7.fr rfl rfl rfl rfl rfl rfl rfl rfl, h8.fr rfl rfl (fun f hf hg => rfl) rfl (fun j => rfl) (fun g => by simp [zup])⟩, ⟨rfl, rfl, rfl, rfl⟩, rfl⟩
  have := h2 b hb
  simp only [JGd] at this ⊢
  simp [zup, this, zbt_rg hd]
set_option maxRecDepth 20000 in
set_option maxHeartbeats 4000000 in
theorem Jchange {c : Nat} {S : ZS} (h : J c S) {b : Nat} {x y : Int32} (hb : b < 6) (hx : x = 0 ∨ (x = 1 ∧ zbt y 1 24) ∨ x = 2) : J (c + 1) (zup (zup S 2 b 0 x) 2 b 1 y) ∧ zEq S (zup (zup S 2 b 0 x) 2 b 1 y) := by
  obtain ⟨h1, h2, h3, h4, h5, h6, h7, h8⟩ := h.up
  refine ⟨⟨h1.fr (fun f hf => rfl), h2.put b (fun i f hi => by simp [zup, hi]) ?_, h3.fr rfl rfl rfl, h4.fr rfl rfl rfl, h5.fr rfl rfl rfl rfl, h6.fr rfl rfl (fun f => ⟨rfl, rfl⟩), h7.fr rfl rfl rfl rfl rfl rfl rfl rfl, h8.fr rfl rfl (fun f hf hg => rfl) rfl (fun j => rfl) (fun g => by simp [zup])⟩, ⟨rfl, rfl, rfl, rfl⟩, rfl⟩
  have := h2 b hb
  simp only [JGd] at this ⊢
  simp [zup, this, hx]
set_option maxRecDepth 20000 in
set_option maxHeartbeats 4000000 in
theorem m_ration {c : Nat} {S : ZS} (h : J c S) {b : Nat} {d : Int32} (hb : b < 6) (hd : zbt d 0 9999) : sp_X7_ration [zr 7 0, zi (nI b), zi d] S (zR (fun _ S' => J (c + 1) S' ∧ zEq S S')) := by
  obtain ⟨hb1, hb2⟩ := zn6 hb
  have := Jchange (x := 0) (y := d) h hb (Or.inl rfl)
  simp [zb_X7_ration_0, sp_X7_ration, zsp, zin, znth, ztake, zset, zcont, zcontH, zf_0_0, zf_0_2, zf_1_0, zf_1_1, zf_1_2, zf_1_3, zf_1_4, zf_2_0, zf_2_1, zf_2_2, zf_2_3, zf_2_4, zf_3_0, zf_3_1, zf_3_2, zf_3_3, zf_3_4, zf_3_5, zf_3_6, zf_3_7, zf_3_8, zf_3_9, zf_3_10, zf_4_0, zf_4_1, zf_4_2, zf_4_3, zf_4_4, zf_5_0, zf_5_1, zf_5_2, zf_5_3, zf_5_4, zf_5_5, zf_6_0, zf_6_1, zf_6_2, zf_7_0, zf_7_1, zf_7_2, zf_7_3, zf_7_4, zf_7_5, zf_7_6, zf_7_7, zf_7_8, zf_7_9, zf_7_10, zf_7_11, zf_7_12, zf_7_13, zf_7_14, zf_7_15, zf_7_16, zf_7_17, zf_7_18, zln_9, zln_10, zln_15, zln_16, zln_17, zln_18, zln_19, zln_20, zln_21, zln_11, zln_12, zln_13, zln_14, zchild, zcnt, zc1b, zble, zbeq, z_push, z_ild, z_ald, z_ist, z_ast, z_inc, z_bin, z_dvn, z_un, z_dup, z_dup2, z_pop, z_if, z_cmp, z_ifnull, z_pnull, z_acn, z_gf, z_gfn, z_pf, z_pfz, z_pfr, z_iald, z_iast, z_aald, z_alen, z_ret, z_invV, z_invS, z_invH, z_throw, z_sw, zup_r, p_X7_knownGood, p_X7_requireRange, p_X7_requireRoom, p_X7_requireEnough, p_X7_requireAlive, p_X7_requireBook, p_X3_isDead, p_X3_isWithoutBook, p_X7_pointsLeft, p_X7_changeGood, vp01, zup2, hb1, hb2, hd, zR_i, hb]
  exact this
set_option maxRecDepth 20000 in
set_option maxHeartbeats 4000000 in
theorem m_onPoints {c : Nat} {S : ZS} (h : J c S) {b : Nat} {d : Int32} (hb : b < 6) (hd : zbt d 1 24) : sp_X7_onPoints [zr 7 0, zi (nI b), zi d] S (zR (fun _ S' => J (c + 1) S' ∧ zEq S S')) := by
  obtain ⟨hb1, hb2⟩ := zn6 hb
  have := Jchange (x := 1) (y := d) h hb (Or.inr (Or.inl ⟨rfl, hd⟩))
  simp [zb_X7_onPoints_0, sp_X7_onPoints, zsp, zin, znth, ztake, zset, zcont, zcontH, zf_0_0, zf_0_2, zf_1_0, zf_1_1, zf_1_2, zf_1_3, zf_1_4, zf_2_0, zf_2_1, zf_2_2, zf_2_3, zf_2_4, zf_3_0, zf_3_1, zf_3_2, zf_3_3, zf_3_4, zf_3_5, zf_3_6, zf_3_7, zf_3_8, zf_3_9, zf_3_10, zf_4_0, zf_4_1, zf_4_2, zf_4_3, zf_4_4, zf_5_0, zf_5_1, zf_5_2, zf_5_3, zf_5_4, zf_5_5, zf_6_0, zf_6_1, zf_6_2, zf_7_0, zf_7_1, zf_7_2, zf_7_3, zf_7_4, zf_7_5, zf_7_6, zf_7_7, zf_7_8, zf_7_9, zf_7_10, zf_7_11, zf_7_12, zf_7_13, zf_7_14, zf_7_15, zf_7_16, zf_7_17, zf_7_18, zln_9, zln_10, zln_15, zln_16, zln_17, zln_18, zln_19, zln_20, zln_21, zln_11, zln_12, zln_13, zln_14, zchild, zcnt, zc1b, zble, zbeq, z_push, z_ild, z_ald, z_ist, z_ast, z_inc, z_bin, z_dvn, z_un, z_dup, z_dup2, z_pop, z_if, z_cmp, z_ifnull, z_pnull, z_acn, z_gf, z_gfn, z_pf, z_pfz, z_pfr, z_iald, z_iast, z_aald, z_alen, z_ret, z_invV, z_invS, z_invH, z_throw, z_sw, zup_r, p_X7_knownGood, p_X7_requireRange, p_X7_requireRoom, p_X7_requireEnough, p_X7_requireAlive, p_X7_requireBook, p_X3_isDead, p_X3_isWithoutBook, p_X7_pointsLeft, p_X7_changeGood, vp01, zup2, hb1, hb2, hd, zR_i, hb]
  exact this
set_option maxRecDepth 20000 in
set_option maxHeartbeats 4000000 in
theorem m_free {c : Nat} {S : ZS} (h : J c S) {b : Nat} (hb : b < 6) : sp_X7_free [zr 7 0, zi (nI b)] S (zR (fun _ S' => J (c + 1) S' ∧ zEq S S')) := by
  obtain ⟨hb1, hb2⟩ := zn6 hb
  have := Jchange (x := 2) (y := 0) h hb (Or.inr (Or.inr rfl))
  simp [zb_X7_free_0, sp_X7_free, zsp, zin, znth, ztake, zset, zcont, zcontH, zf_0_0, zf_0_2, zf_1_0, zf_1_1, zf_1_2, zf_1_3, zf_1_4, zf_2_0, zf_2_1, zf_2_2, zf_2_3, zf_2_4, zf_3_0, zf_3_1, zf_3_2, zf_3_3, zf_3_4, zf_3_5, zf_3_6, zf_3_7, zf_3_8, zf_3_9, zf_3_10, zf_4_0, zf_4_1, zf_4_2, zf_4_3, zf_4_4, zf_5_0, zf_5_1, zf_5_2, zf_5_3, zf_5_4, zf_5_5, zf_6_0, zf_6_1, zf_6_2, zf_7_0, zf_7_1, zf_7_2, zf_7_3, zf_7_4, zf_7_5, zf_7_6, zf_7_7, zf_7_8, zf_7_9, zf_7_10, zf_7_11, zf_7_12, zf_7_13, zf_7_14, zf_7_15, zf_7_16, zf_7_17, zf_7_18, zln_9, zln_10, zln_15, zln_16, zln_17, zln_18, zln_19, zln_20, zln_21, zln_11, zln_12, zln_13, zln_14, zchild, zcnt, zc1b, zble, zbeq, z_push, z_ild, z_ald, z_ist, z_ast, z_inc, z_bin, z_dvn, z_un, z_dup, z_dup2, z_pop, z_if, z_cmp, z_ifnull, z_pnull, z_acn, z_gf, z_gfn, z_pf, z_pfz, z_pfr, z_iald, z_iast, z_aald, z_alen, z_ret, z_invV, z_invS, z_invH, z_throw, z_sw, zup_r, p_X7_knownGood, p_X7_requireRange, p_X7_requireRoom, p_X7_requireEnough, p_X7_requireAlive, p_X7_requireBook, p_X3_isDead, p_X3_isWithoutBook, p_X7_pointsLeft, p_X7_changeGood, vp01, zup2, hb1, hb2, zR_i, hb]
  exact this
set_option maxRecDepth 20000 in
set_option maxHeartbeats 4000000 in
theorem Jbring {c : Nat} {S : ZS} (h : J c S) (hc : c ≤ 500) {a b : Nat} {d : Int32} (ha : a < nD S) (hb : b < 6) (hd : zbt d 1 99999) : J (c + 1) (zup (zup S 9 a b (S 9 a b + d)) 7 0 15 (S 7 0 15 + d)) ∧ zEq S (zup (zup S 9 a b (S 9 a b + d)) 7 0 15 (S 7 0 15 + d)) := by
  obtain ⟨h1, h2, h3, h4, h5, h6, h7, h8⟩ := h.up
  refine ⟨⟨h1.fr (fun f hf => by simp [zup, show ¬ f = 15 by omega, show ¬ f = 16 by omega, show ¬ f = 17 by omega, show ¬ f = 18 by omega]), h2.fr rfl, h3.fr rfl rfl rfl, h4.put rfl rfl (fun i g hi hg => ?_), h5.fr rfl rfl rfl rfl, h6.fr rfl rfl (fun f => ⟨rfl, rfl⟩), h7.fr rfl rfl rfl rfl rfl rfl rfl rfl, ?_⟩, ⟨rfl, rfl, rfl, rfl⟩, rfl⟩
  · by_cases e : i = a ∧ g = b
    · obtain ⟨rfl, rfl⟩ := e
      simp [zup]
      exact (((h.2.2.2.1 i hi).2.2 g hg).add (zrg99 hd) (by omega)).mono (by omega)
    · simp [zup, e]
      exact (h4 i hi).2.2 g hg
  · refine JM.mk (x15 := d) (xd := d) (xh := 0) (x16 := 0) (x17 := 0) (xb := 0) h8 (by simp [zup]) ?_ ((zsh_fr rfl (fun j => rfl)).trans (Int32.add_zero _).symm) (by simp [zup]) (by simp [zup]) ((zsb_fr (fun j => rfl)).trans (Int32.add_zero _).symm) (by simp)
    refine zsd_pu ha hb rfl (fun i f hn => by simp [zup, hn]) ?_
    first | (simp [zup]; done) | (simp [zup]; grind)
set_option maxRecDepth 20000 in
set_option maxHeartbeats 4000000 in
theorem m_ship {c : Nat} {S : ZS} (h : J c S) (hc : c ≤ 500) {a b : Nat} {d : Int32} (ha : a < nD S) (hb : b < 6) (hd : zbt d 1 99999) : sp_X7_ship [zr 7 0, zi (nI a), zi (nI b), zi d] S (zR (fun _ S' => J (c + 1) S' ∧ zEq S S')) := by
  obtain ⟨d1, d2⟩ := h.1.2.1
  obtain ⟨ha1, ha2⟩ := znn ha (by omega)
  obtain ⟨hb1, hb2⟩ := zn6 hb
  have := Jbring h hc ha hb hd
  simp [zb_X7_ship_0, sp_X7_ship, zsp, zin, znth, ztake, zset, zcont, zcontH, zf_0_0, zf_0_2, zf_1_0, zf_1_1, zf_1_2, zf_1_3, zf_1_4, zf_2_0, zf_2_1, zf_2_2, zf_2_3, zf_2_4, zf_3_0, zf_3_1, zf_3_2, zf_3_3, zf_3_4, zf_3_5, zf_3_6, zf_3_7, zf_3_8, zf_3_9, zf_3_10, zf_4_0, zf_4_1, zf_4_2, zf_4_3, zf_4_4, zf_5_0, zf_5_1, zf_5_2, zf_5_3, zf_5_4, zf_5_5, zf_6_0, zf_6_1, zf_6_2, zf_7_0, zf_7_1, zf_7_2, zf_7_3, zf_7_4, zf_7_5, zf_7_6, zf_7_7, zf_7_8, zf_7_9, zf_7_10, zf_7_11, zf_7_12, zf_7_13, zf_7_14, zf_7_15, zf_7_16, zf_7_17, zf_7_18, zln_9, zln_10, zln_15, zln_16, zln_17, zln_18, zln_19, zln_20, zln_21, zln_11, zln_12, zln_13, zln_14, zchild, zcnt, zc1b, zble, zbeq, z_push, z_ild, z_ald, z_ist, z_ast, z_inc, z_bin, z_dvn, z_un, z_dup, z_dup2, z_pop, z_if, z_cmp, z_ifnull, z_pnull, z_acn, z_gf, z_gfn, z_pf, z_pfz, z_pfr, z_iald, z_iast, z_aald, z_alen, z_ret, z_invV, z_invS, z_invH, z_throw, z_sw, zup_r, p_X7_knownGood, p_X7_requireRange, p_X7_requireRoom, p_X7_requireEnough, p_X7_requireAlive, p_X7_requireBook, p_X3_isDead, p_X3_isWithoutBook, p_X7_pointsLeft, p_X7_changeGood, vp01, zup2, p_X7_knownDepot d1 d2, p_X7_bringTo hb1, ha1, ha2, hb1, hb2, hd, zR_i, hb, ha]
  exact this
