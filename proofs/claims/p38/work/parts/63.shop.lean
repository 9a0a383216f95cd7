/-! SHOPS: forged, settled, inspected, stolen, claimed, advanced -/
/-- what is missing -/
def zmi (S : ZS) (j : Nat) : Int32 := S 5 j 3 - S 5 j 4 - S 5 j 0
theorem zmn_cases (a b : Int32) : (zmn a b = b ∧ b < a) ∨ (zmn a b = a ∧ ¬ b < a) := by
  unfold zmn
  by_cases h : b < a
  · exact Or.inl ⟨if_pos h, h⟩
  · exact Or.inr ⟨if_neg h, h⟩
/-- the lesser one, and what is left -/
theorem zmn_rg {a b : Int32} {n m : Nat} (ha : zrg a n) (hb : zrg b m) : 0 ≤ (zmn a b).toInt ∧ (zmn a b).toInt ≤ a.toInt ∧ (zmn a b).toInt ≤ b.toInt := by
  obtain ⟨a1, a2⟩ := ha
  obtain ⟨b1, b2⟩ := hb
  rcases zmn_cases a b with ⟨e, h⟩ | ⟨e, h⟩ <;> rw [e] <;> rw [zlt_iff] at h <;> omega
theorem zrg.subi {x y : Int32} {n : Nat} (h : zrg x n) (h1 : 0 ≤ y.toInt) (h2 : y.toInt ≤ x.toInt) : zrg (x - y) n := h.sub h1 (zle_iff.mpr h2)
set_option maxRecDepth 20000 in
set_option maxHeartbeats 4000000 in
theorem m_forge {c : Nat} {S : ZS} (h : J c S) (hc : c ≤ 500) {a b : Nat} {d : Int32} (ha : a < nS S) (hb : b < 6) (hd : zbt d 1 9999) : sp_X7_forge [zr 7 0, zi (nI a), zi (nI b), zi d] S (zR (fun v S' => J (c + 1) S' ∧ zEq S S' ∧ v = S' 5 (6 * a + b) 1 ∧ d ≤ S' 5 (6 * a + b) 5)) := by
  obtain ⟨r1, r2⟩ := h.1.2.2.1
  obtain ⟨ha1, ha2⟩ := znn ha (by omega)
  obtain ⟨hb1, hb2⟩ := zn6 hb
  simp [zb_X7_forge_0, sp_X7_forge, zsp, zin, znth, ztake, zset, zcont, zcontH, zf_0_0, zf_0_2, zf_1_0, zf_1_1, zf_1_2, zf_1_3, zf_1_4, zf_2_0, zf_2_1, zf_2_2, zf_2_3, zf_2_4, zf_3_0, zf_3_1, zf_3_2, zf_3_3, zf_3_4, zf_3_5, zf_3_6, zf_3_7, zf_3_8, zf_3_9, zf_3_10, zf_4_0, zf_4_1, zf_4_2, zf_4_3, zf_4_4, zf_5_0, zf_5_1, zf_5_2, zf_5_3, zf_5_4, zf_5_5, zf_6_0, zf_6_1, zf_6_2, zf_7_0, zf_7_1, zf_7_2, zf_7_3, zf_7_4, zf_7_5, zf_7_6, zf_7_7, zf_7_8, zf_7_9, zf_7_10, zf_7_11, zf_7_12, zf_7_13, zf_7_14, zf_7_15, zf_7_16, zf_7_17, zf_7_18, zln_9, zln_10, zln_15, zln_16, zln_17, zln_18, zln_19, zln_20, zln_21, zln_11, zln_12, zln_13, zln_14, zchild, zcnt, zc1b, zble, zbeq, z_push, z_ild, z_ald, z_ist, z_ast, z_inc, z_bin, z_dvn, z_un, z_dup, z_dup2, z_pop, z_if, z_cmp, z_ifnull, z_pnull, z_acn, z_gf, z_gfn, z_pf, z_pfz, z_pfr, z_iald, z_iast, z_aald, z_alen, z_ret, z_invV, z_invS, z_invH, z_throw, z_sw, zup_r, p_X7_knownGood, p_X7_requireRange, p_X7_requireRoom, p_X7_requireEnough, p_X7_requireAlive, p_X7_requireBook, p_X3_isDead, p_X3_isWithoutBook, p_X7_pointsLeft, p_X7_changeGood, vp01, zup2, p_X7_knownShop r1 r2, nS_f, ha1, ha2, hb1, hb2, hd, zR_i, hb, ha]
  have hj : 6 * a + b < 6 * nS S := by omega
  generalize 6 * a + b = j at *
  obtain ⟨h1, h2, h3, h4, h5, h6, h7, h8⟩ := h.up
  obtain ⟨k1, k2, k3, k4, k5⟩ := h.2.2.2.2.1.2 j hj
  obtain ⟨l1, l2, l3, l4, l5⟩ := h5.2 j hj
  refine ⟨⟨h1.fr (fun f hf => rfl), h2.fr rfl, h3.fr rfl rfl rfl, h4.fr rfl rfl rfl, h5.put rfl rfl rfl j (fun i f hi => by simp [zup, hi]) ?_, h6.fr rfl rfl (fun f => ⟨rfl, rfl⟩), h7.fr rfl rfl rfl rfl rfl rfl rfl rfl, h8.fr rfl rfl (fun f hf hg => rfl) rfl (fun j => by simp [zup]) (fun g => rfl)⟩, ⟨⟨rfl, rfl, rfl, rfl⟩, rfl⟩, ?_⟩
  · have e1 := (k2.add (zrg9 hd) (by omega)).mono (show 99999 * c + 9999 ≤ 99999 * (c + 1) by omega)
    have e2 := (k5.add (zrg9 hd) (by omega)).mono (show 99999 * c + 9999 ≤ 99999 * (c + 1) by omega)
    simp only [JHs] at l4 ⊢
    simp [zup, l1, l3, l4, e1, e2]
  · have := zgr9 hd
    have := k5.1
    have := k5.2
    rw [zle_iff, zadd_i (by omega) (by omega)]
    omega
set_option maxRecDepth 20000 in
set_option maxHeartbeats 4000000 in
theorem m_settle {c : Nat} {S : ZS} (h : J c S) {a b : Nat} (ha : a < nS S) (hb : b < 6) : sp_X7_settle [zr 7 0, zi (nI a), zi (nI b)] S (zR (fun v S' => J (c + 1) S' ∧ zEq S S')) := by
  obtain ⟨r1, r2⟩ := h.1.2.2.1
  obtain ⟨ha1, ha2⟩ := znn ha (by omega)
  obtain ⟨hb1, hb2⟩ := zn6 hb
  simp [zb_X7_settle_0, sp_X7_settle, zsp, zin, znth, ztake, zset, zcont, zcontH, zf_0_0, zf_0_2, zf_1_0, zf_1_1, zf_1_2, zf_1_3, zf_1_4, zf_2_0, zf_2_1, zf_2_2, zf_2_3, zf_2_4, zf_3_0, zf_3_1, zf_3_2, zf_3_3, zf_3_4, zf_3_5, zf_3_6, zf_3_7, zf_3_8, zf_3_9, zf_3_10, zf_4_0, zf_4_1, zf_4_2, zf_4_3, zf_4_4, zf_5_0, zf_5_1, zf_5_2, zf_5_3, zf_5_4, zf_5_5, zf_6_0, zf_6_1, zf_6_2, zf_7_0, zf_7_1, zf_7_2, zf_7_3, zf_7_4, zf_7_5, zf_7_6, zf_7_7, zf_7_8, zf_7_9, zf_7_10, zf_7_11, zf_7_12, zf_7_13, zf_7_14, zf_7_15, zf_7_16, zf_7_17, zf_7_18, zln_9, zln_10, zln_15, zln_16, zln_17, zln_18, zln_19, zln_20, zln_21, zln_11, zln_12, zln_13, zln_14, zchild, zcnt, zc1b, zble, zbeq, z_push, z_ild, z_ald, z_ist, z_ast, z_inc, z_bin, z_dvn, z_un, z_dup, z_dup2, z_pop, z_if, z_cmp, z_ifnull, z_pnull, z_acn, z_gf, z_gfn, z_pf, z_pfz, z_pfr, z_iald, z_iast, z_aald, z_alen, z_ret, z_invV, z_invS, z_invH, z_throw, z_sw, zup_r, p_X7_knownGood, p_X7_requireRange, p_X7_requireRoom, p_X7_requireEnough, p_X7_requireAlive, p_X7_requireBook, p_X3_isDead, p_X3_isWithoutBook, p_X7_pointsLeft, p_X7_changeGood, vp01, zup2, z_mm_n, p_X7_knownShop r1 r2, nS_f, ha1, ha2, hb1, hb2, zR_i, hb, ha]
  have hj : 6 * a + b < 6 * nS S := by omega
  generalize 6 * a + b = j at *
  obtain ⟨h1, h2, h3, h4, h5, h6, h7, h8⟩ := h.up
  obtain ⟨l1, l2, l3, l4, l5⟩ := h5.2 j hj
  have hm := zmn_rg l2 l3
  refine ⟨⟨h1.fr (fun f hf => rfl), h2.fr rfl, h3.fr rfl rfl rfl, h4.fr rfl rfl rfl, h5.put rfl rfl rfl j (fun i f hi => by simp [zup, hi]) ?_, h6.fr rfl rfl (fun f => ⟨rfl, rfl⟩), h7.fr rfl rfl rfl rfl rfl rfl rfl rfl, h8.fr rfl rfl (fun f hf hg => rfl) rfl (fun j => by simp [zup]) (fun g => rfl)⟩, ⟨rfl, rfl, rfl, rfl⟩, rfl⟩
  have e1 := l2.subi hm.1 hm.2.1
  have e2 := l3.subi hm.1 hm.2.2
  simp only [JHs] at l4 ⊢
  simp [zup, l1, l4, l5, e1, e2]
set_option maxRecDepth 20000 in
set_option maxHeartbeats 4000000 in
theorem m_inspect {c : Nat} {S : ZS} (h : J c S) (hc : c ≤ 500) {a : Nat} (ha : a < nS S) : sp_X7_inspect [zr 7 0, zi (nI a)] S (zR (fun v S' => J (c + 1) S' ∧ zEq S S' ∧ ∀ b, b < 6 → S' 5 (6 * a + b) 1 = S 5 (6 * a + b) 1 - zmn (S 5 (6 * a + b) 5) (S 5 (6 * a + b) 1) ∧ S' 5 (6 * a + b) 5 = S 5 (6 * a + b) 5 - zmn (S 5 (6 * a + b) 5) (S 5 (6 * a + b) 1))) := by
  obtain ⟨r1, r2⟩ := h.1.2.2.1
  obtain ⟨ha1, ha2⟩ := znn ha (by omega)
  simp [sp_X7_inspect, zb_X7_inspect_0, zsp, zin, znth, ztake, zset, zcont, zcontH, zf_0_0, zf_0_2, zf_1_0, zf_1_1, zf_1_2, zf_1_3, zf_1_4, zf_2_0, zf_2_1, zf_2_2, zf_2_3, zf_2_4, zf_3_0, zf_3_1, zf_3_2, zf_3_3, zf_3_4, zf_3_5, zf_3_6, zf_3_7, zf_3_8, zf_3_9, zf_3_10, zf_4_0, zf_4_1, zf_4_2, zf_4_3, zf_4_4, zf_5_0, zf_5_1, zf_5_2, zf_5_3, zf_5_4, zf_5_5, zf_6_0, zf_6_1, zf_6_2, zf_7_0, zf_7_1, zf_7_2, zf_7_3, zf_7_4, zf_7_5, zf_7_6, zf_7_7, zf_7_8, zf_7_9, zf_7_10, zf_7_11, zf_7_12, zf_7_13, zf_7_14, zf_7_15, zf_7_16, zf_7_17, zf_7_18, zln_9, zln_10, zln_15, zln_16, zln_17, zln_18, zln_19, zln_20, zln_21, zln_11, zln_12, zln_13, zln_14, zchild, zcnt, zc1b, zble, zbeq, z_push, z_ild, z_ald, z_ist, z_ast, z_inc, z_bin, z_dvn, z_un, z_dup, z_dup2, z_pop, z_if, z_cmp, z_ifnull, z_pnull, z_acn, z_gf, z_gfn, z_pf, z_pfz, z_pfr, z_iald, z_iast, z_aald, z_alen, z_ret, z_invV, z_invS, z_invH, z_throw, z_sw, zup_r, p_X7_knownGood, p_X7_requireRange, p_X7_requireRoom, p_X7_requireEnough, p_X7_requireAlive, p_X7_requireBook, p_X3_isDead, p_X3_isWithoutBook, p_X7_pointsLeft, p_X7_changeGood, vp01, zup2, p_X7_knownShop r1 r2, ha1, ha2, ha]
  refine p_X7_inspect (S := zup S 7 0 14 (S 7 0 14 + 1)) (nI a) a ha r2 ?_
  refine zR_i.mpr ?_
  obtain ⟨h1, h2, h3, h4, h5, h6, h7, h8⟩ := h.up
  have z7 : ∀ f, zins (zup S 7 0 14 (S 7 0 14 + 1)) a 6 7 0 f = zup S 7 0 14 (S 7 0 14 + 1) 7 0 f := fun f => if_neg (by omega)
  have z50 : ∀ j, zins (zup S 7 0 14 (S 7 0 14 + 1)) a 6 5 j 0 = S 5 j 0 := fun j => if_neg (by omega)
  refine ⟨⟨?_, h2.fr rfl, h3.fr rfl rfl rfl, h4.fr rfl rfl rfl, ?_, h6.fr rfl rfl (fun f => ⟨rfl, rfl⟩), h7.fr rfl rfl rfl rfl rfl rfl rfl rfl, h8.fr rfl rfl (fun f hf hg => by rw [z7]; simp [zup, show ¬ f = 14 by omega]) rfl z50 (fun g => rfl)⟩, ⟨⟨rfl, rfl, rfl, rfl⟩, rfl⟩, fun b hb => ?_⟩
  · obtain ⟨a1, a2, a3, a4, a5, a6, a7, a8⟩ := h1
    refine ⟨a1, a2, a3, a4, a5, a6, a7, ?_⟩
    rw [z7]
    simp only [zup_at]
    exact (h.1.2.2.2.2.2.2.2.add (show zrg 1 1 from ⟨by decide, by decide⟩) (by omega))
  · refine ⟨h5.1, fun j hj => ?_⟩
    obtain ⟨l1, l2, l3, l4, l5⟩ := h5.2 j hj
    have hm := zmn_rg l5 l2
    by_cases hr : 6 * a ≤ j ∧ j < 6 * a + 6
    · have e1 := l2.subi hm.1 hm.2.2
      have e2 := l5.subi hm.1 hm.2.1
      simp [JHs, zins, zup, hr, l1, l3, l4, e1, e2]
    · have hr2 : ∀ p : Prop, ¬ (6 * a ≤ j ∧ j < 6 * a + 6 ∧ p) := fun p hp => hr ⟨hp.1, hp.2.1⟩
      simp [JHs, zins, zup, hr, hr2, l1, l2, l3, l4, l5]
  · have hr : 6 * a ≤ 6 * a + b ∧ 6 * a + b < 6 * a + 6 := by omega
    simp [zins, zup, hr]
set_option maxRecDepth 20000 in
set_option maxHeartbeats 4000000 in
theorem m_steal {c : Nat} {S : ZS} {K : ZK} (h : J c S) (hc : c ≤ 500) {a b : Nat} {d : Int32} (ha : a < nS S) (hb : b < 6) (hd : zbt d 1 9999) (k1 : d ≤ S 5 (6 * a + b) 0 → ∀ v S', J (c + 1) S' ∧ zEq S S' ∧ v = S' 2 b 4 ∧ S' 5 (6 * a + b) 0 = S 5 (6 * a + b) 0 - d ∧ zmi S' (6 * a + b) = zmi S (6 * a + b) + d → K (.inl (some (.inl v))) S') (k2 : ¬ d ≤ S 5 (6 * a + b) 0 → K (.inr 3) S) : sp_X7_steal [zr 7 0, zi (nI a), zi (nI b), zi d] S K := by
  obtain ⟨r1, r2⟩ := h.1.2.2.1
  obtain ⟨ha1, ha2⟩ := znn ha (by omega)
  obtain ⟨hb1, hb2⟩ := zn6 hb
  have hj : 6 * a + b < 6 * nS S := by omega
  by_cases hm : d ≤ S 5 (6 * a + b) 0
  · simp [zb_X7_steal_0, sp_X7_steal, zsp, zin, znth, ztake, zset, zcont, zcontH, zf_0_0, zf_0_2, zf_1_0, zf_1_1, zf_1_2, zf_1_3, zf_1_4, zf_2_0, zf_2_1, zf_2_2, zf_2_3, zf_2_4, zf_3_0, zf_3_1, zf_3_2, zf_3_3, zf_3_4, zf_3_5, zf_3_6, zf_3_7, zf_3_8, zf_3_9, zf_3_10, zf_4_0, zf_4_1, zf_4_2, zf_4_3, zf_4_4, zf_5_0, zf_5_1, zf_5_2, zf_5_3, zf_5_4, zf_5_5, zf_6_0, zf_6_1, zf_6_2, zf_7_0, zf_7_1, zf_7_2, zf_7_3, zf_7_4, zf_7_5, zf_7_6, zf_7_7, zf_7_8, zf_7_9, zf_7_10, zf_7_11, zf_7_12, zf_7_13, zf_7_14, zf_7_15, zf_7_16, zf_7_17, zf_7_18, zln_9, zln_10, zln_15, zln_16, zln_17, zln_18, zln_19, zln_20, zln_21, zln_11, zln_12, zln_13, zln_14, zchild, zcnt, zc1b, zble, zbeq, z_push, z_ild, z_ald, z_ist, z_ast, z_inc, z_bin, z_dvn, z_un, z_dup, z_dup2, z_pop, z_if, z_cmp, z_ifnull, z_pnull, z_acn, z_gf, z_gfn, z_pf, z_pfz, z_pfr, z_iald, z_iast, z_aald, z_alen, z_ret, z_invV, z_invS, z_invH, z_throw, z_sw, zup_r, p_X7_knownGood, p_X7_requireRange, p_X7_requireRoom, p_X7_requireEnough, p_X7_requireAlive, p_X7_requireBook, p_X3_isDead, p_X3_isWithoutBook, p_X7_pointsLeft, p_X7_changeGood, vp01, zup2, p_X7_knownShop r1 r2, nS_f, ha1, ha2, hb1, hb2, hd, hm, ha, hb]
    refine k1 hm _ _ ?_
    have hjg : ∃ j, j = 6 * a + b := ⟨_, rfl⟩
    obtain ⟨h1, h2, h3, h4, h5, h6, h7, h8⟩ := h.up
    refine ⟨⟨h1.fr (fun f hf => rfl), ?_, h3.fr rfl rfl rfl, h4.fr rfl rfl rfl, ?_, h6.fr rfl rfl (fun f => ⟨rfl, rfl⟩), h7.fr rfl rfl rfl rfl rfl rfl rfl rfl, ?_⟩, ⟨⟨rfl, rfl, rfl, rfl⟩, rfl⟩, ?_, ?_, ?_⟩
    · refine h2.put b (fun i f hi => by simp [zup, hi]) ?_
      have := h2 b hb
      simp only [JGd] at this ⊢
      simp [zup, this]
    · obtain ⟨l1, l2, l3, l4, l5⟩ := h5.2 _ hj
      have hg := zgr9 hd
      have e1 := l1.sub (by omega) hm
      have e4 : zrg (S 5 (6 * a + b) 3 - S 5 (6 * a + b) 4 - (S 5 (6 * a + b) 0 - d)) (99999 * (c + 1)) := by
        rw [← zring1]
        exact ((h.2.2.2.2.1.2 _ hj).2.2.2.1.add (zrg9 hd) (by omega)).mono (by omega)
      refine h5.put rfl rfl rfl (6 * a + b) (fun i f hi => by simp [zup, hi]) ?_
      simp [JHs, zup, l2, l3, l5, e1, e4]
    · refine JM.mk (x15 := 0) (xd := 0) (xh := -d) (x16 := 0) (x17 := 0) (xb := d) h8 (Int32.add_zero _).symm ((zsd_fr rfl rfl).trans (Int32.add_zero _).symm) ?_ (Int32.add_zero _).symm (Int32.add_zero _).symm ?_ (by grind)
      · refine zsh_pu ha hb rfl (fun i hi => by simp [zup, hi]) ?_
        first | (simp [zup]; done) | (simp [zup]; grind)
      · refine zsb_pu hb (fun i hi => by simp [zup, hi]) ?_
        first | (simp [zup]; done) | (simp [zup]; grind)
    · simp [zup]
    · simp [zup]
    · simp [zmi, zup]
      grind
  · have := k2 hm
    simp [zb_X7_steal_0, sp_X7_steal, zsp, zin, znth, ztake, zset, zcont, zcontH, zf_0_0, zf_0_2, zf_1_0, zf_1_1, zf_1_2, zf_1_3, zf_1_4, zf_2_0, zf_2_1, zf_2_2, zf_2_3, zf_2_4, zf_3_0, zf_3_1, zf_3_2, zf_3_3, zf_3_4, zf_3_5, zf_3_6, zf_3_7, zf_3_8, zf_3_9, zf_3_10, zf_4_0, zf_4_1, zf_4_2, zf_4_3, zf_4_4, zf_5_0, zf_5_1, zf_5_2, zf_5_3, zf_5_4, zf_5_5, zf_6_0, zf_6_1, zf_6_2, zf_7_0, zf_7_1, zf_7_2, zf_7_3, zf_7_4, zf_7_5, zf_7_6, zf_7_7, zf_7_8, zf_7_9, zf_7_10, zf_7_11, zf_7_12, zf_7_13, zf_7_14, zf_7_15, zf_7_16, zf_7_17, zf_7_18, zln_9, zln_10, zln_15, zln_16, zln_17, zln_18, zln_19, zln_20, zln_21, zln_11, zln_12, zln_13, zln_14, zchild, zcnt, zc1b, zble, zbeq, z_push, z_ild, z_ald, z_ist, z_ast, z_inc, z_bin, z_dvn, z_un, z_dup, z_dup2, z_pop, z_if, z_cmp, z_ifnull, z_pnull, z_acn, z_gf, z_gfn, z_pf, z_pfz, z_pfr, z_iald, z_iast, z_aald, z_alen, z_ret, z_invV, z_invS, z_invH, z_throw, z_sw, zup_r, p_X7_knownGood, p_X7_requireRange, p_X7_requireRoom, p_X7_requireEnough, p_X7_requireAlive, p_X7_requireBook, p_X3_isDead, p_X3_isWithoutBook, p_X7_pointsLeft, p_X7_changeGood, vp01, zup2, p_X7_knownShop r1 r2, nS_f, ha1, ha2, hb1, hb2, hd, hm, hb, ha]
    exact this
-- supplies
theorem zg1_sum (G : Nat → Int32) {d N : Nat} (hd : d < N) (v : Int32) : zsu (zg1 G d v) N = zsu G N + (v - G d) := by
  rw [zsu_put (f := G) (f' := zg1 G d v) hd (fun j hj hn => if_neg hn)]
  rw [show zg1 G d v d = v from if_pos rfl]
theorem zspl_congr {A G G' : Nat → Int32} : ∀ (m d : Nat) (w : Int32), (∀ e, e ≤ d → A e < 0 ∨ (A e).toNatClampNeg < e) → (∀ i, i ≤ d → G' i = G i) → zspl A G' m d w = zspl A G m d w := by
  intro m
  induction m with
  | zero => intro d w hA hG; rfl
  | succ m ih =>
    intro d w hA hG
    rw [zspl, zspl, hG d (Nat.le_refl _)]
    by_cases h1 : G d < w
    · rw [if_pos h1, if_pos h1]
      by_cases h2 : A d < 0
      · rw [if_pos h2, if_pos h2]
      · rw [if_neg h2, if_neg h2]
        have h3 := (hA d (Nat.le_refl _)).resolve_left h2
        exact ih _ _ (fun e he => hA e (by omega)) (fun i hi => hG i (by omega))
    · rw [if_neg h1, if_neg h1]
theorem zgv_zero (A G : Nat → Int32) : ∀ (m d : Nat), zgv A m d 0 G = G
  | 0, _ => rfl
  | m + 1, d => by
    rw [zgv, if_pos (by decide)]
/-- what they give together -/
theorem zgv_sum {A : Nat → Int32} {N : Nat} : ∀ (m d : Nat) (w : Int32) (G : Nat → Int32), (∀ e, e ≤ d → A e < 0 ∨ (A e).toNatClampNeg < e) → (∀ i, i ≤ d → 0 ≤ (G i).toInt) → d < N → 0 ≤ w.toInt → zspl A G m d w = true → zsu (zgv A m d w G) N = zsu G N - w := by
  intro m
  induction m with
  | zero => intro d w G hA hG hd hw hs; cases hs
  | succ m ih =>
    intro d w G hA hG hd hw hs
    rw [zspl] at hs
    rw [zgv]
    by_cases h0 : w ≤ 0
    · have e0 : w = 0 := by
        rw [zle_iff, zti0] at h0
        rw [zeq_iff, zti0]
        omega
      rw [if_pos h0, e0, Int32.sub_zero]
    · rw [if_neg h0]
      by_cases h1 : G d < w
      · rw [if_pos h1] at hs
        by_cases h2 : A d < 0
        · rw [if_pos h2] at hs
          cases hs
        · rw [if_neg h2] at hs ⊢
          have h3 := (hA d (Nat.le_refl _)).resolve_left h2
          have e1 : zmn w (G d) = G d := if_pos h1
          rw [e1]
          have hGd := hG d (Nat.le_refl _)
          have e2 := zsub_i (a := w) (b := G d) (by have := Int32.toInt_lt (G d); omega) (by have := Int32.toInt_lt w; omega)
          rw [zlt_iff] at h1
          rw [ih _ _ _ (fun e he => hA e (by omega)) (fun i hi => by
            rw [show zg1 G d (G d - G d) i = G i from if_neg (by omega)]
            exact hG i (by omega)) (by omega) (by omega) (by
            rw [zspl_congr (G := G) (G' := zg1 G d (G d - G d)) _ _ _ (fun e he => hA e (by omega)) (fun i hi => if_neg (by omega))]
            exact hs)]
          rw [zg1_sum G hd]
          grind
      · have e1 : zmn w (G d) = w := if_neg h1
        rw [e1, Int32.sub_self]
        by_cases h2 : A d < 0
        · rw [if_pos h2, zg1_sum G hd]
          grind
        · rw [if_neg h2, zgv_zero, zg1_sum G hd]
          grind
