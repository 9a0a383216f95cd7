/-! BUYING -/
theorem zgl_less {is st he a q b d : Int32} (hd : 1 ≤ d.toInt) (h : d ≤ zgl is st he a q b) : zgl is st he a q (b + d) = zgl is st he a q b - d := by
  unfold zgl at h ⊢
  by_cases hk : is = 0 ∧ st = 0 ∧ 0 < he
  · rw [if_pos hk] at h
    rw [if_pos hk, if_pos hk]
    have e : a * q / 4 - (b + d) = (a * q / 4 - b) - d := by grind
    rw [e]
    generalize a * q / 4 - b = y at *
    by_cases hy : y < 0
    · rw [zm0_lt hy, zle_iff, zti0] at h
      omega
    · have hy2 := Int32.not_lt.mp hy
      rw [zm0_ge hy2] at h ⊢
      rw [zle_iff] at h
      have e2 := zsub_i (a := y) (b := d) (by have := Int32.toInt_lt d; omega) (by have := Int32.toInt_lt y; omega)
      exact zm0_ge (by rw [zle_iff, zti0, e2]; omega)
  · rw [if_neg hk, zle_iff, zti0] at h
    omega
theorem zpl_less {st he x d : Int32} (hd : 1 ≤ d.toInt) (h : d ≤ zpl st he x) : zpl st he (x - d) = zpl st he x - d := by
  unfold zpl at h ⊢
  by_cases hk : st = 0 ∧ 0 < he
  · rw [if_pos hk] at h
    rw [if_pos hk, if_pos hk]
    by_cases hy : x < 0
    · rw [zm0_lt hy, zle_iff, zti0] at h
      omega
    · have hy2 := Int32.not_lt.mp hy
      rw [zm0_ge hy2] at h ⊢
      rw [zle_iff] at h
      have e2 := zsub_i (a := x) (b := d) (by have := Int32.toInt_lt d; omega) (by have := Int32.toInt_lt x; omega)
      exact zm0_ge (by rw [zle_iff, zti0, e2]; omega)
  · rw [if_neg hk, zle_iff, zti0] at h
    omega
/-- what hundreds cost -/
theorem zcost_rg {p d : Int32} (hp : zbt p 1 24) (hd : zbt d 1 9999) (h : d - d / 100 * 100 = 0) : 1 ≤ (p * (d / 100)).toInt ∧ (p * (d / 100)).toInt ≤ 2500 := by
  obtain ⟨d1, d2⟩ := zgr9 hd
  obtain ⟨p1, p2⟩ := zbt_i (lo := 1) (hi := 24) (by decide) (by decide) hp
  have e0 : (100 : Int32).toInt = 100 := by decide
  have e1 := zdiv_i (a := d) (b := 100) (by omega) (by rw [e0]; omega)
  rw [e0] at e1
  have e3 := zmul_i (a := d / 100) (b := 100) (by rw [e0, e1]; omega) (by rw [e0, e1]; omega)
  have e4 : d = d / 100 * 100 := by
    have : d = (d - d / 100 * 100) + d / 100 * 100 := by grind
    rw [h] at this
    rw [this]
    grind
  have e5 : d.toInt = d.toInt / 100 * 100 := by
    conv => lhs; rw [e4]
    rw [e3, e0, e1]
  have hq1 : 1 ≤ d.toInt / 100 := by omega
  have hq2 : d.toInt / 100 ≤ 99 := by omega
  have hm1 : 1 ≤ p.toInt * (d.toInt / 100) := by
    have := Int.mul_le_mul p1 hq1 (by decide) (by omega)
    omega
  have hm2 : p.toInt * (d.toInt / 100) ≤ 24 * 99 := Int.mul_le_mul p2 hq2 (by omega) (by decide)
  have e6 := zmul_i (a := p) (b := d / 100) (by rw [e1]; omega) (by rw [e1]; omega)
  rw [e6, e1]
  omega
def zmay (S : ZS) (p a b : Nat) (d : Int32) : Prop := 0 < S 3 p 4 ∧ d ≤ S 5 (6 * a + b) 0 ∧ (S 2 b 0 = 0 → nI a = S 3 p 2 ∧ d ≤ zlt1 S p b) ∧ (S 2 b 0 = 1 → S 2 b 1 * (d / 100) ≤ zpt S p)
def zdue (S : ZS) (p b : Nat) (d : Int32) : Int32 := if S 2 b 0 = 0 then zlt1 S p b - d else if S 2 b 0 = 1 then zpt S p - S 2 b 1 * (d / 100) else -1
def zbuy (c : Nat) (S S' : ZS) (p a b : Nat) (d v : Int32) : Prop := J (c + 1) S' ∧ zEq S S' ∧ v = zdue S p b d ∧ S' 5 (6 * a + b) 0 = S 5 (6 * a + b) 0 - d ∧ S' 5 (6 * a + b) 1 = (if S 2 b 0 = 2 then S 5 (6 * a + b) 1 else S 5 (6 * a + b) 1 + d)
/-- the shelf behind a sale -/
theorem JHs.sale {c : Nat} {S T : ZS} {j : Nat} {d : Int32} (h : JHs c S j) (hc : c ≤ 500) (hd : zbt d 1 9999) (hm : d ≤ S 5 j 0) (e0 : T 5 j 0 = S 5 j 0 - d) (e1 : T 5 j 1 = S 5 j 1 ∨ T 5 j 1 = S 5 j 1 + d) (e2 : T 5 j 2 = S 5 j 2) (e3 : T 5 j 3 = S 5 j 3) (e4 : T 5 j 4 = S 5 j 4 + d) (e5 : T 5 j 5 = S 5 j 5) : JHs (c + 1) T j := by
  obtain ⟨g1, g2, g3, g4, g5⟩ := h
  have hg := zgr9 hd
  refine ⟨?_, ?_, by rw [e2]; exact g3.mono (by omega), ?_, by rw [e5]; exact g5.mono (by omega)⟩
  · rw [e0]
    exact (g1.sub (by omega) hm).mono (by omega)
  · rcases e1 with e1 | e1 <;> rw [e1]
    · exact g2.mono (by omega)
    · exact (g2.add (zrg9 hd) (by omega)).mono (by omega)
  · rw [e0, e3, e4, zring3]
    exact g4.mono (by omega)
theorem Jsale {c : Nat} {S T : ZS} (h : J c S) {a b p : Nat} {d : Int32} (ha : a < nS S) (hb : b < 6) (hp : p < nP S) (e7 : ∀ f, ¬ f = 16 → T 7 0 f = S 7 0 f) (e16 : T 7 0 16 = S 7 0 16 + d) (e0 : T 0 = S 0) (e1 : T 1 = S 1) (e6 : T 6 = S 6) (e9 : T 9 = S 9)
    (e2 : ∀ i f, ¬ i = b → T 2 i f = S 2 i f) (e24 : ∀ i, T 2 i 4 = S 2 i 4) (g2 : JGd (c + 1) T b) (e3 : ∀ i f, ¬ i = p → T 3 i f = S 3 i f) (g3 : JPd (c + 1) T p) (e5 : ∀ i f, ¬ i = 6 * a + b → T 5 i f = S 5 i f) (e50 : T 5 (6 * a + b) 0 = S 5 (6 * a + b) 0 - d) (hj : JHs (c + 1) T (6 * a + b)) (hl : JL (c + 1) T) : J (c + 1) T ∧ zEq S T := by
  obtain ⟨h1, h2, h3, h4, h5, h6, h7, h8⟩ := h.up
  refine ⟨⟨h1.fr (fun f hf => e7 f (by omega)), h2.put b e2 g2, h3.put p (e7 7 (by decide)) (e7 9 (by decide)) e3 g3, h4.fr (e7 8 (by decide)) e0 e9, h5.put (e7 8 (by decide)) (e7 9 (by decide)) e6 (6 * a + b) e5 hj, h6.fr (e7 8 (by decide)) (e7 10 (by decide)) (fun f => by rw [e1]; exact ⟨rfl, rfl⟩), hl, ?_⟩, ⟨e7 7 (by decide), e7 8 (by decide), e7 9 (by decide), e7 10 (by decide)⟩, e7 18 (by decide)⟩
  exact JM.mk (x15 := 0) (xd := 0) (xh := -d) (x16 := d) (x17 := 0) (xb := 0) h8 (by rw [e7 15 (by decide), Int32.add_zero]) ((zsd_fr (e7 8 (by decide)) e9).trans (Int32.add_zero _).symm) (zsh_pu ha hb (e7 9 (by decide)) (fun i hi => e5 i 0 hi) (by rw [e50]; grind)) e16 (by rw [e7 17 (by decide), Int32.add_zero]) ((zsb_fr e24).trans (Int32.add_zero _).symm) (by grind)
set_option maxRecDepth 20000 in
set_option maxHeartbeats 8000000 in
theorem m_buyF {c : Nat} {S : ZS} {K : ZK} (h : J c S) (hc : c ≤ 500) {p a b : Nat} {d : Int32} (hp : p < nP S) (ha : a < nS S) (hb : b < 6) (hd : zbt d 1 9999) (sort : S 2 b 0 = 2) (k1 : zmay S p a b d → ∀ v S', zbuy c S S' p a b d v → K (.inl (some (.inl v))) S') (k2 : ¬ zmay S p a b d → K (.inr 3) S) : sp_X7_buy [zr 7 0, zi (nI p), zi (nI a), zi (nI b), zi d] S K := by
  obtain ⟨q1, q2⟩ := h.1.1
  obtain ⟨r1, r2⟩ := h.1.2.2.1
  have t20 := h.1.2.2.2.2.1
  obtain ⟨hp1, hp2⟩ := znn hp (by omega)
  obtain ⟨ha1, ha2⟩ := znn ha (by omega)
  obtain ⟨hb1, hb2⟩ := zn6 hb
  have hj : 6 * a + b < 6 * nS S := by omega
  have hgj := h.2.2.2.2.1.2 _ hj
  have hq0 := h.2.2.1 p hp
  have hq := h.up.2.2.1 p hp
  have hG0 := h.2.1 b hb
  have hz := (hq0.2.2.2.2.2.2.2.1.add (zeat hd hG0.2.1) (by omega)).mono (show 90000 * c + 90000 ≤ 90000 * (c + 1) by omega)
  have hs := (hG0.2.2.add (zrg9 hd) (by omega)).mono (show 9999 * c + 9999 ≤ 9999 * (c + 1) by omega)
  have fin : zmay S p a b d → ∀ v T, J (c + 1) T ∧ zEq S T → v = zdue S p b d → T 5 (6 * a + b) 0 = S 5 (6 * a + b) 0 - d → T 5 (6 * a + b) 1 = (if S 2 b 0 = 2 then S 5 (6 * a + b) 1 else S 5 (6 * a + b) 1 + d) → K (.inl (some (.inl v))) T := fun g v T q1 q2 q3 q4 => k1 g v T ⟨q1.1, q1.2, q2, q3, q4⟩
  by_cases hl : 0 < S 3 p 4
  · by_cases hm : d ≤ S 5 (6 * a + b) 0
    · simp [zb_X7_buy_57, zb_X7_buy_0, sp_X7_buy, zb_X7_requireAllowed_80, zb_X7_requireAllowed_46, zb_X7_requireAllowed_35, zb_X7_requireAllowed_0, sp_X7_requireAllowed, zb_X7_handOver_48, zb_X7_handOver_0, sp_X7_handOver, zsp, zin, znth, ztake, zset, zcont, zcontH, zf_0_0, zf_0_2, zf_1_0, zf_1_1, zf_1_2, zf_1_3, zf_1_4, zf_2_0, zf_2_1, zf_2_2, zf_2_3, zf_2_4, zf_3_0, zf_3_1, zf_3_2, zf_3_3, zf_3_4, zf_3_5, zf_3_6, zf_3_7, zf_3_8, zf_3_9, zf_3_10, zf_4_0, zf_4_1, zf_4_2, zf_4_3, zf_4_4, zf_5_0, zf_5_1, zf_5_2, zf_5_3, zf_5_4, zf_5_5, zf_6_0, zf_6_1, zf_6_2, zf_7_0, zf_7_1, zf_7_2, zf_7_3, zf_7_4, zf_7_5, zf_7_6, zf_7_7, zf_7_8, zf_7_9, zf_7_10, zf_7_11, zf_7_12, zf_7_13, zf_7_14, zf_7_15, zf_7_16, zf_7_17, zf_7_18, zln_9, zln_10, zln_15, zln_16, zln_17, zln_18, zln_19, zln_20, zln_21, zln_11, zln_12, zln_13, zln_14, zchild, zcnt, zc1b, zble, zbeq, z_push, z_ild, z_ald, z_ist, z_ast, z_inc, z_bin, z_dvn, z_un, z_dup, z_dup2, z_pop, z_if, z_cmp, z_ifnull, z_pnull, z_acn, z_gf, z_gfn, z_pf, z_pfz, z_pfr, z_iald, z_iast, z_aald, z_alen, z_ret, z_invV, z_invS, z_invH, z_throw, z_sw, zup_r, p_X7_knownGood, p_X7_requireRange, p_X7_requireRoom, p_X7_requireEnough, p_X7_requireAlive, p_X7_requireBook, p_X3_isDead, p_X3_isWithoutBook, p_X7_pointsLeft, p_X7_changeGood, vp01, zup2, p_X7_knownPerson q1 q2, p_X7_knownShop r1 r2, p_X7_eat, p_X7_pointsFor, zb_X7_markInBook_0, sp_X7_markInBook, nP_f, nS_f, hp1, hp2, ha1, ha2, hb1, hb2, hp, ha, hb, hd, t20, sort, hl, hm]
      refine fin ⟨hl, hm, fun e => absurd (e.symm.trans sort) (by decide), fun e => absurd (e.symm.trans sort) (by decide)⟩ _ _ (Jsale (d := d) h ha hb hp (fun f hf => by simp [zup, hf]) (by simp [zup]) rfl rfl rfl rfl (fun i f hi => by simp [zup, hi]) (fun i => by simp [zup]) ?_ (fun i f hi => by simp [zup, hi]) ?_ (fun i f hi => by simp [zup, hi]) (by simp [zup]) (hgj.sale hc hd hm (by simp [zup]) (by simp [zup]) (by simp [zup]) (by simp [zup]) (by simp [zup]) (by simp [zup])) ?_) ?_ ?_ ?_
      · simp only [JGd] at hG0 ⊢
        simp [zup, sort, hs, hG0.2.1]
      · simp only [JPd] at hq ⊢
        simp [zup, nS] at hq ⊢
        simp [hq, hz]
      · exact h.up.2.2.2.2.2.2.1.fr rfl rfl rfl rfl rfl rfl rfl rfl
      · simp [zdue, sort]
      · simp [zup]
      · simp [zup, sort]
    · have := k2 (fun q => hm q.2.1)
      simp [zb_X7_buy_57, zb_X7_buy_0, sp_X7_buy, zb_X7_requireAllowed_80, zb_X7_requireAllowed_46, zb_X7_requireAllowed_35, zb_X7_requireAllowed_0, sp_X7_requireAllowed, zb_X7_handOver_48, zb_X7_handOver_0, sp_X7_handOver, zsp, zin, znth, ztake, zset, zcont, zcontH, zf_0_0, zf_0_2, zf_1_0, zf_1_1, zf_1_2, zf_1_3, zf_1_4, zf_2_0, zf_2_1, zf_2_2, zf_2_3, zf_2_4, zf_3_0, zf_3_1, zf_3_2, zf_3_3, zf_3_4, zf_3_5, zf_3_6, zf_3_7, zf_3_8, zf_3_9, zf_3_10, zf_4_0, zf_4_1, zf_4_2, zf_4_3, zf_4_4, zf_5_0, zf_5_1, zf_5_2, zf_5_3, zf_5_4, zf_5_5, zf_6_0, zf_6_1, zf_6_2, zf_7_0, zf_7_1, zf_7_2, zf_7_3, zf_7_4, zf_7_5, zf_7_6, zf_7_7, zf_7_8, zf_7_9, zf_7_10, zf_7_11, zf_7_12, zf_7_13, zf_7_14, zf_7_15, zf_7_16, zf_7_17, zf_7_18, zln_9, zln_10, zln_15, zln_16, zln_17, zln_18, zln_19, zln_20, zln_21, zln_11, zln_12, zln_13, zln_14, zchild, zcnt, zc1b, zble, zbeq, z_push, z_ild, z_ald, z_ist, z_ast, z_inc, z_bin, z_dvn, z_un, z_dup, z_dup2, z_pop, z_if, z_cmp, z_ifnull, z_pnull, z_acn, z_gf, z_gfn, z_pf, z_pfz, z_pfr, z_iald, z_iast, z_aald, z_alen, z_ret, z_invV, z_invS, z_invH, z_throw, z_sw, zup_r, p_X7_knownGood, p_X7_requireRange, p_X7_requireRoom, p_X7_requireEnough, p_X7_requireAlive, p_X7_requireBook, p_X3_isDead, p_X3_isWithoutBook, p_X7_pointsLeft, p_X7_changeGood, vp01, zup2, p_X7_knownPerson q1 q2, p_X7_knownShop r1 r2, p_X7_eat, p_X7_pointsFor, zb_X7_markInBook_0, sp_X7_markInBook, nP_f, nS_f, hp1, hp2, ha1, ha2, hb1, hb2, hp, ha, hb, hd, t20, sort, hl, hm]
      exact this
  · have := k2 (fun q => hl q.1)
    simp [zb_X7_buy_57, zb_X7_buy_0, sp_X7_buy, zb_X7_requireAllowed_80, zb_X7_requireAllowed_46, zb_X7_requireAllowed_35, zb_X7_requireAllowed_0, sp_X7_requireAllowed, zb_X7_handOver_48, zb_X7_handOver_0, sp_X7_handOver, zsp, zin, znth, ztake, zset, zcont, zcontH, zf_0_0, zf_0_2, zf_1_0, zf_1_1, zf_1_2, zf_1_3, zf_1_4, zf_2_0, zf_2_1, zf_2_2, zf_2_3, zf_2_4, zf_3_0, zf_3_1, zf_3_2, zf_3_3, zf_3_4, zf_3_5, zf_3_6, zf_3_7, zf_3_8, zf_3_9, zf_3_10, zf_4_0, zf_4_1, zf_4_2, zf_4_3, zf_4_4, zf_5_0, zf_5_1, zf_5_2, zf_5_3, zf_5_4, zf_5_5, zf_6_0, zf_6_1, zf_6_2, zf_7_0, zf_7_1, zf_7_2, zf_7_3, zf_7_4, zf_7_5, zf_7_6, zf_7_7, zf_7_8, zf_7_9, zf_7_10, zf_7_11, zf_7_12, zf_7_13, zf_7_14, zf_7_15, zf_7_16, zf_7_17, zf_7_18, zln_9, zln_10, zln_15, zln_16, zln_17, zln_18, zln_19, zln_20, zln_21, zln_11, zln_12, zln_13, zln_14, zchild, zcnt, zc1b, zble, zbeq, z_push, z_ild, z_ald, z_ist, z_ast, z_inc, z_bin, z_dvn, z_un, z_dup, z_dup2, z_pop, z_if, z_cmp, z_ifnull, z_pnull, z_acn, z_gf, z_gfn, z_pf, z_pfz, z_pfr, z_iald, z_iast, z_aald, z_alen, z_ret, z_invV, z_invS, z_invH, z_throw, z_sw, zup_r, p_X7_knownGood, p_X7_requireRange, p_X7_requireRoom, p_X7_requireEnough, p_X7_requireAlive, p_X7_requireBook, p_X3_isDead, p_X3_isWithoutBook, p_X7_pointsLeft, p_X7_changeGood, vp01, zup2, p_X7_knownPerson q1 q2, p_X7_knownShop r1 r2, p_X7_eat, p_X7_pointsFor, zb_X7_markInBook_0, sp_X7_markInBook, nP_f, nS_f, hp1, hp2, ha1, ha2, hb1, hb2, hp, ha, hb, hd, t20, sort, hl]
    exact this
set_option maxRecDepth 20000 in
set_option maxHeartbeats 8000000 in
theorem m_buyP {c : Nat} {S : ZS} {K : ZK} (h : J c S) (hc : c ≤ 500) {p a b : Nat} {d : Int32} (hp : p < nP S) (ha : a < nS S) (hb : b < 6) (hd : zbt d 1 9999) (sort : S 2 b 0 = 1) (hh : d - d / 100 * 100 = 0) (k1 : zmay S p a b d → ∀ v S', zbuy c S S' p a b d v → K (.inl (some (.inl v))) S') (k2 : ¬ zmay S p a b d → K (.inr 3) S) : sp_X7_buy [zr 7 0, zi (nI p), zi (nI a), zi (nI b), zi d] S K := by
  obtain ⟨q1, q2⟩ := h.1.1
  obtain ⟨r1, r2⟩ := h.1.2.2.1
  have t20 := h.1.2.2.2.2.1
  obtain ⟨hp1, hp2⟩ := znn hp (by omega)
  obtain ⟨ha1, ha2⟩ := znn ha (by omega)
  obtain ⟨hb1, hb2⟩ := zn6 hb
  have hj : 6 * a + b < 6 * nS S := by omega
  have hgj := h.2.2.2.2.1.2 _ hj
  have hq0 := h.2.2.1 p hp
  have hq := h.up.2.2.1 p hp
  have hG0 := h.2.1 b hb
  have hz := (hq0.2.2.2.2.2.2.2.1.add (zeat hd hG0.2.1) (by omega)).mono (show 90000 * c + 90000 ≤ 90000 * (c + 1) by omega)
  have hs := (hG0.2.2.add (zrg9 hd) (by omega)).mono (show 9999 * c + 9999 ≤ 9999 * (c + 1) by omega)
  have hpr : zbt (S 2 b 1) 1 24 := by
    rcases hG0.1 with k | ⟨-, k⟩ | k
    · rw [sort] at k
      exact absurd k (by decide)
    · exact k
    · rw [sort] at k
      exact absurd k (by decide)
  obtain ⟨c1, c2⟩ := zcost_rg hpr hd hh
  have hz8 := (hq0.2.2.2.2.2.2.1.add (y := S 2 b 1 * (d / 100)) (m := 2500) ⟨by omega, c2⟩ (by omega)).mono (show 2500 * c + 2500 ≤ 2500 * (c + 1) by omega)
  have fin : zmay S p a b d → ∀ v T, J (c + 1) T ∧ zEq S T → v = zdue S p b d → T 5 (6 * a + b) 0 = S 5 (6 * a + b) 0 - d → T 5 (6 * a + b) 1 = (if S 2 b 0 = 2 then S 5 (6 * a + b) 1 else S 5 (6 * a + b) 1 + d) → K (.inl (some (.inl v))) T := fun g v T q1 q2 q3 q4 => k1 g v T ⟨q1.1, q1.2, q2, q3, q4⟩
  by_cases hl : 0 < S 3 p 4
  · by_cases hx : S 2 b 1 * (d / 100) ≤ zpt S p
    · have hx' := hx
      unfold zpt at hx'
      by_cases hm : d ≤ S 5 (6 * a + b) 0
      · simp [zb_X7_buy_57, zb_X7_buy_0, sp_X7_buy, zb_X7_requireAllowed_80, zb_X7_requireAllowed_46, zb_X7_requireAllowed_35, zb_X7_requireAllowed_0, sp_X7_requireAllowed, zb_X7_handOver_48, zb_X7_handOver_0, sp_X7_handOver, zsp, zin, znth, ztake, zset, zcont, zcontH, zf_0_0, zf_0_2, zf_1_0, zf_1_1, zf_1_2, zf_1_3, zf_1_4, zf_2_0, zf_2_1, zf_2_2, zf_2_3, zf_2_4, zf_3_0, zf_3_1, zf_3_2, zf_3_3, zf_3_4, zf_3_5, zf_3_6, zf_3_7, zf_3_8, zf_3_9, zf_3_10, zf_4_0, zf_4_1, zf_4_2, zf_4_3, zf_4_4, zf_5_0, zf_5_1, zf_5_2, zf_5_3, zf_5_4, zf_5_5, zf_6_0, zf_6_1, zf_6_2, zf_7_0, zf_7_1, zf_7_2, zf_7_3, zf_7_4, zf_7_5, zf_7_6, zf_7_7, zf_7_8, zf_7_9, zf_7_10, zf_7_11, zf_7_12, zf_7_13, zf_7_14, zf_7_15, zf_7_16, zf_7_17, zf_7_18, zln_9, zln_10, zln_15, zln_16, zln_17, zln_18, zln_19, zln_20, zln_21, zln_11, zln_12, zln_13, zln_14, zchild, zcnt, zc1b, zble, zbeq, z_push, z_ild, z_ald, z_ist, z_ast, z_inc, z_bin, z_dvn, z_un, z_dup, z_dup2, z_pop, z_if, z_cmp, z_ifnull, z_pnull, z_acn, z_gf, z_gfn, z_pf, z_pfz, z_pfr, z_iald, z_iast, z_aald, z_alen, z_ret, z_invV, z_invS, z_invH, z_throw, z_sw, zup_r, p_X7_knownGood, p_X7_requireRange, p_X7_requireRoom, p_X7_requireEnough, p_X7_requireAlive, p_X7_requireBook, p_X3_isDead, p_X3_isWithoutBook, p_X7_pointsLeft, p_X7_changeGood, vp01, zup2, p_X7_knownPerson q1 q2, p_X7_knownShop r1 r2, p_X7_eat, p_X7_pointsFor, zb_X7_markInBook_0, sp_X7_markInBook, nP_f, nS_f, hp1, hp2, ha1, ha2, hb1, hb2, hp, ha, hb, hd, t20, sort, hh, hl, hm, hx', Int32.not_lt.mpr hx']
        refine fin ⟨hl, hm, fun e => absurd (e.symm.trans sort) (by decide), fun _ => hx⟩ _ _ (Jsale (d := d) h ha hb hp (fun f hf => by simp [zup, hf]) (by simp [zup]) rfl rfl rfl rfl (fun i f hi => by simp [zup, hi]) (fun i => by simp [zup]) ?_ (fun i f hi => by simp [zup, hi]) ?_ (fun i f hi => by simp [zup, hi]) (by simp [zup]) (hgj.sale hc hd hm (by simp [zup]) (by simp [zup]) (by simp [zup]) (by simp [zup]) (by simp [zup]) (by simp [zup])) ?_) ?_ ?_ ?_
        · simp only [JGd] at hG0 ⊢
          simp [zup, sort, hs, hG0.2.1, hpr, hz8]
        · simp only [JPd] at hq ⊢
          simp [zup, nS] at hq ⊢
          simp [hq, hz, hpr, hz8]
        · exact h.up.2.2.2.2.2.2.1.fr rfl rfl rfl rfl rfl rfl rfl rfl
        · simp [zdue, sort]
          have e : 20 + S 3 p 7 - (S 3 p 8 + S 2 b 1 * (d / 100)) = 20 + S 3 p 7 - S 3 p 8 - S 2 b 1 * (d / 100) := by grind
          rw [e]
          exact zpl_less c1 hx
        · simp [zup]
        · simp [zup, sort]
      · have := k2 (fun q => hm q.2.1)
        simp [zb_X7_buy_57, zb_X7_buy_0, sp_X7_buy, zb_X7_requireAllowed_80, zb_X7_requireAllowed_46, zb_X7_requireAllowed_35, zb_X7_requireAllowed_0, sp_X7_requireAllowed, zb_X7_handOver_48, zb_X7_handOver_0, sp_X7_handOver, zsp, zin, znth, ztake, zset, zcont, zcontH, zf_0_0, zf_0_2, zf_1_0, zf_1_1, zf_1_2, zf_1_3, zf_1_4, zf_2_0, zf_2_1, zf_2_2, zf_2_3, zf_2_4, zf_3_0, zf_3_1, zf_3_2, zf_3_3, zf_3_4, zf_3_5, zf_3_6, zf_3_7, zf_3_8, zf_3_9, zf_3_10, zf_4_0, zf_4_1, zf_4_2, zf_4_3, zf_4_4, zf_5_0, zf_5_1, zf_5_2, zf_5_3, zf_5_4, zf_5_5, zf_6_0, zf_6_1, zf_6_2, zf_7_0, zf_7_1, zf_7_2, zf_7_3, zf_7_4, zf_7_5, zf_7_6, zf_7_7, zf_7_8, zf_7_9, zf_7_10, zf_7_11, zf_7_12, zf_7_13, zf_7_14, zf_7_15, zf_7_16, zf_7_17, zf_7_18, zln_9, zln_10, zln_15, zln_16, zln_17, zln_18, zln_19, zln_20, zln_21, zln_11, zln_12, zln_13, zln_14, zchild, zcnt, zc1b, zble, zbeq, z_push, z_ild, z_ald, z_ist, z_ast, z_inc, z_bin, z_dvn, z_un, z_dup, z_dup2, z_pop, z_if, z_cmp, z_ifnull, z_pnull, z_acn, z_gf, z_gfn, z_pf, z_pfz, z_pfr, z_iald, z_iast, z_aald, z_alen, z_ret, z_invV, z_invS, z_invH, z_throw, z_sw, zup_r, p_X7_knownGood, p_X7_requireRange, p_X7_requireRoom, p_X7_requireEnough, p_X7_requireAlive, p_X7_requireBook, p_X3_isDead, p_X3_isWithoutBook, p_X7_pointsLeft, p_X7_changeGood, vp01, zup2, p_X7_knownPerson q1 q2, p_X7_knownShop r1 r2, p_X7_eat, p_X7_pointsFor, zb_X7_markInBook_0, sp_X7_markInBook, nP_f, nS_f, hp1, hp2, ha1, ha2, hb1, hb2, hp, ha, hb, hd, t20, sort, hh, hl, hm, hx', Int32.not_lt.mpr hx']
        exact this
    · have := k2 (fun q => hx (q.2.2.2 sort))
      unfold zpt at hx
      simp [zb_X7_buy_57, zb_X7_buy_0, sp_X7_buy, zb_X7_requireAllowed_80, zb_X7_requireAllowed_46, zb_X7_requireAllowed_35, zb_X7_requireAllowed_0, sp_X7_requireAllowed, zb_X7_handOver_48, zb_X7_handOver_0, sp_X7_handOver, zsp, zin, znth, ztake, zset, zcont, zcontH, zf_0_0, zf_0_2, zf_1_0, zf_1_1, zf_1_2, zf_1_3, zf_1_4, zf_2_0, zf_2_1, zf_2_2, zf_2_3, zf_2_4, zf_3_0, zf_3_1, zf_3_2, zf_3_3, zf_3_4, zf_3_5, zf_3_6, zf_3_7, zf_3_8, zf_3_9, zf_3_10, zf_4_0, zf_4_1, zf_4_2, zf_4_3, zf_4_4, zf_5_0, zf_5_1, zf_5_2, zf_5_3, zf_5_4, zf_5_5, zf_6_0, zf_6_1, zf_6_2, zf_7_0, zf_7_1, zf_7_2, zf_7_3, zf_7_4, zf_7_5, zf_7_6, zf_7_7, zf_7_8, zf_7_9, zf_7_10, zf_7_11, zf_7_12, zf_7_13, zf_7_14, zf_7_15, zf_7_16, zf_7_17, zf_7_18, zln_9, zln_10, zln_15, zln_16, zln_17, zln_18, zln_19, zln_20, zln_21, zln_11, zln_12, zln_13, zln_14, zchild, zcnt, zc1b, zble, zbeq, z_push, z_ild, z_ald, z_ist, z_ast, z_inc, z_bin, z_dvn, z_un, z_dup, z_dup2, z_pop, z_if, z_cmp, z_ifnull, z_pnull, z_acn, z_gf, z_gfn, z_pf, z_pfz, z_pfr, z_iald, z_iast, z_aald, z_alen, z_ret, z_invV, z_invS, z_invH, z_throw, z_sw, zup_r, p_X7_knownGood, p_X7_requireRange, p_X7_requireRoom, p_X7_requireEnough, p_X7_requireAlive, p_X7_requireBook, p_X3_isDead, p_X3_isWithoutBook, p_X7_pointsLeft, p_X7_changeGood, vp01, zup2, p_X7_knownPerson q1 q2, p_X7_knownShop r1 r2, p_X7_eat, p_X7_pointsFor, zb_X7_markInBook_0, sp_X7_markInBook, nP_f, nS_f, hp1, hp2, ha1, ha2, hb1, hb2, hp, ha, hb, hd, t20, sort, hh, hl, hx, Int32.not_le.mp hx]
      exact this
  · have := k2 (fun q => hl q.1)
    simp [zb_X7_buy_57, zb_X7_buy_0, sp_X7_buy, zb_X7_requireAllowed_80, zb_X7_requireAllowed_46, zb_X7_requireAllowed_35, zb_X7_requireAllowed_0, sp_X7_requireAllowed, zb_X7_handOver_48, zb_X7_handOver_0, sp_X7_handOver, zsp, zin, znth, ztake, zset, zcont, zcontH, zf_0_0, zf_0_2, zf_1_0, zf_1_1, zf_1_2, zf_1_3, zf_1_4, zf_2_0, zf_2_1, zf_2_2, zf_2_3, zf_2_4, zf_3_0, zf_3_1, zf_3_2, zf_3_3, zf_3_4, zf_3_5, zf_3_6, zf_3_7, zf_3_8, zf_3_9, zf_3_10, zf_4_0, zf_4_1, zf_4_2, zf_4_3, zf_4_4, zf_5_0, zf_5_1, zf_5_2, zf_5_3, zf_5_4, zf_5_5, zf_6_0, zf_6_1, zf_6_2, zf_7_0, zf_7_1, zf_7_2, zf_7_3, zf_7_4, zf_7_5, zf_7_6, zf_7_7, zf_7_8, zf_7_9, zf_7_10, zf_7_11, zf_7_12, zf_7_13, zf_7_14, zf_7_15, zf_7_16, zf_7_17, zf_7_18, zln_9, zln_10, zln_15, zln_16, zln_17, zln_18, zln_19, zln_20, zln_21, zln_11, zln_12, zln_13, zln_14, zchild, zcnt, zc1b, zble, zbeq, z_push, z_ild, z_ald, z_ist, z_ast, z_inc, z_bin, z_dvn, z_un, z_dup, z_dup2, z_pop, z_if, z_cmp, z_ifnull, z_pnull, z_acn, z_gf, z_gfn, z_pf, z_pfz, z_pfr, z_iald, z_iast, z_aald, z_alen, z_ret, z_invV, z_invS, z_invH, z_throw, z_sw, zup_r, p_X7_knownGood, p_X7_requireRange, p_X7_requireRoom, p_X7_requireEnough, p_X7_requireAlive, p_X7_requireBook, p_X3_isDead, p_X3_isWithoutBook, p_X7_pointsLeft, p_X7_changeGood, vp01, zup2, p_X7_knownPerson q1 q2, p_X7_knownShop r1 r2, p_X7_eat, p_X7_pointsFor, zb_X7_markInBook_0, sp_X7_markInBook, nP_f, nS_f, hp1, hp2, ha1, ha2, hb1, hb2, hp, ha, hb, hd, t20, sort, hh, hl]
    exact this
/-- one sale more in the list -/
theorem JL.sale {c : Nat} {S T : ZS} {p b n : Nat} {d : Int32} (h1 : n ≤ c) (h2 : ∀ i, i < n → S 11 0 i ≤ S 7 0 13) (h3 : ∀ p, p < 20 → ∀ g, g < 6 → zss S (S 7 0 13) (nI p) (nI g) n = if p < nP S then S 10 p g else 0) (hp : p < nP S) (hp2 : nP S ≤ 20) (hb : b < 6) (e4 : T 4 0 4 = nI (n + 1)) (e7 : T 7 0 7 = S 7 0 7) (e13 : T 7 0 13 = S 7 0 13) (r1 : ∀ i, ¬ i = n → T 11 0 i = S 11 0 i) (r2 : ∀ i, ¬ i = n → T 12 0 i = S 12 0 i) (r3 : ∀ i, ¬ i = n → T 13 0 i = S 13 0 i) (r4 : ∀ i, ¬ i = n → T 14 0 i = S 14 0 i)
    (s1 : T 11 0 n = S 7 0 13) (s2 : T 12 0 n = nI p) (s3 : T 13 0 n = nI b) (s4 : T 14 0 n = d) (e10 : ∀ i f, ¬ (i = p ∧ f = b) → T 10 i f = S 10 i f) (e10' : T 10 p b = S 10 p b + d) : JL (c + 1) T := by
  have hn : nP T = nP S := by unfold nP; rw [e7]
  refine ⟨n + 1, by omega, e4, fun i hi => ?_, fun p' hp' g' hg' => ?_⟩
  · rw [e13]
    by_cases e : i = n
    · rw [e, s1]
      exact Int32.le_refl _
    · rw [r1 i e]
      exact h2 i (by omega)
  · rw [zss, e13, zss_s (S := S) (n := n) (fun i hi => r1 i (by omega)) (fun i hi => r2 i (by omega)) (fun i hi => r3 i (by omega)) (fun i hi => r4 i (by omega)) _ _ _ n (Nat.le_refl _), h3 p' hp' g' hg', hn, s1, s2, s3, s4]
    by_cases e : p' = p ∧ g' = b
    · obtain ⟨rfl, rfl⟩ := e
      rw [if_pos hp, if_pos hp, if_pos ⟨rfl, rfl, rfl⟩, e10']
    · have hne : ¬ (S 7 0 13 = S 7 0 13 ∧ nI p = nI p' ∧ nI b = nI g') := fun ⟨_, q2, q3⟩ => e ⟨by
        have := congrArg Int32.toNatClampNeg q2
        rw [nI_clamp (by omega), nI_clamp (by omega)] at this
        exact this.symm, by
        have := congrArg Int32.toNatClampNeg q3
        rw [nI_clamp (by omega), nI_clamp (by omega)] at this
        exact this.symm⟩
      rw [if_neg hne, Int32.add_zero, e10 p' g' e]
set_option maxRecDepth 20000 in
set_option maxHeartbeats 8000000 in
theorem m_buyR {c : Nat} {S : ZS} {K : ZK} (h : J c S) (hc : c ≤ 500) {p a b : Nat} {d : Int32} (hp : p < nP S) (ha : a < nS S) (hb : b < 6) (hd : zbt d 1 9999) (sort : S 2 b 0 = 0) (k1 : zmay S p a b d → ∀ v S', zbuy c S S' p a b d v → K (.inl (some (.inl v))) S') (k2 : ¬ zmay S p a b d → K (.inr 3) S) : sp_X7_buy [zr 7 0, zi (nI p), zi (nI a), zi (nI b), zi d] S K := by
  obtain ⟨q1, q2⟩ := h.1.1
  obtain ⟨r1, r2⟩ := h.1.2.2.1
  have t20 := h.1.2.2.2.2.1
  obtain ⟨hp1, hp2⟩ := znn hp (by omega)
  obtain ⟨ha1, ha2⟩ := znn ha (by omega)
  obtain ⟨hb1, hb2⟩ := zn6 hb
  have hj : 6 * a + b < 6 * nS S := by omega
  have hgj := h.2.2.2.2.1.2 _ hj
  have hq0 := h.2.2.1 p hp
  have hq := h.up.2.2.1 p hp
  have hG0 := h.2.1 b hb
  have hz := (hq0.2.2.2.2.2.2.2.1.add (zeat hd hG0.2.1) (by omega)).mono (show 90000 * c + 90000 ≤ 90000 * (c + 1) by omega)
  have hs := (hG0.2.2.add (zrg9 hd) (by omega)).mono (show 9999 * c + 9999 ≤ 9999 * (c + 1) by omega)
  obtain ⟨n, l1, l2, l3, l4⟩ := h.2.2.2.2.2.2.1
  have hreg : a = (S 3 p 2).toNatClampNeg ↔ nI a = S 3 p 2 := by
    have := vp_inj (by omega) (by omega) ha1 hq0.2.1
    rw [ha2] at this
    exact this
  have fin : zmay S p a b d → ∀ v T, J (c + 1) T ∧ zEq S T → v = zdue S p b d → T 5 (6 * a + b) 0 = S 5 (6 * a + b) 0 - d → T 5 (6 * a + b) 1 = (if S 2 b 0 = 2 then S 5 (6 * a + b) 1 else S 5 (6 * a + b) 1 + d) → K (.inl (some (.inl v))) T := fun g v T q1 q2 q3 q4 => k1 g v T ⟨q1.1, q1.2, q2, q3, q4⟩
  by_cases hl : 0 < S 3 p 4
  · by_cases hr : nI a = S 3 p 2
    · have hr' := hreg.mpr hr
      by_cases hx : d ≤ zlt1 S p b
      · have hx' := hx
        unfold zlt1 at hx'
        rw [sort] at hx'
        by_cases hm : d ≤ S 5 (6 * a + b) 0
        · simp [zb_X7_buy_57, zb_X7_buy_0, sp_X7_buy, zb_X7_requireAllowed_80, zb_X7_requireAllowed_46, zb_X7_requireAllowed_35, zb_X7_requireAllowed_0, sp_X7_requireAllowed, zb_X7_handOver_48, zb_X7_handOver_0, sp_X7_handOver, zsp, zin, znth, ztake, zset, zcont, zcontH, zf_0_0, zf_0_2, zf_1_0, zf_1_1, zf_1_2, zf_1_3, zf_1_4, zf_2_0, zf_2_1, zf_2_2, zf_2_3, zf_2_4, zf_3_0, zf_3_1, zf_3_2, zf_3_3, zf_3_4, zf_3_5, zf_3_6, zf_3_7, zf_3_8, zf_3_9, zf_3_10, zf_4_0, zf_4_1, zf_4_2, zf_4_3, zf_4_4, zf_5_0, zf_5_1, zf_5_2, zf_5_3, zf_5_4, zf_5_5, zf_6_0, zf_6_1, zf_6_2, zf_7_0, zf_7_1, zf_7_2, zf_7_3, zf_7_4, zf_7_5, zf_7_6, zf_7_7, zf_7_8, zf_7_9, zf_7_10, zf_7_11, zf_7_12, zf_7_13, zf_7_14, zf_7_15, zf_7_16, zf_7_17, zf_7_18, zln_9, zln_10, zln_15, zln_16, zln_17, zln_18, zln_19, zln_20, zln_21, zln_11, zln_12, zln_13, zln_14, zchild, zcnt, zc1b, zble, zbeq, z_push, z_ild, z_ald, z_ist, z_ast, z_inc, z_bin, z_dvn, z_un, z_dup, z_dup2, z_pop, z_if, z_cmp, z_ifnull, z_pnull, z_acn, z_gf, z_gfn, z_pf, z_pfz, z_pfr, z_iald, z_iast, z_aald, z_alen, z_ret, z_invV, z_invS, z_invH, z_throw, z_sw, zup_r, p_X7_knownGood, p_X7_requireRange, p_X7_requireRoom, p_X7_requireEnough, p_X7_requireAlive, p_X7_requireBook, p_X3_isDead, p_X3_isWithoutBook, p_X7_pointsLeft, p_X7_changeGood, vp01, zup2, p_X7_knownPerson q1 q2, p_X7_knownShop r1 r2, p_X7_eat, p_X7_pointsFor, zb_X7_markInBook_0, sp_X7_markInBook, nP_f, nS_f, hp1, hp2, ha1, ha2, hb1, hb2, hp, ha, hb, hd, t20, sort, p_X7_gramsLeft hq0.1 hb1, hl, hm, hr'.symm, hx', Int32.not_lt.mpr hx', hq0.1, hq0.2.2.2.2.2.2.2.2]
          refine p_X4_note (n := n) ?_ ?_ _ _ _ _ ?_
          · exact l2
          · omega
          simp [zsp, zin, znth, ztake, zset, zcont, zcontH, zf_0_0, zf_0_2, zf_1_0, zf_1_1, zf_1_2, zf_1_3, zf_1_4, zf_2_0, zf_2_1, zf_2_2, zf_2_3, zf_2_4, zf_3_0, zf_3_1, zf_3_2, zf_3_3, zf_3_4, zf_3_5, zf_3_6, zf_3_7, zf_3_8, zf_3_9, zf_3_10, zf_4_0, zf_4_1, zf_4_2, zf_4_3, zf_4_4, zf_5_0, zf_5_1, zf_5_2, zf_5_3, zf_5_4, zf_5_5, zf_6_0, zf_6_1, zf_6_2, zf_7_0, zf_7_1, zf_7_2, zf_7_3, zf_7_4, zf_7_5, zf_7_6, zf_7_7, zf_7_8, zf_7_9, zf_7_10, zf_7_11, zf_7_12, zf_7_13, zf_7_14, zf_7_15, zf_7_16, zf_7_17, zf_7_18, zln_9, zln_10, zln_15, zln_16, zln_17, zln_18, zln_19, zln_20, zln_21, zln_11, zln_12, zln_13, zln_14, zchild, zcnt, zc1b, zble, zbeq, z_push, z_ild, z_ald, z_ist, z_ast, z_inc, z_bin, z_dvn, z_un, z_dup, z_dup2, z_pop, z_if, z_cmp, z_ifnull, z_pnull, z_acn, z_gf, z_gfn, z_pf, z_pfz, z_pfr, z_iald, z_iast, z_aald, z_alen, z_ret, z_invV, z_invS, z_invH, z_throw, z_sw, zup_r, p_X7_gramsLeft, hb1, hb2, hq0.1, sort]
          refine fin ⟨hl, hm, fun _ => ⟨hr, hx⟩, fun e => absurd (e.symm.trans sort) (by decide)⟩ _ _ (Jsale (d := d) h ha hb hp (fun f hf => by simp [zup, hf]) (by simp [zup]) rfl rfl rfl rfl (fun i f hi => by simp [zup, hi]) (fun i => by simp [zup]) ?_ (fun i f hi => by simp [zup, hi]) ?_ (fun i f hi => by simp [zup, hi]) (by simp [zup]) (hgj.sale hc hd hm (by simp [zup]) (by simp [zup]) (by simp [zup]) (by simp [zup]) (by simp [zup]) (by simp [zup])) ?_) ?_ ?_ ?_
          · simp only [JGd] at hG0 ⊢
            simp [zup, sort, hs, hG0.2.1]
          · simp only [JPd] at hq ⊢
            simp [zup, nS] at hq ⊢
            simp [hq, hz]
          · exact JL.sale (n := n) (d := d) l1 l3 l4 hp q2 hb (by simp [zup]) (by simp [zup]) (by simp [zup]) (fun i hi => by simp [zup, hi]) (fun i hi => by simp [zup, hi]) (fun i hi => by simp [zup, hi]) (fun i hi => by simp [zup, hi]) (by simp [zup]) (by simp [zup]) (by simp [zup]) (by simp [zup]) (fun i f hi => by simp [zup, hi]) (by simp [zup])
          · simp [zdue, sort]
            unfold zlt1
            rw [sort]
            exact zgl_less (zgr9 hd).1 hx'
          · simp [zup]
          · simp [zup, sort]
        · have := k2 (fun q => hm q.2.1)
          simp [zb_X7_buy_57, zb_X7_buy_0, sp_X7_buy, zb_X7_requireAllowed_80, zb_X7_requireAllowed_46, zb_X7_requireAllowed_35, zb_X7_requireAllowed_0, sp_X7_requireAllowed, zb_X7_handOver_48, zb_X7_handOver_0, sp_X7_handOver, zsp, zin, znth, ztake, zset, zcont, zcontH, zf_0_0, zf_0_2, zf_1_0, zf_1_1, zf_1_2, zf_1_3, zf_1_4, zf_2_0, zf_2_1, zf_2_2, zf_2_3, zf_2_4, zf_3_0, zf_3_1, zf_3_2, zf_3_3, zf_3_4, zf_3_5, zf_3_6, zf_3_7, zf_3_8, zf_3_9, zf_3_10, zf_4_0, zf_4_1, zf_4_2, zf_4_3, zf_4_4, zf_5_0, zf_5_1, zf_5_2, zf_5_3, zf_5_4, zf_5_5, zf_6_0, zf_6_1, zf_6_2, zf_7_0, zf_7_1, zf_7_2, zf_7_3, zf_7_4, zf_7_5, zf_7_6, zf_7_7, zf_7_8, zf_7_9, zf_7_10, zf_7_11, zf_7_12, zf_7_13, zf_7_14, zf_7_15, zf_7_16, zf_7_17, zf_7_18, zln_9, zln_10, zln_15, zln_16, zln_17, zln_18, zln_19, zln_20, zln_21, zln_11, zln_12, zln_13, zln_14, zchild, zcnt, zc1b, zble, zbeq, z_push, z_ild, z_ald, z_ist, z_ast, z_inc, z_bin, z_dvn, z_un, z_dup, z_dup2, z_pop, z_if, z_cmp, z_ifnull, z_pnull, z_acn, z_gf, z_gfn, z_pf, z_pfz, z_pfr, z_iald, z_iast, z_aald, z_alen, z_ret, z_invV, z_invS, z_invH, z_throw, z_sw, zup_r, p_X7_knownGood, p_X7_requireRange, p_X7_requireRoom, p_X7_requireEnough, p_X7_requireAlive, p_X7_requireBook, p_X3_isDead, p_X3_isWithoutBook, p_X7_pointsLeft, p_X7_changeGood, vp01, zup2, p_X7_knownPerson q1 q2, p_X7_knownShop r1 r2, p_X7_eat, p_X7_pointsFor, zb_X7_markInBook_0, sp_X7_markInBook, nP_f, nS_f, hp1, hp2, ha1, ha2, hb1, hb2, hp, ha, hb, hd, t20, sort, p_X7_gramsLeft hq0.1 hb1, hl, hm, hr'.symm, hx', Int32.not_lt.mpr hx', hq0.1]
          exact this
      · have := k2 (fun q => hx (q.2.2.1 sort).2)
        unfold zlt1 at hx
        rw [sort] at hx
        simp [zb_X7_buy_57, zb_X7_buy_0, sp_X7_buy, zb_X7_requireAllowed_80, zb_X7_requireAllowed_46, zb_X7_requireAllowed_35, zb_X7_requireAllowed_0, sp_X7_requireAllowed, zb_X7_handOver_48, zb_X7_handOver_0, sp_X7_handOver, zsp, zin, znth, ztake, zset, zcont, zcontH, zf_0_0, zf_0_2, zf_1_0, zf_1_1, zf_1_2, zf_1_3, zf_1_4, zf_2_0, zf_2_1, zf_2_2, zf_2_3, zf_2_4, zf_3_0, zf_3_1, zf_3_2, zf_3_3, zf_3_4, zf_3_5, zf_3_6, zf_3_7, zf_3_8, zf_3_9, zf_3_10, zf_4_0, zf_4_1, zf_4_2, zf_4_3, zf_4_4, zf_5_0, zf_5_1, zf_5_2, zf_5_3, zf_5_4, zf_5_5, zf_6_0, zf_6_1, zf_6_2, zf_7_0, zf_7_1, zf_7_2, zf_7_3, zf_7_4, zf_7_5, zf_7_6, zf_7_7, zf_7_8, zf_7_9, zf_7_10, zf_7_11, zf_7_12, zf_7_13, zf_7_14, zf_7_15, zf_7_16, zf_7_17, zf_7_18, zln_9, zln_10, zln_15, zln_16, zln_17, zln_18, zln_19, zln_20, zln_21, zln_11, zln_12, zln_13, zln_14, zchild, zcnt, zc1b, zble, zbeq, z_push, z_ild, z_ald, z_ist, z_ast, z_inc, z_bin, z_dvn, z_un, z_dup, z_dup2, z_pop, z_if, z_cmp, z_ifnull, z_pnull, z_acn, z_gf, z_gfn, z_pf, z_pfz, z_pfr, z_iald, z_iast, z_aald, z_alen, z_ret, z_invV, z_invS, z_invH, z_throw, z_sw, zup_r, p_X7_knownGood, p_X7_requireRange, p_X7_requireRoom, p_X7_requireEnough, p_X7_requireAlive, p_X7_requireBook, p_X3_isDead, p_X3_isWithoutBook, p_X7_pointsLeft, p_X7_changeGood, vp01, zup2, p_X7_knownPerson q1 q2, p_X7_knownShop r1 r2, p_X7_eat, p_X7_pointsFor, zb_X7_markInBook_0, sp_X7_markInBook, nP_f, nS_f, hp1, hp2, ha1, ha2, hb1, hb2, hp, ha, hb, hd, t20, sort, p_X7_gramsLeft hq0.1 hb1, hl, hr'.symm, hx, Int32.not_le.mp hx, hq0.1]
        exact this
    · have hr' := (not_congr hreg).mpr hr
      have hr2 : ¬ (S 3 p 2).toNatClampNeg = a := fun e => hr' e.symm
      have := k2 (fun q => hr (q.2.2.1 sort).1)
      simp [zb_X7_buy_57, zb_X7_buy_0, sp_X7_buy, zb_X7_requireAllowed_80, zb_X7_requireAllowed_46, zb_X7_requireAllowed_35, zb_X7_requireAllowed_0, sp_X7_requireAllowed, zb_X7_handOver_48, zb_X7_handOver_0, sp_X7_handOver, zsp, zin, znth, ztake, zset, zcont, zcontH, zf_0_0, zf_0_2, zf_1_0, zf_1_1, zf_1_2, zf_1_3, zf_1_4, zf_2_0, zf_2_1, zf_2_2, zf_2_3, zf_2_4, zf_3_0, zf_3_1, zf_3_2, zf_3_3, zf_3_4, zf_3_5, zf_3_6, zf_3_7, zf_3_8, zf_3_9, zf_3_10, zf_4_0, zf_4_1, zf_4_2, zf_4_3, zf_4_4, zf_5_0, zf_5_1, zf_5_2, zf_5_3, zf_5_4, zf_5_5, zf_6_0, zf_6_1, zf_6_2, zf_7_0, zf_7_1, zf_7_2, zf_7_3, zf_7_4, zf_7_5, zf_7_6, zf_7_7, zf_7_8, zf_7_9, zf_7_10, zf_7_11, zf_7_12, zf_7_13, zf_7_14, zf_7_15, zf_7_16, zf_7_17, zf_7_18, zln_9, zln_10, zln_15, zln_16, zln_17, zln_18, zln_19, zln_20, zln_21, zln_11, zln_12, zln_13, zln_14, zchild, zcnt, zc1b, zble, zbeq, z_push, z_ild, z_ald, z_ist, z_ast, z_inc, z_bin, z_dvn, z_un, z_dup, z_dup2, z_pop, z_if, z_cmp, z_ifnull, z_pnull, z_acn, z_gf, z_gfn, z_pf, z_pfz, z_pfr, z_iald, z_iast, z_aald, z_alen, z_ret, z_invV, z_invS, z_invH, z_throw, z_sw, zup_r, p_X7_knownGood, p_X7_requireRange, p_X7_requireRoom, p_X7_requireEnough, p_X7_requireAlive, p_X7_requireBook, p_X3_isDead, p_X3_isWithoutBook, p_X7_pointsLeft, p_X7_changeGood, vp01, zup2, p_X7_knownPerson q1 q2, p_X7_knownShop r1 r2, p_X7_eat, p_X7_pointsFor, zb_X7_markInBook_0, sp_X7_markInBook, nP_f, nS_f, hp1, hp2, ha1, ha2, hb1, hb2, hp, ha, hb, hd, t20, sort, p_X7_gramsLeft hq0.1 hb1, hl, hr', hr2]
      exact this
  · have := k2 (fun q => hl q.1)
    simp [zb_X7_buy_57, zb_X7_buy_0, sp_X7_buy, zb_X7_requireAllowed_80, zb_X7_requireAllowed_46, zb_X7_requireAllowed_35, zb_X7_requireAllowed_0, sp_X7_requireAllowed, zb_X7_handOver_48, zb_X7_handOver_0, sp_X7_handOver, zsp, zin, znth, ztake, zset, zcont, zcontH, zf_0_0, zf_0_2, zf_1_0, zf_1_1, zf_1_2, zf_1_3, zf_1_4, zf_2_0, zf_2_1, zf_2_2, zf_2_3, zf_2_4, zf_3_0, zf_3_1, zf_3_2, zf_3_3, zf_3_4, zf_3_5, zf_3_6, zf_3_7, zf_3_8, zf_3_9, zf_3_10, zf_4_0, zf_4_1, zf_4_2, zf_4_3, zf_4_4, zf_5_0, zf_5_1, zf_5_2, zf_5_3, zf_5_4, zf_5_5, zf_6_0, zf_6_1, zf_6_2, zf_7_0, zf_7_1, zf_7_2, zf_7_3, zf_7_4, zf_7_5, zf_7_6, zf_7_7, zf_7_8, zf_7_9, zf_7_10, zf_7_11, zf_7_12, zf_7_13, zf_7_14, zf_7_15, zf_7_16, zf_7_17, zf_7_18, zln_9, zln_10, zln_15, zln_16, zln_17, zln_18, zln_19, zln_20, zln_21, zln_11, zln_12, zln_13, zln_14, zchild, zcnt, zc1b, zble, zbeq, z_push, z_ild, z_ald, z_ist, z_ast, z_inc, z_bin, z_dvn, z_un, z_dup, z_dup2, z_pop, z_if, z_cmp, z_ifnull, z_pnull, z_acn, z_gf, z_gfn, z_pf, z_pfz, z_pfr, z_iald, z_iast, z_aald, z_alen, z_ret, z_invV, z_invS, z_invH, z_throw, z_sw, zup_r, p_X7_knownGood, p_X7_requireRange, p_X7_requireRoom, p_X7_requireEnough, p_X7_requireAlive, p_X7_requireBook, p_X3_isDead, p_X3_isWithoutBook, p_X7_pointsLeft, p_X7_changeGood, vp01, zup2, p_X7_knownPerson q1 q2, p_X7_knownShop r1 r2, p_X7_eat, p_X7_pointsFor, zb_X7_markInBook_0, sp_X7_markInBook, nP_f, nS_f, hp1, hp2, ha1, ha2, hb1, hb2, hp, ha, hb, hd, t20, sort, hl]
    exact this
set_option maxRecDepth 20000 in
set_option maxHeartbeats 8000000 in
theorem m_buy0 {c : Nat} {S : ZS} {K : ZK} (h : J c S) {p a b : Nat} {d : Int32} (hp : p < nP S) (ha : a < nS S) (hb : b < 6) (hd : zbt d 1 9999) (sort : S 2 b 0 = 1) (hh : ¬ d - d / 100 * 100 = 0) (k0 : K (.inr 2) S) : sp_X7_buy [zr 7 0, zi (nI p), zi (nI a), zi (nI b), zi d] S K := by
  obtain ⟨q1, q2⟩ := h.1.1
  obtain ⟨r1, r2⟩ := h.1.2.2.1
  have t20 := h.1.2.2.2.2.1
  obtain ⟨hp1, hp2⟩ := znn hp (by omega)
  obtain ⟨ha1, ha2⟩ := znn ha (by omega)
  obtain ⟨hb1, hb2⟩ := zn6 hb
  simp [zb_X7_buy_57, zb_X7_buy_0, sp_X7_buy, zb_X7_requireAllowed_80, zb_X7_requireAllowed_46, zb_X7_requireAllowed_35, zb_X7_requireAllowed_0, sp_X7_requireAllowed, zb_X7_handOver_48, zb_X7_handOver_0, sp_X7_handOver, zsp, zin, znth, ztake, zset, zcont, zcontH, zf_0_0, zf_0_2, zf_1_0, zf_1_1, zf_1_2, zf_1_3, zf_1_4, zf_2_0, zf_2_1, zf_2_2, zf_2_3, zf_2_4, zf_3_0, zf_3_1, zf_3_2, zf_3_3, zf_3_4, zf_3_5, zf_3_6, zf_3_7, zf_3_8, zf_3_9, zf_3_10, zf_4_0, zf_4_1, zf_4_2, zf_4_3, zf_4_4, zf_5_0, zf_5_1, zf_5_2, zf_5_3, zf_5_4, zf_5_5, zf_6_0, zf_6_1, zf_6_2, zf_7_0, zf_7_1, zf_7_2, zf_7_3, zf_7_4, zf_7_5, zf_7_6, zf_7_7, zf_7_8, zf_7_9, zf_7_10, zf_7_11, zf_7_12, zf_7_13, zf_7_14, zf_7_15, zf_7_16, zf_7_17, zf_7_18, zln_9, zln_10, zln_15, zln_16, zln_17, zln_18, zln_19, zln_20, zln_21, zln_11, zln_12, zln_13, zln_14, zchild, zcnt, zc1b, zble, zbeq, z_push, z_ild, z_ald, z_ist, z_ast, z_inc, z_bin, z_dvn, z_un, z_dup, z_dup2, z_pop, z_if, z_cmp, z_ifnull, z_pnull, z_acn, z_gf, z_gfn, z_pf, z_pfz, z_pfr, z_iald, z_iast, z_aald, z_alen, z_ret, z_invV, z_invS, z_invH, z_throw, z_sw, zup_r, p_X7_knownGood, p_X7_requireRange, p_X7_requireRoom, p_X7_requireEnough, p_X7_requireAlive, p_X7_requireBook, p_X3_isDead, p_X3_isWithoutBook, p_X7_pointsLeft, p_X7_changeGood, vp01, zup2, p_X7_knownPerson q1 q2, p_X7_knownShop r1 r2, p_X7_eat, p_X7_pointsFor, zb_X7_markInBook_0, sp_X7_markInBook, nP_f, nS_f, hp1, hp2, ha1, ha2, hb1, hb2, hp, ha, hb, hd, t20, sort, hh]
  exact k0
