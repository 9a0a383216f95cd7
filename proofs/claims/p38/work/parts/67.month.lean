/-! FARMS AND MONTHS -/
set_option maxRecDepth 20000 in
set_option maxHeartbeats 8000000 in
theorem m_deliver {c : Nat} {S : ZS} (h : J c S) (hc : c ≤ 500) {f : Nat} {d : Int32} (hf : f < nF S) (hd : zbt d 1 99999) : sp_X7_deliver [zr 7 0, zi (nI f), zi d] S (zR (fun _ S' => J (c + 1) S' ∧ zEq S S' ∧ S' 7 0 13 = S 7 0 13 ∧ S' 2 = S 2)) := by
  obtain ⟨f1, f2⟩ := h.1.2.2.2.1
  obtain ⟨d1, d2⟩ := h.1.2.1
  obtain ⟨hf1, hf2⟩ := znn hf (by omega)
  obtain ⟨k1, k2⟩ := h.2.2.2.2.2.1 f hf
  have n1 := (vp_clamp (by omega) k1).1
  have n2 := (vp_clamp (by decide) k2).1
  have hJ : J c (zup S 1 f 3 (S 1 f 3 + d)) := by
    obtain ⟨h1, h2, h3, h4, h5, h6, h7, h8⟩ := h
    exact ⟨h1.fr (fun f hf => rfl), h2.fr rfl, h3.fr rfl rfl rfl, h4.fr rfl rfl rfl, h5.fr rfl rfl rfl rfl, h6.fr rfl rfl (fun i => by simp [zup]), h7.fr rfl rfl rfl rfl rfl rfl rfl rfl, h8.fr rfl rfl (fun f hf hg => rfl) rfl (fun j => rfl) (fun g => rfl)⟩
  have hb := Jbring hJ hc (a := (S 1 f 0).toNatClampNeg) (b := (S 1 f 1).toNatClampNeg) (d := d) n1 n2 hd
  simp [sp_X7_deliver, zb_X7_deliver_0, zsp, zin, znth, ztake, zset, zcont, zcontH, zf_0_0, zf_0_2, zf_1_0, zf_1_1, zf_1_2, zf_1_3, zf_1_4, zf_2_0, zf_2_1, zf_2_2, zf_2_3, zf_2_4, zf_3_0, zf_3_1, zf_3_2, zf_3_3, zf_3_4, zf_3_5, zf_3_6, zf_3_7, zf_3_8, zf_3_9, zf_3_10, zf_4_0, zf_4_1, zf_4_2, zf_4_3, zf_4_4, zf_5_0, zf_5_1, zf_5_2, zf_5_3, zf_5_4, zf_5_5, zf_6_0, zf_6_1, zf_6_2, zf_7_0, zf_7_1, zf_7_2, zf_7_3, zf_7_4, zf_7_5, zf_7_6, zf_7_7, zf_7_8, zf_7_9, zf_7_10, zf_7_11, zf_7_12, zf_7_13, zf_7_14, zf_7_15, zf_7_16, zf_7_17, zf_7_18, zln_9, zln_10, zln_15, zln_16, zln_17, zln_18, zln_19, zln_20, zln_21, zln_11, zln_12, zln_13, zln_14, zchild, zcnt, zc1b, zble, zbeq, z_push, z_ild, z_ald, z_ist, z_ast, z_inc, z_bin, z_dvn, z_un, z_dup, z_dup2, z_pop, z_if, z_cmp, z_ifnull, z_pnull, z_acn, z_gf, z_gfn, z_pf, z_pfz, z_pfr, z_iald, z_iast, z_aald, z_alen, z_ret, z_invV, z_invS, z_invH, z_throw, z_sw, zup_r, p_X7_knownGood, p_X7_requireRange, p_X7_requireRoom, p_X7_requireEnough, p_X7_requireAlive, p_X7_requireBook, p_X3_isDead, p_X3_isWithoutBook, p_X7_pointsLeft, p_X7_changeGood, vp01, zup2, p_X7_knownFarm f1 f2, nF_f, hf1, hf2, hf, hd]
  rw [p_X7_bringTo (by simpa [zup] using k2)]
  simp [zsp, zin, znth, ztake, zset, zcont, zcontH, zf_0_0, zf_0_2, zf_1_0, zf_1_1, zf_1_2, zf_1_3, zf_1_4, zf_2_0, zf_2_1, zf_2_2, zf_2_3, zf_2_4, zf_3_0, zf_3_1, zf_3_2, zf_3_3, zf_3_4, zf_3_5, zf_3_6, zf_3_7, zf_3_8, zf_3_9, zf_3_10, zf_4_0, zf_4_1, zf_4_2, zf_4_3, zf_4_4, zf_5_0, zf_5_1, zf_5_2, zf_5_3, zf_5_4, zf_5_5, zf_6_0, zf_6_1, zf_6_2, zf_7_0, zf_7_1, zf_7_2, zf_7_3, zf_7_4, zf_7_5, zf_7_6, zf_7_7, zf_7_8, zf_7_9, zf_7_10, zf_7_11, zf_7_12, zf_7_13, zf_7_14, zf_7_15, zf_7_16, zf_7_17, zf_7_18, zln_9, zln_10, zln_15, zln_16, zln_17, zln_18, zln_19, zln_20, zln_21, zln_11, zln_12, zln_13, zln_14, zchild, zcnt, zc1b, zble, zbeq, z_push, z_ild, z_ald, z_ist, z_ast, z_inc, z_bin, z_dvn, z_un, z_dup, z_dup2, z_pop, z_if, z_cmp, z_ifnull, z_pnull, z_acn, z_gf, z_gfn, z_pf, z_pfz, z_pfr, z_iald, z_iast, z_aald, z_alen, z_ret, z_invV, z_invS, z_invH, z_throw, z_sw, zup_r, zR_i]
  exact ⟨hb.1, ⟨⟨rfl, rfl, rfl, rfl⟩, rfl⟩, rfl⟩
theorem zmo_2 (S : ZS) {g : Nat} (hg : g < 6) (f : Nat) : zmo S 2 g f = if f = 3 then 0 else if f = 1 ∧ S 2 g 0 = 1 then zamt S (zll S g) g else S 2 g f := by
  have eX : zmp (zS2 S) 2 6 (zgp (zS2 S)) 2 g f = if f = 1 ∧ S 2 g 0 = 1 then zamt S (zll S g) g else S 2 g f := if_pos ⟨rfl, hg⟩
  rw [← eX]
  exact if_pos ⟨rfl, hg⟩
theorem zprc_near : ∀ t : Fin 11, ∀ a : Fin 25, zprc 2 (nI a) (nI t) ≤ nI a + 2 ∧ nI a - 2 ≤ zprc 2 (nI a) (nI t) := by decide +kernel
theorem zamt_J {c : Nat} {S : ZS} (hc : c ≤ 500) (h : J c S) {g : Nat} (hg : g < 6) (h1 : S 2 g 0 = 1) : zbt (zamt S (zll S g) g) 1 24 ∧ zamt S (zll S g) g ≤ S 2 g 1 + 2 ∧ S 2 g 1 - 2 ≤ zamt S (zll S g) g := by
  have hb : zbt (S 2 g 1) 1 24 := by
    rcases (h.2.1 g hg).1 with k | k | k
    · rw [h1] at k
      exact absurd k (by decide)
    · exact k.2
    · rw [h1] at k
      exact absurd k (by decide)
  obtain ⟨w1, w2⟩ := zbt_i (lo := 1) (hi := 24) (by decide) (by decide) hb
  have hn := h.1.2.2.1.2
  have hl : zrg (zll S g) (99999 * c * 6) := by
    refine (zsu_rg (b := 99999 * c) hn (by omega) (fun i hi => ?_)).mono (Nat.mul_le_mul_left _ hn)
    exact (h.2.2.2.2.1.2 (6 * i + g) (by omega)).1
  have hs := (h.2.1 g hg).2.2
  by_cases h0 : 0 < S 2 g 3 + zll S g
  · rw [zamt, if_pos h0]
    obtain ⟨t, ht⟩ := zten_rg hs hl (by omega) (by omega) h0
    obtain ⟨a, ha⟩ := zfin (n := 24) (x := S 2 g 1) (by decide) ⟨by omega, w2⟩
    rw [ht, h.1.2.2.2.2.2.1, ha]
    exact ⟨zprc_bt t 2 a, zprc_near t a⟩
  · rw [zamt, if_neg h0]
    have e2 : (2 : Int32).toInt = 2 := by decide
    refine ⟨hb, ?_, ?_⟩
    · rw [zle_iff, zadd_i (by omega) (by omega)]
      omega
    · rw [zle_iff, zsub_i (by omega) (by omega)]
      omega
theorem zmo_3 (S : ZS) {p : Nat} (hp : p < nP S) (f : Nat) : zmo S 3 p f = if f = 2 then nI (S 3 p 3).toNatClampNeg else if f = 6 ∨ f = 7 ∨ f = 8 ∨ f = 9 then 0 else if 0 < S 3 p 4 ∧ f = 4 then zhe S p else if 0 < S 3 p 4 ∧ f = 5 then znm (zS1 S) p else S 3 p f := by
  have eX : ∀ f, zS2 S 3 p f = zpp (zS1 S) p f := fun f => if_pos ⟨rfl, hp⟩
  have e3 : zmo S 3 p f = if f = 2 then nI (zS2 S 3 p 3).toNatClampNeg else if f = 6 ∨ f = 7 ∨ f = 8 ∨ f = 9 then 0 else zS2 S 3 p f := if_pos ⟨rfl, hp⟩
  have e33 : zS2 S 3 p 3 = S 3 p 3 := by
    rw [eX]
    unfold zpp
    split
    · rw [if_neg (by decide), if_neg (by decide)]
      rfl
    · rfl
  rw [e3, e33, eX]
  by_cases h0 : 0 < S 3 p 4
  · have h0' : 0 < zS1 S 3 p 4 := h0
    simp only [zpp, h0', h0, true_and, if_true]
    rfl
  · have h0' : ¬ 0 < zS1 S 3 p 4 := h0
    simp only [zpp, h0', h0, false_and, if_false]
    rfl
set_option maxRecDepth 20000 in
set_option maxHeartbeats 8000000 in
theorem J_month {c : Nat} {S : ZS} (h : J c S) (hc : c ≤ 239) : J (c + 1) (zmo S) ∧ zEq S (zmo S) := by
  have q2 := h.1.1.2
  have r2 := h.1.2.2.1.2
  obtain ⟨h1, h2, h3, h4, h5, h6, h7, h8⟩ := h.up
  have hm : zrg (S 7 0 13 + 1) (c + 1) := h.1.2.2.2.2.2.2.1.add (show zrg 1 1 from ⟨by decide, by decide⟩) (by omega)
  refine ⟨⟨?_, ?_, ?_, h4.fr rfl (by funext i f; rfl) (by funext i f; rfl), h5.fr rfl rfl (by funext i f; rfl) (by funext i f; rfl), ?_, ?_, ?_⟩, ⟨rfl, rfl, rfl, rfl⟩, rfl⟩
  · obtain ⟨a1, a2, a3, a4, a5, a6, a7, a8⟩ := h1
    exact ⟨a1, a2, a3, a4, a5, a6, hm, zrg0 _⟩
  · intro g hg
    obtain ⟨k1, k2, k3⟩ := h2 g hg
    unfold JGd
    rw [zmo_2 S hg, zmo_2 S hg, zmo_2 S hg, zmo_2 S hg]
    simp only [show ¬ (0 = 3) by decide, show ¬ (1 = 3) by decide, show ¬ (2 = 3) by decide, show ¬ (0 = 1) by decide, show ¬ (2 = 1) by decide, if_true, if_false, true_and, false_and]
    refine ⟨?_, k2, zrg0 _⟩
    rcases k1 with k | k | k
    · exact Or.inl k
    · rw [if_pos k.1]
      exact Or.inr (Or.inl ⟨k.1, (zamt_J (by omega) h hg k.1).1⟩)
    · exact Or.inr (Or.inr k)
  · intro p hp
    have hp' : p < nP S := hp
    obtain ⟨k1, k2, k3, k4, k5, k6, k7, k8, k9⟩ := h3 p hp'
    have e := fun f => zmo_3 S hp' f
    have rg4 : zrg (zmo S 3 p 4) 100 := by
      rw [e]
      simp
      by_cases h0 : 0 < S 3 p 4
      · rw [if_pos h0]
        exact zhe_rg k4 h0
      · rw [if_neg h0]
        exact k4
    have u := vp_clamp (by omega) k3
    refine ⟨?_, ?_, ?_, rg4, ?_, ?_, ?_, ?_, ?_⟩
    · rw [e]
      simp
      exact k1
    · rw [e]
      simp
      rw [← u.2.1]
      exact k3
    · rw [e]
      simp
      exact k3
    · rw [e]
      simp
    · rw [e]
      simp [zrg0]
    · rw [e]
      simp [zrg0]
    · rw [e]
      simp [zrg0]
    · rw [e]
      simp
      exact k9
  · refine h6.fr rfl rfl (fun f => ?_)
    by_cases hf : f < nF S
    · have e1 : ∀ x, zmo S 1 f x = zff S f x := fun x => if_pos ⟨rfl, hf⟩
      rw [e1, e1]
      exact ⟨rfl, rfl⟩
    · have e1 : ∀ x, zmo S 1 f x = S 1 f x := fun x => if_neg (fun h => hf h.2)
      rw [e1, e1]
      exact ⟨rfl, rfl⟩
  · obtain ⟨n, l1, l2, l3, l4⟩ := h7
    have e1 : (1 : Int32).toInt = 1 := by decide
    obtain ⟨m1, m2⟩ := h.1.2.2.2.2.2.2.1
    have ha := zadd_i (a := S 7 0 13) (b := 1) (by omega) (by omega)
    have e13 : zmo S 7 0 13 = S 7 0 13 + 1 := rfl
    have e11 : ∀ i, zmo S 11 0 i = S 11 0 i := fun i => rfl
    refine ⟨n, l1, l2, fun i hi => ?_, fun p hp g hg => ?_⟩
    · rw [e11, e13, zle_iff]
      have := zle_iff.mp (l3 i hi)
      omega
    · rw [zss_none (fun i hi e => by
        rw [e11, e13, zeq_iff] at e
        have := zle_iff.mp (l3 i hi)
        omega)]
      by_cases hh : p < nP S
      · rw [if_pos (show p < nP (zmo S) from hh)]
        simp [zmo, zbk, hh, hg]
      · rw [if_neg (show ¬ p < nP (zmo S) from hh)]
  · have e2 : zsb (zmo S) = zsb S := zsu_congr (fun g hg => by
      rw [zmo_2 S hg]
      simp)
    unfold JM
    rw [e2]
    exact h8
set_option maxRecDepth 20000 in
set_option maxHeartbeats 8000000 in
theorem m_month {c : Nat} {S : ZS} (h : J c S) (hc : c ≤ 239) : sp_X7_month [zr 7 0] S (zR (fun v S' => J (c + 1) S' ∧ zEq S S' ∧ v = S 7 0 13 + 1 ∧ (∀ g, g < 6 → S' 2 g 3 = 0) ∧ (∀ p, p < nP S → S' 3 p 9 = 0) ∧ (S 2 2 0 = 1 → S' 2 2 1 ≤ S 2 2 1 + 2 ∧ S 2 2 1 - 2 ≤ S' 2 2 1))) := by
  obtain ⟨q1, q2⟩ := h.1.1
  obtain ⟨r1, r2⟩ := h.1.2.2.1
  obtain ⟨f1, f2⟩ := h.1.2.2.2.1
  have hl : S 7 0 13 < 240 := by
    have := h.1.2.2.2.2.2.2.1.2
    rw [zlt_iff, show (240 : Int32).toInt = 240 by decide]
    omega
  have hp : ∀ p, p < nP S → zbt (S 3 p 1) 0 3 ∧ (S 3 p 2).toNatClampNeg < nS S := fun p hp => by
    have := h.2.2.1 p hp
    exact ⟨this.1, (vp_clamp (by omega) this.2.1).1⟩
  have hK : zR (fun v S' => J (c + 1) S' ∧ zEq S S' ∧ v = S 7 0 13 + 1 ∧ (∀ g, g < 6 → S' 2 g 3 = 0) ∧ (∀ p, p < nP S → S' 3 p 9 = 0) ∧ (S 2 2 0 = 1 → S' 2 2 1 ≤ S 2 2 1 + 2 ∧ S 2 2 1 - 2 ≤ S' 2 2 1)) (.inl (some (.inl (S 7 0 13 + 1)))) (zmo S) := by
    obtain ⟨j1, j2⟩ := J_month h hc
    refine zR_i.mpr ⟨j1, j2, rfl, fun g hg => ?_, fun p hp => ?_, fun hs => ?_⟩
    · rw [zmo_2 S hg]
      simp
    · rw [zmo_3 S hp]
      simp
    · rw [zmo_2 S (by decide)]
      simp only [show ¬ (1 = 3) by decide, if_false, true_and, if_pos hs]
      exact (zamt_J (by omega) h (by decide) hs).2
  simp [sp_X7_month, zb_X7_month_0, zsp, zin, znth, ztake, zset, zcont, zcontH, zf_0_0, zf_0_2, zf_1_0, zf_1_1, zf_1_2, zf_1_3, zf_1_4, zf_2_0, zf_2_1, zf_2_2, zf_2_3, zf_2_4, zf_3_0, zf_3_1, zf_3_2, zf_3_3, zf_3_4, zf_3_5, zf_3_6, zf_3_7, zf_3_8, zf_3_9, zf_3_10, zf_4_0, zf_4_1, zf_4_2, zf_4_3, zf_4_4, zf_5_0, zf_5_1, zf_5_2, zf_5_3, zf_5_4, zf_5_5, zf_6_0, zf_6_1, zf_6_2, zf_7_0, zf_7_1, zf_7_2, zf_7_3, zf_7_4, zf_7_5, zf_7_6, zf_7_7, zf_7_8, zf_7_9, zf_7_10, zf_7_11, zf_7_12, zf_7_13, zf_7_14, zf_7_15, zf_7_16, zf_7_17, zf_7_18, zln_9, zln_10, zln_15, zln_16, zln_17, zln_18, zln_19, zln_20, zln_21, zln_11, zln_12, zln_13, zln_14, zchild, zcnt, zc1b, zble, zbeq, z_push, z_ild, z_ald, z_ist, z_ast, z_inc, z_bin, z_dvn, z_un, z_dup, z_dup2, z_pop, z_if, z_cmp, z_ifnull, z_pnull, z_acn, z_gf, z_gfn, z_pf, z_pfz, z_pfr, z_iald, z_iast, z_aald, z_alen, z_ret, z_invV, z_invS, z_invH, z_throw, z_sw, zup_r, hl]
  refine p_X7_farms f1 f2 ?_
  simp [zsp, zin, znth, ztake, zset, zcont, zcontH, zf_0_0, zf_0_2, zf_1_0, zf_1_1, zf_1_2, zf_1_3, zf_1_4, zf_2_0, zf_2_1, zf_2_2, zf_2_3, zf_2_4, zf_3_0, zf_3_1, zf_3_2, zf_3_3, zf_3_4, zf_3_5, zf_3_6, zf_3_7, zf_3_8, zf_3_9, zf_3_10, zf_4_0, zf_4_1, zf_4_2, zf_4_3, zf_4_4, zf_5_0, zf_5_1, zf_5_2, zf_5_3, zf_5_4, zf_5_5, zf_6_0, zf_6_1, zf_6_2, zf_7_0, zf_7_1, zf_7_2, zf_7_3, zf_7_4, zf_7_5, zf_7_6, zf_7_7, zf_7_8, zf_7_9, zf_7_10, zf_7_11, zf_7_12, zf_7_13, zf_7_14, zf_7_15, zf_7_16, zf_7_17, zf_7_18, zln_9, zln_10, zln_15, zln_16, zln_17, zln_18, zln_19, zln_20, zln_21, zln_11, zln_12, zln_13, zln_14, zchild, zcnt, zc1b, zble, zbeq, z_push, z_ild, z_ald, z_ist, z_ast, z_inc, z_bin, z_dvn, z_un, z_dup, z_dup2, z_pop, z_if, z_cmp, z_ifnull, z_pnull, z_acn, z_gf, z_gfn, z_pf, z_pfz, z_pfr, z_iald, z_iast, z_aald, z_alen, z_ret, z_invV, z_invS, z_invH, z_throw, z_sw, zup_r]
  refine p_X7_people (S := zmp S 1 (nF S) (zff S)) q1 q2 hp ?_
  simp [zsp, zin, znth, ztake, zset, zcont, zcontH, zf_0_0, zf_0_2, zf_1_0, zf_1_1, zf_1_2, zf_1_3, zf_1_4, zf_2_0, zf_2_1, zf_2_2, zf_2_3, zf_2_4, zf_3_0, zf_3_1, zf_3_2, zf_3_3, zf_3_4, zf_3_5, zf_3_6, zf_3_7, zf_3_8, zf_3_9, zf_3_10, zf_4_0, zf_4_1, zf_4_2, zf_4_3, zf_4_4, zf_5_0, zf_5_1, zf_5_2, zf_5_3, zf_5_4, zf_5_5, zf_6_0, zf_6_1, zf_6_2, zf_7_0, zf_7_1, zf_7_2, zf_7_3, zf_7_4, zf_7_5, zf_7_6, zf_7_7, zf_7_8, zf_7_9, zf_7_10, zf_7_11, zf_7_12, zf_7_13, zf_7_14, zf_7_15, zf_7_16, zf_7_17, zf_7_18, zln_9, zln_10, zln_15, zln_16, zln_17, zln_18, zln_19, zln_20, zln_21, zln_11, zln_12, zln_13, zln_14, zchild, zcnt, zc1b, zble, zbeq, z_push, z_ild, z_ald, z_ist, z_ast, z_inc, z_bin, z_dvn, z_un, z_dup, z_dup2, z_pop, z_if, z_cmp, z_ifnull, z_pnull, z_acn, z_gf, z_gfn, z_pf, z_pfz, z_pfr, z_iald, z_iast, z_aald, z_alen, z_ret, z_invV, z_invS, z_invH, z_throw, z_sw, zup_r]
  refine p_X7_repriceGoods (S := zmp (zmp S 1 (nF S) (zff S)) 3 (nP S) (zpp (zmp S 1 (nF S) (zff S)))) r1 r2 ?_ ?_
  · intro g hg h1 h2
    rw [h2] at h1
    exact absurd h1 (by decide)
  simp [zsp, zin, znth, ztake, zset, zcont, zcontH, zf_0_0, zf_0_2, zf_1_0, zf_1_1, zf_1_2, zf_1_3, zf_1_4, zf_2_0, zf_2_1, zf_2_2, zf_2_3, zf_2_4, zf_3_0, zf_3_1, zf_3_2, zf_3_3, zf_3_4, zf_3_5, zf_3_6, zf_3_7, zf_3_8, zf_3_9, zf_3_10, zf_4_0, zf_4_1, zf_4_2, zf_4_3, zf_4_4, zf_5_0, zf_5_1, zf_5_2, zf_5_3, zf_5_4, zf_5_5, zf_6_0, zf_6_1, zf_6_2, zf_7_0, zf_7_1, zf_7_2, zf_7_3, zf_7_4, zf_7_5, zf_7_6, zf_7_7, zf_7_8, zf_7_9, zf_7_10, zf_7_11, zf_7_12, zf_7_13, zf_7_14, zf_7_15, zf_7_16, zf_7_17, zf_7_18, zln_9, zln_10, zln_15, zln_16, zln_17, zln_18, zln_19, zln_20, zln_21, zln_11, zln_12, zln_13, zln_14, zchild, zcnt, zc1b, zble, zbeq, z_push, z_ild, z_ald, z_ist, z_ast, z_inc, z_bin, z_dvn, z_un, z_dup, z_dup2, z_pop, z_if, z_cmp, z_ifnull, z_pnull, z_acn, z_gf, z_gfn, z_pf, z_pfz, z_pfr, z_iald, z_iast, z_aald, z_alen, z_ret, z_invV, z_invS, z_invH, z_throw, z_sw, zup_r]
  refine p_X7_openNewMonth (S := zmp (zmp (zmp S 1 (nF S) (zff S)) 3 (nP S) (zpp (zmp S 1 (nF S) (zff S)))) 2 6 (zgp (zmp (zmp S 1 (nF S) (zff S)) 3 (nP S) (zpp (zmp S 1 (nF S) (zff S)))))) q1 q2 ?_
  simp only [zsp, zin, znth, ztake, zset, zcont, zcontH, zf_0_0, zf_0_2, zf_1_0, zf_1_1, zf_1_2, zf_1_3, zf_1_4, zf_2_0, zf_2_1, zf_2_2, zf_2_3, zf_2_4, zf_3_0, zf_3_1, zf_3_2, zf_3_3, zf_3_4, zf_3_5, zf_3_6, zf_3_7, zf_3_8, zf_3_9, zf_3_10, zf_4_0, zf_4_1, zf_4_2, zf_4_3, zf_4_4, zf_5_0, zf_5_1, zf_5_2, zf_5_3, zf_5_4, zf_5_5, zf_6_0, zf_6_1, zf_6_2, zf_7_0, zf_7_1, zf_7_2, zf_7_3, zf_7_4, zf_7_5, zf_7_6, zf_7_7, zf_7_8, zf_7_9, zf_7_10, zf_7_11, zf_7_12, zf_7_13, zf_7_14, zf_7_15, zf_7_16, zf_7_17, zf_7_18, zln_9, zln_10, zln_15, zln_16, zln_17, zln_18, zln_19, zln_20, zln_21, zln_11, zln_12, zln_13, zln_14, zchild, zcnt, zc1b, zble, zbeq, z_push, z_ild, z_ald, z_ist, z_ast, z_inc, z_bin, z_dvn, z_un, z_dup, z_dup2, z_pop, z_if, z_cmp, z_ifnull, z_pnull, z_acn, z_gf, z_gfn, z_pf, z_pfz, z_pfr, z_iald, z_iast, z_aald, z_alen, z_ret, z_invV, z_invS, z_invH, z_throw, z_sw, zup_r]
  exact hK
