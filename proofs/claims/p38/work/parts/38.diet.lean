/-- from where -/
def zfrm (e : Nat) (x : Int32) : Nat := (zm0 (nI e - x)).toNatClampNeg
theorem zfrm_i {e : Nat} {x : Int32} (he : e ≤ 3000) (hx : zrg x 900) : vp_in (zm0 (nI e - x)) 3001 ∧ (zfrm e x : Int) = (if (e : Int) < x.toInt then 0 else e - x.toInt) := by
  obtain ⟨h1, h2⟩ := hx
  have e1 := zti_nI (p := e) (by omega)
  have e2 := zsub_i (a := nI e) (b := x) (by omega) (by omega)
  have e3 : (zm0 (nI e - x)).toInt = if (e : Int) < x.toInt then 0 else e - x.toInt := by
    unfold zm0
    by_cases h : nI e - x < 0
    · rw [if_pos h]
      rw [zlt_iff, zti0] at h
      rw [if_pos (by omega), zti0]
    · rw [if_neg h]
      rw [zlt_iff, zti0] at h
      rw [if_neg (by omega)]
      omega
  have h3 : vp_in (zm0 (nI e - x)) 3001 := by
    rw [vp_iff (by decide), e3]
    split <;> omega
  refine ⟨h3, ?_⟩
  rw [zfrm, (vp_clamp (by decide) h3).2.2, e3]
def zoff (S : ZS) (g : Nat) : Prop := S 2 g 0 = 1 ∧ 0 < S 2 g 2
def zlf (S : ZS) (L : Nat → Int32) (e : Nat) : Nat → Int32
  | 0 => -1
  | g + 1 => if S 2 g 0 = 1 ∧ 0 < S 2 g 2 then (if zlf S L e g = -1 then S 2 g 1 + L (zfrm e (S 2 g 2)) else if S 2 g 1 + L (zfrm e (S 2 g 2)) < zlf S L e g then S 2 g 1 + L (zfrm e (S 2 g 2)) else zlf S L e g) else zlf S L e g
def zlm (S : ZS) (L : Nat → Int32) (e : Nat) : Nat → Int32
  | 0 => -1
  | g + 1 => if (S 2 g 0 = 1 ∧ 0 < S 2 g 2) ∧ ¬ L (zfrm e (S 2 g 2)) = -1 then (if zlm S L e g = -1 ∨ L (zfrm e (S 2 g 2)) + S 2 g 1 < zlm S L e g then L (zfrm e (S 2 g 2)) + S 2 g 1 else zlm S L e g) else zlm S L e g
def zct (S : ZS) (L0 : Nat → Int32) : Nat → Nat → Int32
  | 0 => zg1 L0 0 0
  | n + 1 => zg1 (zct S L0 n) (n + 1) (zlf S (zct S L0 n) (n + 1) 6)
def zmt (S : ZS) (L0 : Nat → Int32) : Nat → Nat → Int32
  | 0 => L0
  | n + 1 => zg1 (zmt S L0 n) (n + 1) (zlm S (zmt S L0 n) (n + 1) 6)
theorem zlf_none (S : ZS) (L : Nat → Int32) (e : Nat) : ∀ k, ¬ (∃ g, g < k ∧ zoff S g) → zlf S L e k = -1
  | 0, _ => rfl
  | k + 1, h => by
    rw [zlf, if_neg (fun ho : (S 2 k 0 = 1 ∧ 0 < S 2 k 2) => h ⟨k, by omega, ho⟩)]
    exact zlf_none S L e k (fun ⟨g, hg, hgo⟩ => h ⟨g, by omega, hgo⟩)
theorem zlf_eq {S : ZS} {L L' : Nat → Int32} {n : Nat} (hn : n < 3000) (hen : ∀ g, g < 6 → zrg (S 2 g 2) 900 ∧ (S 2 g 0 = 1 → zbt (S 2 g 1) 1 24)) (hL : ∀ i, i ≤ n → L i = L' i) (hb : (∃ g, g < 6 ∧ zoff S g) → ∀ i, i ≤ n → 0 ≤ (L i).toInt ∧ (L i).toInt ≤ 24 * i) : ∀ k, k ≤ 6 → zlf S L (n + 1) k = zlm S L' (n + 1) k ∧ ((∃ g, g < k ∧ zoff S g) → 0 ≤ (zlf S L (n + 1) k).toInt ∧ (zlf S L (n + 1) k).toInt ≤ 24 * (n + 1))
  | 0, _ => ⟨rfl, fun ⟨g, hg, _⟩ => absurd hg (by omega)⟩
  | k + 1, hk => by
    obtain ⟨i1, i2⟩ := zlf_eq hn hen hL hb k (by omega)
    rw [zlf, zlm, ← i1]
    by_cases ho : S 2 k 0 = 1 ∧ 0 < S 2 k 2
    · obtain ⟨p1, p2⟩ := zbt_i (lo := 1) (hi := 24) (by decide) (by decide) ((hen k (by omega)).2 ho.1)
      have hx := (hen k (by omega)).1
      obtain ⟨f1, f2⟩ := zfrm_i (e := n + 1) (x := S 2 k 2) (by omega) hx
      have ho2 := ho.2
      rw [zlt_iff, zti0] at ho2
      have f3 : zfrm (n + 1) (S 2 k 2) ≤ n := by
        split at f2 <;> omega
      have f4 := hL _ f3
      obtain ⟨f5, f6⟩ := hb ⟨k, by omega, ho⟩ _ f3
      have f7 : ¬ L' (zfrm (n + 1) (S 2 k 2)) = -1 := fun e => by
        rw [f4, e] at f5
        exact absurd f5 (by decide)
      have f8 := zadd_i (a := S 2 k 1) (b := L (zfrm (n + 1) (S 2 k 2))) (by omega) (by omega)
      rw [if_pos ho, if_pos (show (S 2 k 0 = 1 ∧ 0 < S 2 k 2) ∧ ¬ L' (zfrm (n + 1) (S 2 k 2)) = -1 from ⟨ho, f7⟩), ← f4, Int32.add_comm (L _) (S 2 k 1)]
      have hc : 0 ≤ (S 2 k 1 + L (zfrm (n + 1) (S 2 k 2))).toInt ∧ (S 2 k 1 + L (zfrm (n + 1) (S 2 k 2))).toInt ≤ 24 * (n + 1) := by
        rw [f8]
        omega
      by_cases h1 : zlf S L (n + 1) k = -1
      · rw [if_pos h1, if_pos (Or.inl h1)]
        exact ⟨rfl, fun _ => hc⟩
      · rw [if_neg h1]
        by_cases h2 : S 2 k 1 + L (zfrm (n + 1) (S 2 k 2)) < zlf S L (n + 1) k
        · rw [if_pos h2, if_pos (Or.inr h2)]
          exact ⟨rfl, fun _ => hc⟩
        · rw [if_neg h2, if_neg (not_or.mpr ⟨h1, h2⟩)]
          refine ⟨rfl, fun _ => ?_⟩
          by_cases hex : ∃ g, g < k ∧ zoff S g
          · exact i2 hex
          · exact absurd (zlf_none S L (n + 1) k hex) h1
    · rw [if_neg ho, if_neg (fun h => ho h.1)]
      refine ⟨rfl, fun ⟨g, hg, hgo⟩ => i2 ⟨g, ?_, hgo⟩⟩
      by_cases e : g = k
      · subst e
        exact absurd hgo ho
      · omega
theorem zct_eq {S : ZS} {L0 L0' : Nat → Int32} (hen : ∀ g, g < 6 → zrg (S 2 g 2) 900 ∧ (S 2 g 0 = 1 → zbt (S 2 g 1) 1 24)) (h0 : L0' 0 = 0) : ∀ n, n ≤ 3000 → (∀ i, i ≤ n → zct S L0 n i = zmt S L0' n i) ∧ ((∃ g, g < 6 ∧ zoff S g) → ∀ i, i ≤ n → 0 ≤ (zct S L0 n i).toInt ∧ (zct S L0 n i).toInt ≤ 24 * i) ∧ zmt S L0' n 0 = 0
  | 0, _ => by
    have e : zct S L0 0 0 = 0 := by
      show (if (0 : Nat) = 0 then (0 : Int32) else L0 0) = 0
      exact if_pos rfl
    refine ⟨fun i hi => ?_, fun _ i hi => ?_, h0⟩
    · cases (show i = 0 by omega)
      rw [e]
      exact h0.symm
    · cases (show i = 0 by omega)
      rw [e, zti0]
      omega
  | n + 1, hn => by
    obtain ⟨i1, i2, i3⟩ := zct_eq hen h0 n (by omega)
    obtain ⟨j1, j2⟩ := zlf_eq (n := n) (by omega) hen i1 i2 6 (by omega)
    refine ⟨fun i hi => ?_, fun hex i hi => ?_, ?_⟩
    · rw [zct, zmt, zg1, zg1]
      by_cases e : i = n + 1
      · rw [if_pos e, if_pos e, j1]
      · rw [if_neg e, if_neg e]
        exact i1 i (by omega)
    · rw [zct, zg1]
      by_cases e : i = n + 1
      · rw [if_pos e, e]
        exact j2 hex
      · rw [if_neg e]
        exact i2 hex i (by omega)
    · rw [zmt, zg1, if_neg (by omega)]
      exact i3
set_option maxRecDepth 20000 in
set_option maxHeartbeats 1000000 in
theorem p_X7_leastFor {S : ZS} {K : ZK} (e : Nat) (he : e ≤ 3000) (hen : ∀ g, g < 6 → zrg (S 2 g 2) 900) (hK : K (.inl (some (.inl (zlf S (fun i => S 15 0 i) e 6)))) S) : sp_X7_leastFor [zr 7 0, zi (nI e)] S K := by
  have loop : z_loop (fun J4 => zb_X7_leastFor_4 J4) [some (zr 7 0), some (zi (nI e)), some (zi (-1)), some (zi (nI 0)), none, none, none] [] S K := by
    refine z_loop_P (m := 6) (fun m L S' => S' = S ∧ ∃ g y4 y5 y6, g + m = 6 ∧ L = [some (zr 7 0), some (zi (nI e)), some (zi (zlf S (fun i => S 15 0 i) e g)), some (zi (nI g)), y4, y5, y6]) ?_ ⟨rfl, 0, none, none, none, rfl, rfl⟩
    rintro m L S' ⟨rfl, g, y4, y5, y6, hm, rfl⟩ k hk
    rcases m with _ | m
    · cases (show g = 6 by omega)
      have e2 : (6 : Int32) ≤ nI 6 := by decide
      simp [zb_X7_leastFor_4, zsp, zin, znth, ztake, zset, zcont, zcontH, zf_0_0, zf_0_2, zf_1_0, zf_1_1, zf_1_2, zf_1_3, zf_1_4, zf_2_0, zf_2_1, zf_2_2, zf_2_3, zf_2_4, zf_3_0, zf_3_1, zf_3_2, zf_3_3, zf_3_4, zf_3_5, zf_3_6, zf_3_7, zf_3_8, zf_3_9, zf_3_10, zf_4_0, zf_4_1, zf_4_2, zf_4_3, zf_4_4, zf_5_0, zf_5_1, zf_5_2, zf_5_3, zf_5_4, zf_5_5, zf_6_0, zf_6_1, zf_6_2, zf_7_0, zf_7_1, zf_7_2, zf_7_3, zf_7_4, zf_7_5, zf_7_6, zf_7_7, zf_7_8, zf_7_9, zf_7_10, zf_7_11, zf_7_12, zf_7_13, zf_7_14, zf_7_15, zf_7_16, zf_7_17, zf_7_18, zln_9, zln_10, zln_15, zln_16, zln_17, zln_18, zln_19, zln_20, zln_21, zln_11, zln_12, zln_13, zln_14, zchild, zcnt, zc1b, zble, zbeq, z_push, z_ild, z_ald, z_ist, z_ast, z_inc, z_bin, z_dvn, z_un, z_dup, z_dup2, z_pop, z_if, z_cmp, z_ifnull, z_pnull, z_acn, z_gf, z_gfn, z_pf, z_pfz, z_pfr, z_iald, z_iast, z_aald, z_alen, z_ret, z_invV, z_invS, z_invH, z_throw, z_sw, zup_r, e2]
      exact hK
    · have e1 : nI g + 1 = nI (g + 1) := nI_add g 1
      have e2 : ¬ (6 : Int32) ≤ nI g := zle_n (show g < 6 by omega) (by decide)
      have e3 := vp_in_nI (show g < 6 by omega) (show 6 < 2147483648 by decide)
      have e4 := nI_clamp (show g < 2 ^ 31 by omega)
      have e5 : g < 6 := by omega
      have e6 := (zfrm_i he (hen g e5)).1
      have key := fun y4 y5 y6 => hk m rfl _ _ ⟨rfl, g + 1, y4, y5, y6, by omega, rfl⟩
      simp only [zlf] at key
      by_cases h1 : S' 2 g 0 = 1
      · by_cases h2 : S' 2 g 2 ≤ 0
        · rw [if_neg (fun h => absurd h.2 (Int32.not_lt.mpr h2))] at key
          simp [zb_X7_leastFor_4, zb_X7_leastFor_80, zsp, zin, znth, ztake, zset, zcont, zcontH, zf_0_0, zf_0_2, zf_1_0, zf_1_1, zf_1_2, zf_1_3, zf_1_4, zf_2_0, zf_2_1, zf_2_2, zf_2_3, zf_2_4, zf_3_0, zf_3_1, zf_3_2, zf_3_3, zf_3_4, zf_3_5, zf_3_6, zf_3_7, zf_3_8, zf_3_9, zf_3_10, zf_4_0, zf_4_1, zf_4_2, zf_4_3, zf_4_4, zf_5_0, zf_5_1, zf_5_2, zf_5_3, zf_5_4, zf_5_5, zf_6_0, zf_6_1, zf_6_2, zf_7_0, zf_7_1, zf_7_2, zf_7_3, zf_7_4, zf_7_5, zf_7_6, zf_7_7, zf_7_8, zf_7_9, zf_7_10, zf_7_11, zf_7_12, zf_7_13, zf_7_14, zf_7_15, zf_7_16, zf_7_17, zf_7_18, zln_9, zln_10, zln_15, zln_16, zln_17, zln_18, zln_19, zln_20, zln_21, zln_11, zln_12, zln_13, zln_14, zchild, zcnt, zc1b, zble, zbeq, z_push, z_ild, z_ald, z_ist, z_ast, z_inc, z_bin, z_dvn, z_un, z_dup, z_dup2, z_pop, z_if, z_cmp, z_ifnull, z_pnull, z_acn, z_gf, z_gfn, z_pf, z_pfz, z_pfr, z_iald, z_iast, z_aald, z_alen, z_ret, z_invV, z_invS, z_invH, z_throw, z_sw, zup_r, e2, e3, e4, e5, e1, h1, h2]
          exact key _ _ _
        · rw [if_pos ⟨h1, Int32.not_le.mp h2⟩] at key
          by_cases h3 : zlf S' (fun i => S' 15 0 i) e g = -1
          · rw [if_pos h3] at key
            simp [zb_X7_leastFor_4, zb_X7_leastFor_79, zb_X7_leastFor_80, zsp, zin, znth, ztake, zset, zcont, zcontH, zf_0_0, zf_0_2, zf_1_0, zf_1_1, zf_1_2, zf_1_3, zf_1_4, zf_2_0, zf_2_1, zf_2_2, zf_2_3, zf_2_4, zf_3_0, zf_3_1, zf_3_2, zf_3_3, zf_3_4, zf_3_5, zf_3_6, zf_3_7, zf_3_8, zf_3_9, zf_3_10, zf_4_0, zf_4_1, zf_4_2, zf_4_3, zf_4_4, zf_5_0, zf_5_1, zf_5_2, zf_5_3, zf_5_4, zf_5_5, zf_6_0, zf_6_1, zf_6_2, zf_7_0, zf_7_1, zf_7_2, zf_7_3, zf_7_4, zf_7_5, zf_7_6, zf_7_7, zf_7_8, zf_7_9, zf_7_10, zf_7_11, zf_7_12, zf_7_13, zf_7_14, zf_7_15, zf_7_16, zf_7_17, zf_7_18, zln_9, zln_10, zln_15, zln_16, zln_17, zln_18, zln_19, zln_20, zln_21, zln_11, zln_12, zln_13, zln_14, zchild, zcnt, zc1b, zble, zbeq, z_push, z_ild, z_ald, z_ist, z_ast, z_inc, z_bin, z_dvn, z_un, z_dup, z_dup2, z_pop, z_if, z_cmp, z_ifnull, z_pnull, z_acn, z_gf, z_gfn, z_pf, z_pfz, z_pfr, z_iald, z_iast, z_aald, z_alen, z_ret, z_invV, z_invS, z_invH, z_throw, z_sw, zup_r, z_mm, zm0_mx, e2, e3, e4, e5, e1, h1, h2, h3, e6]
            exact key _ _ _
          · rw [if_neg h3] at key
            simp [zb_X7_leastFor_4, zb_X7_leastFor_79, zb_X7_leastFor_80, zsp, zin, znth, ztake, zset, zcont, zcontH, zf_0_0, zf_0_2, zf_1_0, zf_1_1, zf_1_2, zf_1_3, zf_1_4, zf_2_0, zf_2_1, zf_2_2, zf_2_3, zf_2_4, zf_3_0, zf_3_1, zf_3_2, zf_3_3, zf_3_4, zf_3_5, zf_3_6, zf_3_7, zf_3_8, zf_3_9, zf_3_10, zf_4_0, zf_4_1, zf_4_2, zf_4_3, zf_4_4, zf_5_0, zf_5_1, zf_5_2, zf_5_3, zf_5_4, zf_5_5, zf_6_0, zf_6_1, zf_6_2, zf_7_0, zf_7_1, zf_7_2, zf_7_3, zf_7_4, zf_7_5, zf_7_6, zf_7_7, zf_7_8, zf_7_9, zf_7_10, zf_7_11, zf_7_12, zf_7_13, zf_7_14, zf_7_15, zf_7_16, zf_7_17, zf_7_18, zln_9, zln_10, zln_15, zln_16, zln_17, zln_18, zln_19, zln_20, zln_21, zln_11, zln_12, zln_13, zln_14, zchild, zcnt, zc1b, zble, zbeq, z_push, z_ild, z_ald, z_ist, z_ast, z_inc, z_bin, z_dvn, z_un, z_dup, z_dup2, z_pop, z_if, z_cmp, z_ifnull, z_pnull, z_acn, z_gf, z_gfn, z_pf, z_pfz, z_pfr, z_iald, z_iast, z_aald, z_alen, z_ret, z_invV, z_invS, z_invH, z_throw, z_sw, zup_r, z_mm, zm0_mx, e2, e3, e4, e5, e1, h1, h2, h3, e6]
            exact key _ _ _
      · rw [if_neg (fun h => h1 h.1)] at key
        simp [zb_X7_leastFor_4, zb_X7_leastFor_80, zsp, zin, znth, ztake, zset, zcont, zcontH, zf_0_0, zf_0_2, zf_1_0, zf_1_1, zf_1_2, zf_1_3, zf_1_4, zf_2_0, zf_2_1, zf_2_2, zf_2_3, zf_2_4, zf_3_0, zf_3_1, zf_3_2, zf_3_3, zf_3_4, zf_3_5, zf_3_6, zf_3_7, zf_3_8, zf_3_9, zf_3_10, zf_4_0, zf_4_1, zf_4_2, zf_4_3, zf_4_4, zf_5_0, zf_5_1, zf_5_2, zf_5_3, zf_5_4, zf_5_5, zf_6_0, zf_6_1, zf_6_2, zf_7_0, zf_7_1, zf_7_2, zf_7_3, zf_7_4, zf_7_5, zf_7_6, zf_7_7, zf_7_8, zf_7_9, zf_7_10, zf_7_11, zf_7_12, zf_7_13, zf_7_14, zf_7_15, zf_7_16, zf_7_17, zf_7_18, zln_9, zln_10, zln_15, zln_16, zln_17, zln_18, zln_19, zln_20, zln_21, zln_11, zln_12, zln_13, zln_14, zchild, zcnt, zc1b, zble, zbeq, z_push, z_ild, z_ald, z_ist, z_ast, z_inc, z_bin, z_dvn, z_un, z_dup, z_dup2, z_pop, z_if, z_cmp, z_ifnull, z_pnull, z_acn, z_gf, z_gfn, z_pf, z_pfz, z_pfr, z_iald, z_iast, z_aald, z_alen, z_ret, z_invV, z_invS, z_invH, z_throw, z_sw, zup_r, e2, e3, e4, e5, e1, h1]
        exact key _ _ _
  simp [sp_X7_leastFor, zb_X7_leastFor_0, zsp, zin, znth, ztake, zset, zcont, zcontH, zf_0_0, zf_0_2, zf_1_0, zf_1_1, zf_1_2, zf_1_3, zf_1_4, zf_2_0, zf_2_1, zf_2_2, zf_2_3, zf_2_4, zf_3_0, zf_3_1, zf_3_2, zf_3_3, zf_3_4, zf_3_5, zf_3_6, zf_3_7, zf_3_8, zf_3_9, zf_3_10, zf_4_0, zf_4_1, zf_4_2, zf_4_3, zf_4_4, zf_5_0, zf_5_1, zf_5_2, zf_5_3, zf_5_4, zf_5_5, zf_6_0, zf_6_1, zf_6_2, zf_7_0, zf_7_1, zf_7_2, zf_7_3, zf_7_4, zf_7_5, zf_7_6, zf_7_7, zf_7_8, zf_7_9, zf_7_10, zf_7_11, zf_7_12, zf_7_13, zf_7_14, zf_7_15, zf_7_16, zf_7_17, zf_7_18, zln_9, zln_10, zln_15, zln_16, zln_17, zln_18, zln_19, zln_20, zln_21, zln_11, zln_12, zln_13, zln_14, zchild, zcnt, zc1b, zble, zbeq, z_push, z_ild, z_ald, z_ist, z_ast, z_inc, z_bin, z_dvn, z_un, z_dup, z_dup2, z_pop, z_if, z_cmp, z_ifnull, z_pnull, z_acn, z_gf, z_gfn, z_pf, z_pfz, z_pfr, z_iald, z_iast, z_aald, z_alen, z_ret, z_invV, z_invS, z_invH, z_throw, z_sw, zup_r]
  exact loop
