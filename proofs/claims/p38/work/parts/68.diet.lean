/-! DIETS -/
/-- the least points, by the energy -/
def zdt (S : ZS) (n : Nat) : Int32 := zct S (fun _ => 0) n n
theorem zct_at (S : ZS) (L0 : Nat → Int32) (n i : Nat) (h : i ≤ n) : zct S L0 (n + 1) i = zct S L0 n i := by
  rw [zct]
  exact if_neg (by omega)
theorem zct_low (S : ZS) (L0 : Nat → Int32) : ∀ (n i : Nat), i ≤ n → zct S L0 n i = zct S L0 i i
  | 0, i, h => by
    cases (show i = 0 by omega)
    rfl
  | n + 1, i, h => by
    by_cases e : i = n + 1
    · rw [e]
    · rw [zct_at S L0 n i (by omega), zct_low S L0 n i (by omega)]
theorem J.en {c : Nat} {S : ZS} (h : J c S) : ∀ g, g < 6 → zrg (S 2 g 2) 900 ∧ (S 2 g 0 = 1 → zbt (S 2 g 1) 1 24) := fun g hg => ⟨(h.2.1 g hg).2.1, fun e => by
  rcases (h.2.1 g hg).1 with k | k | k
  · rw [e] at k
    exact absurd k (by decide)
  · exact k.2
  · rw [e] at k
    exact absurd k (by decide)⟩
theorem zct_dt {S : ZS} (hen : ∀ g, g < 6 → zrg (S 2 g 2) 900 ∧ (S 2 g 0 = 1 → zbt (S 2 g 1) 1 24)) (L0 : Nat → Int32) {n : Nat} (hn : n ≤ 3000) : zct S L0 n n = zdt S n := by
  rw [(zct_eq (L0 := L0) (L0' := fun _ => 0) hen rfl n hn).1 n (Nat.le_refl _)]
  exact ((zct_eq (L0 := fun _ => 0) (L0' := fun _ => 0) hen rfl n hn).1 n (Nat.le_refl _)).symm
theorem zdt_rg {S : ZS} (hen : ∀ g, g < 6 → zrg (S 2 g 2) 900 ∧ (S 2 g 0 = 1 → zbt (S 2 g 1) 1 24)) (ho : ∃ g, g < 6 ∧ zoff S g) {n : Nat} (hn : n ≤ 3000) : 0 ≤ (zdt S n).toInt ∧ (zdt S n).toInt ≤ 72000 := by
  have := (zct_eq (L0 := fun _ => 0) (L0' := fun _ => 0) hen rfl n hn).2.1 ho n (Nat.le_refl _)
  unfold zdt
  omega
/-- the row that a step looks at -/
theorem zdt_s (S : ZS) (n : Nat) : zdt S (n + 1) = zlf S (zct S (fun _ => 0) n) (n + 1) 6 := by
  unfold zdt
  rw [zct]
  exact if_pos rfl
/-- one step, and the next: what is offered costs at least 1, and no less for more -/
theorem zlf_mono {S : ZS} (hen : ∀ g, g < 6 → zrg (S 2 g 2) 900 ∧ (S 2 g 0 = 1 → zbt (S 2 g 1) 1 24)) (ho : ∃ g, g < 6 ∧ zoff S g) {n : Nat} (hn : n + 2 ≤ 3000) (hM : ∀ i j, i ≤ j → j ≤ n + 1 → (zdt S i).toInt ≤ (zdt S j).toInt) : ∀ k, k ≤ 6 → (¬ (∃ g, g < k ∧ zoff S g) ∧ zlf S (zct S (fun _ => 0) n) (n + 1) k = -1 ∧ zlf S (zct S (fun _ => 0) (n + 1)) (n + 2) k = -1) ∨ ((∃ g, g < k ∧ zoff S g) ∧ 1 ≤ (zlf S (zct S (fun _ => 0) n) (n + 1) k).toInt ∧ (zlf S (zct S (fun _ => 0) n) (n + 1) k).toInt ≤ (zlf S (zct S (fun _ => 0) (n + 1)) (n + 2) k).toInt)
  | 0, _ => Or.inl ⟨fun ⟨g, hg, _⟩ => absurd hg (by omega), rfl, rfl⟩
  | k + 1, hk => by
    have ih := zlf_mono hen ho hn hM k (by omega)
    rw [zlf, zlf]
    by_cases hz : S 2 k 0 = 1 ∧ 0 < S 2 k 2
    · rw [if_pos hz, if_pos hz]
      refine Or.inr ⟨⟨k, by omega, hz⟩, ?_⟩
      obtain ⟨hx, hp⟩ := hen k (by omega)
      obtain ⟨p1, p2⟩ := zbt_i (lo := 1) (hi := 24) (by decide) (by decide) (hp hz.1)
      have hx0 := hz.2
      rw [zlt_iff, zti0] at hx0
      have f1 := (zfrm_i (e := n + 1) (x := S 2 k 2) (by omega) hx).2
      have f2 := (zfrm_i (e := n + 2) (x := S 2 k 2) (by omega) hx).2
      have b1 : zfrm (n + 1) (S 2 k 2) ≤ n := by split at f1 <;> omega
      have b2 : zfrm (n + 2) (S 2 k 2) ≤ n + 1 := by split at f2 <;> omega
      have b3 : zfrm (n + 1) (S 2 k 2) ≤ zfrm (n + 2) (S 2 k 2) := by split at f1 <;> split at f2 <;> omega
      rw [zct_low S _ n _ b1, zct_low S _ (n + 1) _ b2]
      rw [show zct S (fun _ => 0) (zfrm (n + 1) (S 2 k 2)) (zfrm (n + 1) (S 2 k 2)) = zdt S (zfrm (n + 1) (S 2 k 2)) from rfl, show zct S (fun _ => 0) (zfrm (n + 2) (S 2 k 2)) (zfrm (n + 2) (S 2 k 2)) = zdt S (zfrm (n + 2) (S 2 k 2)) from rfl]
      have m := hM _ _ b3 b2
      have r1 := zdt_rg hen ho (n := zfrm (n + 1) (S 2 k 2)) (by omega)
      have r2 := zdt_rg hen ho (n := zfrm (n + 2) (S 2 k 2)) (by omega)
      generalize zdt S (zfrm (n + 1) (S 2 k 2)) = u at *
      generalize zdt S (zfrm (n + 2) (S 2 k 2)) = v at *
      have s1 := zadd_i (a := S 2 k 1) (b := u) (by omega) (by omega)
      have s2 := zadd_i (a := S 2 k 1) (b := v) (by omega) (by omega)
      rcases ih with ⟨-, e1, e2⟩ | ⟨-, e1, e2⟩
      · rw [e1, e2, if_pos rfl, if_pos rfl, s1, s2]
        omega
      · generalize zlf S (zct S (fun _ => 0) n) (n + 1) k = x at *
        generalize zlf S (zct S (fun _ => 0) (n + 1)) (n + 2) k = y at *
        have nx : ¬ x = -1 := fun e => by
          rw [e] at e1
          exact absurd e1 (by decide)
        have ny : ¬ y = -1 := fun e => by
          rw [e] at e2
          have : (-1 : Int32).toInt = -1 := by decide
          omega
        rw [if_neg nx, if_neg ny]
        by_cases c1 : S 2 k 1 + u < x
        · rw [if_pos c1]
          rw [zlt_iff, s1] at c1
          by_cases c2 : S 2 k 1 + v < y
          · rw [if_pos c2, s1, s2]
            omega
          · rw [if_neg c2, s1]
            rw [zlt_iff, s2] at c2
            omega
        · rw [if_neg c1]
          rw [zlt_iff, s1] at c1
          by_cases c2 : S 2 k 1 + v < y
          · rw [if_pos c2, s2]
            omega
          · rw [if_neg c2]
            omega
    · rw [if_neg hz, if_neg hz]
      rcases ih with ⟨e0, e1, e2⟩ | ⟨⟨g, g1, g2⟩, e1, e2⟩
      · refine Or.inl ⟨fun ⟨g, g1, g2⟩ => ?_, e1, e2⟩
        by_cases e : g = k
        · rw [e] at g2
          exact hz g2
        · exact e0 ⟨g, by omega, g2⟩
      · exact Or.inr ⟨⟨g, by omega, g2⟩, e1, e2⟩
theorem zdt_0 (S : ZS) : zdt S 0 = 0 := by
  unfold zdt
  rw [zct]
  exact if_pos rfl
theorem zdt_mono {S : ZS} (hen : ∀ g, g < 6 → zrg (S 2 g 2) 900 ∧ (S 2 g 0 = 1 → zbt (S 2 g 1) 1 24)) (ho : ∃ g, g < 6 ∧ zoff S g) : ∀ n, n ≤ 3000 → ∀ i j, i ≤ j → j ≤ n → (zdt S i).toInt ≤ (zdt S j).toInt := by
  intro n
  induction n with
  | zero =>
    intro _ i j h1 h2
    cases (show i = 0 by omega)
    cases (show j = 0 by omega)
    exact Int.le_refl _
  | succ n ih =>
    intro hn i j h1 h2
    have ihn := ih (by omega)
    by_cases e : j = n + 1
    · subst e
      by_cases e2 : i = n + 1
      · rw [e2]
        exact Int.le_refl _
      · refine Int.le_trans (ihn i n (by omega) (Nat.le_refl _)) ?_
        rcases n with _ | n
        · rw [zdt_0, zti0]
          exact (zdt_rg hen ho (by omega)).1
        · rw [zdt_s S n, zdt_s S (n + 1)]
          rcases zlf_mono hen ho (n := n) (by omega) ihn 6 (Nat.le_refl _) with ⟨k, -⟩ | ⟨-, -, k⟩
          · exact absurd ho k
          · exact k
    · exact ihn i j h1 (by omega)
theorem zlf_pos {S : ZS} (hen : ∀ g, g < 6 → zrg (S 2 g 2) 900 ∧ (S 2 g 0 = 1 → zbt (S 2 g 1) 1 24)) (ho : ∃ g, g < 6 ∧ zoff S g) {n : Nat} (hn : n + 2 ≤ 3000) : 1 ≤ (zdt S (n + 1)).toInt := by
  rw [zdt_s]
  rcases zlf_mono hen ho hn (fun i j h1 h2 => zdt_mono hen ho (n + 1) (by omega) i j h1 h2) 6 (Nat.le_refl _) with ⟨k, -⟩ | ⟨-, k, -⟩
  · exact absurd ho k
  · exact k
/-- what the law says of diets -/
theorem zdt_law {S : ZS} (hen : ∀ g, g < 6 → zrg (S 2 g 2) 900 ∧ (S 2 g 0 = 1 → zbt (S 2 g 1) 1 24)) {n : Nat} (hn : n + 2 ≤ 3000) : (zdt S (n + 1) < 0 ↔ zdt S (n + 2) < 0) ∧ zdt S (n + 1) ≤ zdt S (n + 2) ∧ ¬ zdt S (n + 1) = 0 ∧ (¬ zdt S (n + 1) < 0 → zdt S 1 ≤ zdt S (n + 1)) := by
  by_cases ho : ∃ g, g < 6 ∧ zoff S g
  · have p := zlf_pos hen ho hn
    have m := zdt_mono hen ho (n + 2) hn
    have m1 := m (n + 1) (n + 2) (by omega) (by omega)
    have m2 := m 1 (n + 1) (by omega) (by omega)
    refine ⟨?_, ?_, ?_, fun _ => ?_⟩
    · rw [zlt_iff, zlt_iff, zti0]
      omega
    · rw [zle_iff]
      exact m1
    · rw [zeq_iff, zti0]
      omega
    · rw [zle_iff]
      exact m2
  · have e : ∀ k, zdt S (k + 1) = -1 := fun k => by
      rw [zdt_s]
      exact zlf_none S _ _ 6 ho
    rw [e, e]
    refine ⟨Iff.rfl, Int32.le_refl _, by decide, fun h => absurd (by decide) h⟩
set_option maxRecDepth 20000 in
set_option maxHeartbeats 8000000 in
theorem m_diet {c : Nat} {S : ZS} (h : J c S) {n : Nat} (h1 : 1 ≤ n) (hn : n ≤ 3000) : sp_X7_diet [zr 7 0, zi (nI n)] S (zR (fun v S' => J c S' ∧ zEq S S' ∧ S' 2 = S 2 ∧ v = zdt S n)) := by
  have hen := h.en
  have ha : zbt (nI n) 1 3000 := by
    have e3 : (3000 : Int32).toInt = 3000 := by decide
    have e1 : (1 : Int32).toInt = 1 := by decide
    refine ⟨?_, ?_⟩
    · rw [zle_iff, zti_nI (by omega), e1]
      omega
    · rw [zle_iff, zti_nI (by omega), e3]
      omega
  have z0 : vp_in (0 : Int32) 3001 := vp_in_nI (n := 0) (by decide) (by decide)
  simp [sp_X7_diet, zb_X7_diet_0, zsp, zin, znth, ztake, zset, zcont, zcontH, zf_0_0, zf_0_2, zf_1_0, zf_1_1, zf_1_2, zf_1_3, zf_1_4, zf_2_0, zf_2_1, zf_2_2, zf_2_3, zf_2_4, zf_3_0, zf_3_1, zf_3_2, zf_3_3, zf_3_4, zf_3_5, zf_3_6, zf_3_7, zf_3_8, zf_3_9, zf_3_10, zf_4_0, zf_4_1, zf_4_2, zf_4_3, zf_4_4, zf_5_0, zf_5_1, zf_5_2, zf_5_3, zf_5_4, zf_5_5, zf_6_0, zf_6_1, zf_6_2, zf_7_0, zf_7_1, zf_7_2, zf_7_3, zf_7_4, zf_7_5, zf_7_6, zf_7_7, zf_7_8, zf_7_9, zf_7_10, zf_7_11, zf_7_12, zf_7_13, zf_7_14, zf_7_15, zf_7_16, zf_7_17, zf_7_18, zln_9, zln_10, zln_15, zln_16, zln_17, zln_18, zln_19, zln_20, zln_21, zln_11, zln_12, zln_13, zln_14, zchild, zcnt, zc1b, zble, zbeq, z_push, z_ild, z_ald, z_ist, z_ast, z_inc, z_bin, z_dvn, z_un, z_dup, z_dup2, z_pop, z_if, z_cmp, z_ifnull, z_pnull, z_acn, z_gf, z_gfn, z_pf, z_pfz, z_pfr, z_iald, z_iast, z_aald, z_alen, z_ret, z_invV, z_invS, z_invH, z_throw, z_sw, zup_r, p_X7_knownGood, p_X7_requireRange, p_X7_requireRoom, p_X7_requireEnough, p_X7_requireAlive, p_X7_requireBook, p_X3_isDead, p_X3_isWithoutBook, p_X7_pointsLeft, p_X7_changeGood, vp01, zup2, ha, z0]
  refine p_X7_diet n h1 hn (fun g hg => (hen g hg).1) ?_
  refine zR_i.mpr ?_
  obtain ⟨h1, h2, h3, h4, h5, h6, h7, h8⟩ := h
  have j : ∀ G, J c (zrowk S 15 0 G) := fun G => ⟨h1.fr (fun f hf => rfl), h2.fr rfl, h3.fr rfl rfl rfl, h4.fr rfl rfl rfl, h5.fr rfl rfl rfl rfl, h6.fr rfl rfl (fun f => ⟨rfl, rfl⟩), h7.fr rfl rfl rfl rfl rfl rfl rfl rfl, h8.fr rfl rfl (fun f hf hg => rfl) rfl (fun j => rfl) (fun g => rfl)⟩
  exact ⟨j _, ⟨⟨rfl, rfl, rfl, rfl⟩, rfl⟩, rfl, zct_dt hen _ hn⟩
