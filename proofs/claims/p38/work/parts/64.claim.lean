/-! CLAIMS AND ADVANCES -/
/-- can the shop s be supplied with d of the good g -/
def zcan (S : ZS) (s g : Nat) (d : Int32) : Prop := zspl (fun i => S 0 i 1) (fun i => S 9 i g) ((S 6 s 1).toNatClampNeg + 1) (S 6 s 1).toNatClampNeg d = true
theorem J.A {c : Nat} {S : ZS} (h : J c S) {e : Nat} (he : e < nD S) : S 0 e 1 < 0 ∨ (S 0 e 1).toNatClampNeg < e := by
  rcases h.ch e he with h1 | h1
  · exact Or.inl h1.1
  · exact Or.inr h1.2.2
theorem zlk_spl {S : ZS} {g N : Nat} (hN : ∀ d, d < N → (d = 0 ∧ S 0 d 1 = -1) ∨ (0 < d ∧ vp_in (S 0 d 1) d)) (hG : ∀ d, d < N → 0 ≤ (S 9 d g).toInt) (h6 : N ≤ 6) : ∀ (m d : Nat) (w n l t : Int32), d < m → d < N → (¬ t = 0 ∨ l = 0) → (zspl (fun i => S 0 i 1) (fun i => S 9 i g) m d w = true ↔ (¬ (zlkk S g m d w n l t).2.2.2 = 0 ∨ (zlkk S g m d w n l t).2.2.1 = 0)) := by
  intro m
  induction m with
  | zero => intro d w n l t hd; omega
  | succ m ih =>
    intro d w n l t hd hdN ht
    rw [zspl, zlkk]
    by_cases h1 : S 9 d g < w
    · rw [if_pos h1, if_pos h1]
      rcases hN d hdN with ⟨rfl, h2⟩ | ⟨h0, h2⟩
      · have h3 : S 0 0 1 < 0 := by rw [h2]; decide
        rw [if_pos h3, if_pos h3]
        have hw : ¬ w - S 9 0 g = 0 := fun e => by
          have := hG 0 hdN
          rw [zlt_iff] at h1
          have e2 := zsub_i (a := w) (b := S 9 0 g) (by have := Int32.toInt_lt (S 9 0 g); omega) (by have := Int32.toInt_lt w; omega)
          rw [e, zti0] at e2
          omega
        simp [hw, nI]
      · obtain ⟨k, hk, e⟩ := vp_in_of h2 (by omega)
        have h3 : ¬ S 0 d 1 < 0 := by
          rw [e, zlt_iff, zti0, zti_nI (by omega)]
          omega
        have h4 : (S 0 d 1).toNatClampNeg = k := by rw [e, nI_clamp (by omega)]
        rw [if_neg h3, if_neg h3, h4]
        refine ih k _ _ _ _ (by omega) (by omega) (Or.inl ?_)
        rcases (show d = 1 ∨ d = 2 ∨ d = 3 ∨ d = 4 ∨ d = 5 by omega) with rfl | rfl | rfl | rfl | rfl <;> decide
    · rw [if_neg h1, if_neg h1]
      simp [ht]
theorem J.can {c : Nat} {S : ZS} (h : J c S) {a b : Nat} (ha : a < nS S) (hb : b < 6) (d : Int32) : zcan S a b d ↔ (¬ (zlkk S b ((S 6 a 1).toNatClampNeg + 1) (S 6 a 1).toNatClampNeg d 0 0 (-1)).2.2.2 = 0 ∨ (zlkk S b ((S 6 a 1).toNatClampNeg + 1) (S 6 a 1).toNatClampNeg d 0 0 (-1)).2.2.1 = 0) := by
  have d2 := h.1.2.1.2
  have n1 := (vp_clamp (by omega) (h.2.2.2.2.1.1 a ha).2).1
  exact zlk_spl (N := nD S) (fun d hd => (h.2.2.2.1 d hd).1) (fun d hd => ((h.2.2.2.1 d hd).2.2 b hb).1) d2 _ _ d 0 0 (-1) (Nat.lt_succ_self _) n1 (Or.inr rfl)
set_option maxRecDepth 20000 in
set_option maxHeartbeats 4000000 in
theorem Jsup {c : Nat} {S T : ZS} (h : J c S) {a b : Nat} {d : Int32} (ha : a < nS S) (hb : b < 6) (hd : zbt d 1 99999) (hs : zcan S a b d) (e7 : ∀ f, T 7 0 f = S 7 0 f) (e0 : T 0 = S 0) (e1 : T 1 = S 1) (e2 : T 2 = S 2) (e3 : T 3 = S 3) (e4 : T 4 = S 4) (e6 : T 6 = S 6) (e10 : T 10 = S 10) (e11 : T 11 = S 11) (e12 : T 12 = S 12) (e13 : T 13 = S 13) (e14 : T 14 = S 14)
    (e9 : ∀ i f, T 9 i f = if f = b then zgv (fun i => S 0 i 1) ((S 6 a 1).toNatClampNeg + 1) (S 6 a 1).toNatClampNeg d (fun i => S 9 i b) i else S 9 i f) (e5 : ∀ i f, ¬ i = 6 * a + b → T 5 i f = S 5 i f) (e50 : T 5 (6 * a + b) 0 = S 5 (6 * a + b) 0 + d) (hj : JHs (c + 1) T (6 * a + b)) : J (c + 1) T ∧ zEq S T := by
  obtain ⟨d1, d2⟩ := h.1.2.1
  have n1 := (vp_clamp (by omega) (h.2.2.2.2.1.1 a ha).2).1
  have hg := zgr99 hd
  have hA : ∀ e, e < nD S → (fun i => S 0 i 1) e < 0 ∨ ((fun i => S 0 i 1) e).toNatClampNeg < nD S := fun e he => (h.A he).imp id (fun k => Nat.lt_trans k he)
  have hG : ∀ e, e < nD S → 0 ≤ ((fun i => S 9 i b) e).toInt := fun e he => ((h.2.2.2.1 e he).2.2 b hb).1
  have hgv := zgv_eq (N := nD S) hA ((S 6 a 1).toNatClampNeg + 1) (S 6 a 1).toNatClampNeg d (fun i => S 9 i b) (fun i => S 9 i b) n1 (by omega) (fun i hi => ⟨rfl, hG i hi⟩)
  have hsum := zgv_sum (A := fun i => S 0 i 1) (N := nD S) ((S 6 a 1).toNatClampNeg + 1) (S 6 a 1).toNatClampNeg d (fun i => S 9 i b) (fun e he => h.A (by omega)) (fun i hi => hG i (by omega)) n1 (by omega) hs
  obtain ⟨h1, h2, h3, h4, h5, h6, h7, h8⟩ := h.up
  have hn : nD T = nD S := by unfold nD; rw [e7]
  refine ⟨⟨h1.fr (fun f _ => e7 f), h2.fr e2, h3.fr (e7 7) (e7 9) e3, h4.put (e7 8) e0 (fun i g hi hg => ?_), h5.put (e7 8) (e7 9) e6 (6 * a + b) e5 hj, h6.fr (e7 8) (e7 10) (fun f => by rw [e1]; exact ⟨rfl, rfl⟩), h7.fr (by rw [e4]) (e7 13) (e7 7) e11 e12 e13 e14 e10, ?_⟩, ⟨e7 7, e7 8, e7 9, e7 10⟩, e7 18⟩
  · rw [e9]
    by_cases e : g = b
    · rw [if_pos e]
      have hq := (hgv i).1 hi
      have hr := (h4 i hi).2.2 b hb
      exact ⟨hq.2.1, Int.le_trans hq.2.2 hr.2⟩
    · rw [if_neg e]
      exact (h4 i hi).2.2 g hg
  · refine JM.mk (x15 := 0) (xd := -d) (xh := d) (x16 := 0) (x17 := 0) (xb := 0) h8 (by rw [e7, Int32.add_zero]) ?_ (zsh_pu ha hb (e7 9) (fun i hi => e5 i 0 hi) e50) (by rw [e7, Int32.add_zero]) (by rw [e7, Int32.add_zero]) ((zsb_fr (fun j => by rw [e2])).trans (Int32.add_zero _).symm) (by grind)
    have hrow : ∀ i, i < nD S → zsu (fun g => T 9 i g) 6 = zsu (fun g => S 9 i g) 6 + (zgv (fun i => S 0 i 1) ((S 6 a 1).toNatClampNeg + 1) (S 6 a 1).toNatClampNeg d (fun i => S 9 i b) i + -(S 9 i b)) := fun i hi => by
      rw [zsu_put (f := fun g => S 9 i g) (f' := fun g => T 9 i g) (i := b) hb (fun g hg hn => by rw [e9, if_neg hn]), e9, if_pos rfl]
      grind
    unfold zsd
    rw [hn, zsu_congr hrow, zsu_plus, zsu_plus, hsum]
    have hneg : zsu (fun i => -(S 9 i b)) (nD S) = -(zsu (fun i => S 9 i b) (nD S)) := by
      generalize nD S = n
      induction n with
      | zero => show (0 : Int32) = -0; decide
      | succ n ih => rw [zsu, zsu, ih]; grind
    rw [hneg]
    grind
/-- the shelf behind a supply -/
theorem JHs.sup {c : Nat} {S T : ZS} {j : Nat} {d : Int32} (h : JHs c S j) (hc : c ≤ 500) (hd : zbt d 1 99999) (e0 : T 5 j 0 = S 5 j 0 + d) (e1 : zrg (T 5 j 1) (99999 * (c + 1))) (e2 : zrg (T 5 j 2) (99999 * (c + 1))) (e3 : T 5 j 3 = S 5 j 3 + d) (e4 : T 5 j 4 = S 5 j 4) (e5 : T 5 j 5 = S 5 j 5) : JHs (c + 1) T j := by
  obtain ⟨g1, g2, g3, g4, g5⟩ := h
  refine ⟨?_, e1, e2, ?_, by rw [e5]; exact g5.mono (by omega)⟩
  · rw [e0]
    exact (g1.add (zrg99 hd) (by omega)).mono (by omega)
  · rw [e0, e3, e4, zring2]
    exact g4.mono (by omega)
set_option maxRecDepth 20000 in
set_option maxHeartbeats 4000000 in
theorem m_claim {c : Nat} {S : ZS} {K : ZK} (h : J c S) (hc : c ≤ 500) {a b : Nat} {d : Int32} (ha : a < nS S) (hb : b < 6) (hd : zbt d 1 99999) (k1 : d ≤ S 5 (6 * a + b) 1 → zcan S a b d → ∀ v S', J (c + 1) S' ∧ zEq S S' ∧ v = S 5 (6 * a + b) 0 + d ∧ S' 5 (6 * a + b) 0 = S 5 (6 * a + b) 0 + d ∧ zmi S' (6 * a + b) = zmi S (6 * a + b) → K (.inl (some (.inl v))) S') (k2 : ¬ (d ≤ S 5 (6 * a + b) 1 ∧ zcan S a b d) → K (.inr 3) S) : sp_X7_claim [zr 7 0, zi (nI a), zi (nI b), zi d] S K := by
  obtain ⟨r1, r2⟩ := h.1.2.2.1
  obtain ⟨d1, d2⟩ := h.1.2.1
  obtain ⟨ha1, ha2⟩ := znn ha (by omega)
  obtain ⟨hb1, hb2⟩ := zn6 hb
  have n1 := (vp_clamp (by omega) (h.2.2.2.2.1.1 a ha).2).1
  have hj : 6 * a + b < 6 * nS S := by omega
  have hgj := h.2.2.2.2.1.2 _ hj
  have fin : d ≤ S 5 (6 * a + b) 1 → zcan S a b d → ∀ T, T 5 (6 * a + b) 0 = S 5 (6 * a + b) 0 + d → J (c + 1) T ∧ zEq S T → T 5 (6 * a + b) 0 = S 5 (6 * a + b) 0 + d → zmi T (6 * a + b) = zmi S (6 * a + b) → K (.inl (some (.inl (T 5 (6 * a + b) 0)))) T := fun q7 q6 T q1 q2 q3 q4 => k1 q7 q6 _ T ⟨q2.1, q2.2, q1, q3, q4⟩
  by_cases hm : d ≤ S 5 (6 * a + b) 1
  · simp [sp_X7_claim, zb_X7_claim_0, zsp, zin, znth, ztake, zset, zcont, zcontH, zf_0_0, zf_0_2, zf_1_0, zf_1_1, zf_1_2, zf_1_3, zf_1_4, zf_2_0, zf_2_1, zf_2_2, zf_2_3, zf_2_4, zf_3_0, zf_3_1, zf_3_2, zf_3_3, zf_3_4, zf_3_5, zf_3_6, zf_3_7, zf_3_8, zf_3_9, zf_3_10, zf_4_0, zf_4_1, zf_4_2, zf_4_3, zf_4_4, zf_5_0, zf_5_1, zf_5_2, zf_5_3, zf_5_4, zf_5_5, zf_6_0, zf_6_1, zf_6_2, zf_7_0, zf_7_1, zf_7_2, zf_7_3, zf_7_4, zf_7_5, zf_7_6, zf_7_7, zf_7_8, zf_7_9, zf_7_10, zf_7_11, zf_7_12, zf_7_13, zf_7_14, zf_7_15, zf_7_16, zf_7_17, zf_7_18, zln_9, zln_10, zln_15, zln_16, zln_17, zln_18, zln_19, zln_20, zln_21, zln_11, zln_12, zln_13, zln_14, zchild, zcnt, zc1b, zble, zbeq, z_push, z_ild, z_ald, z_ist, z_ast, z_inc, z_bin, z_dvn, z_un, z_dup, z_dup2, z_pop, z_if, z_cmp, z_ifnull, z_pnull, z_acn, z_gf, z_gfn, z_pf, z_pfz, z_pfr, z_iald, z_iast, z_aald, z_alen, z_ret, z_invV, z_invS, z_invH, z_throw, z_sw, zup_r, p_X7_knownGood, p_X7_requireRange, p_X7_requireRoom, p_X7_requireEnough, p_X7_requireAlive, p_X7_requireBook, p_X3_isDead, p_X3_isWithoutBook, p_X7_pointsLeft, p_X7_changeGood, vp01, zup2, p_X7_knownShop r1 r2, nS_f, ha1, ha2, hb1, hb2, hd, hm, ha, hb]
    refine p_X7_reqS d2 h.ch _ d _ hb1 n1 ?_
    rw [hb2]
    by_cases hs : zcan S a b d
    · have hs' := hs
      unfold zcan at hs'
      rw [if_pos hs']
      simp [sp_X7_claim, zb_X7_claim_0, zsp, zin, znth, ztake, zset, zcont, zcontH, zf_0_0, zf_0_2, zf_1_0, zf_1_1, zf_1_2, zf_1_3, zf_1_4, zf_2_0, zf_2_1, zf_2_2, zf_2_3, zf_2_4, zf_3_0, zf_3_1, zf_3_2, zf_3_3, zf_3_4, zf_3_5, zf_3_6, zf_3_7, zf_3_8, zf_3_9, zf_3_10, zf_4_0, zf_4_1, zf_4_2, zf_4_3, zf_4_4, zf_5_0, zf_5_1, zf_5_2, zf_5_3, zf_5_4, zf_5_5, zf_6_0, zf_6_1, zf_6_2, zf_7_0, zf_7_1, zf_7_2, zf_7_3, zf_7_4, zf_7_5, zf_7_6, zf_7_7, zf_7_8, zf_7_9, zf_7_10, zf_7_11, zf_7_12, zf_7_13, zf_7_14, zf_7_15, zf_7_16, zf_7_17, zf_7_18, zln_9, zln_10, zln_15, zln_16, zln_17, zln_18, zln_19, zln_20, zln_21, zln_11, zln_12, zln_13, zln_14, zchild, zcnt, zc1b, zble, zbeq, z_push, z_ild, z_ald, z_ist, z_ast, z_inc, z_bin, z_dvn, z_un, z_dup, z_dup2, z_pop, z_if, z_cmp, z_ifnull, z_pnull, z_acn, z_gf, z_gfn, z_pf, z_pfz, z_pfr, z_iald, z_iast, z_aald, z_alen, z_ret, z_invV, z_invS, z_invH, z_throw, z_sw, zup_r, p_X7_knownGood, p_X7_requireRange, p_X7_requireRoom, p_X7_requireEnough, p_X7_requireAlive, p_X7_requireBook, p_X3_isDead, p_X3_isWithoutBook, p_X7_pointsLeft, p_X7_changeGood, vp01, zup2, ha1, ha2, hb1, hb2, ha, hb]
      refine p_X7_supply ?_ ?_ _ d _ hb1 ?_ ?_
      · exact d2
      · exact h.ch
      · exact n1
      rw [hb2]
      have hg := zgr99 hd
      refine fin hm hs _ ?_ (Jsup h ha hb hd hs (fun f => rfl) rfl rfl rfl rfl rfl rfl rfl rfl rfl rfl rfl (fun i f => ?_) (fun i f hi => ?_) ?_ (hgj.sup hc hd ?_ ?_ ?_ ?_ ?_ ?_)) ?_ ?_
      · simp [zup, zrow9]
      · simp [zup, zrow9]
      · simp [zup, zrow9, hi]
      · simp [zup, zrow9]
      · simp [zup, zrow9]
      · simp [zup, zrow9]
        exact (hgj.2.1.subi (by omega) (zle_iff.mp hm)).mono (by omega)
      · simp [zup, zrow9]
        exact hgj.2.2.1.mono (by omega)
      · simp [zup, zrow9]
      · simp [zup, zrow9]
      · simp [zup, zrow9]
      · simp [zup, zrow9]
      · simp [zup, zrow9, zmi, zring2]
    · have hs' := hs
      unfold zcan at hs'
      rw [if_neg hs']
      exact k2 (fun q => hs q.2)
  · have := k2 (fun q => hm q.1)
    simp [sp_X7_claim, zb_X7_claim_0, zsp, zin, znth, ztake, zset, zcont, zcontH, zf_0_0, zf_0_2, zf_1_0, zf_1_1, zf_1_2, zf_1_3, zf_1_4, zf_2_0, zf_2_1, zf_2_2, zf_2_3, zf_2_4, zf_3_0, zf_3_1, zf_3_2, zf_3_3, zf_3_4, zf_3_5, zf_3_6, zf_3_7, zf_3_8, zf_3_9, zf_3_10, zf_4_0, zf_4_1, zf_4_2, zf_4_3, zf_4_4, zf_5_0, zf_5_1, zf_5_2, zf_5_3, zf_5_4, zf_5_5, zf_6_0, zf_6_1, zf_6_2, zf_7_0, zf_7_1, zf_7_2, zf_7_3, zf_7_4, zf_7_5, zf_7_6, zf_7_7, zf_7_8, zf_7_9, zf_7_10, zf_7_11, zf_7_12, zf_7_13, zf_7_14, zf_7_15, zf_7_16, zf_7_17, zf_7_18, zln_9, zln_10, zln_15, zln_16, zln_17, zln_18, zln_19, zln_20, zln_21, zln_11, zln_12, zln_13, zln_14, zchild, zcnt, zc1b, zble, zbeq, z_push, z_ild, z_ald, z_ist, z_ast, z_inc, z_bin, z_dvn, z_un, z_dup, z_dup2, z_pop, z_if, z_cmp, z_ifnull, z_pnull, z_acn, z_gf, z_gfn, z_pf, z_pfz, z_pfr, z_iald, z_iast, z_aald, z_alen, z_ret, z_invV, z_invS, z_invH, z_throw, z_sw, zup_r, p_X7_knownGood, p_X7_requireRange, p_X7_requireRoom, p_X7_requireEnough, p_X7_requireAlive, p_X7_requireBook, p_X3_isDead, p_X3_isWithoutBook, p_X7_pointsLeft, p_X7_changeGood, vp01, zup2, p_X7_knownShop r1 r2, nS_f, ha1, ha2, hb1, hb2, hd, hm, ha, hb]
    exact this
set_option maxRecDepth 20000 in
set_option maxHeartbeats 4000000 in
theorem m_advance {c : Nat} {S : ZS} {K : ZK} (h : J c S) (hc : c ≤ 500) {a b : Nat} {d : Int32} (ha : a < nS S) (hb : b < 6) (hd : zbt d 1 99999) (k1 : zcan S a b d → ∀ v S', J (c + 1) S' ∧ zEq S S' ∧ v = S 5 (6 * a + b) 2 + d ∧ S' 5 (6 * a + b) 0 = S 5 (6 * a + b) 0 + d ∧ zmi S' (6 * a + b) = zmi S (6 * a + b) → K (.inl (some (.inl v))) S') (k2 : ¬ (zcan S a b d) → K (.inr 3) S) : sp_X7_advance [zr 7 0, zi (nI a), zi (nI b), zi d] S K := by
  obtain ⟨r1, r2⟩ := h.1.2.2.1
  obtain ⟨d1, d2⟩ := h.1.2.1
  obtain ⟨ha1, ha2⟩ := znn ha (by omega)
  obtain ⟨hb1, hb2⟩ := zn6 hb
  have n1 := (vp_clamp (by omega) (h.2.2.2.2.1.1 a ha).2).1
  have hj : 6 * a + b < 6 * nS S := by omega
  have hgj := h.2.2.2.2.1.2 _ hj
  have fin : zcan S a b d → ∀ T, T 5 (6 * a + b) 2 = S 5 (6 * a + b) 2 + d → J (c + 1) T ∧ zEq S T → T 5 (6 * a + b) 0 = S 5 (6 * a + b) 0 + d → zmi T (6 * a + b) = zmi S (6 * a + b) → K (.inl (some (.inl (T 5 (6 * a + b) 2)))) T := fun  q6 T q1 q2 q3 q4 => k1  q6 _ T ⟨q2.1, q2.2, q1, q3, q4⟩
  simp [sp_X7_advance, zb_X7_advance_0, zsp, zin, znth, ztake, zset, zcont, zcontH, zf_0_0, zf_0_2, zf_1_0, zf_1_1, zf_1_2, zf_1_3, zf_1_4, zf_2_0, zf_2_1, zf_2_2, zf_2_3, zf_2_4, zf_3_0, zf_3_1, zf_3_2, zf_3_3, zf_3_4, zf_3_5, zf_3_6, zf_3_7, zf_3_8, zf_3_9, zf_3_10, zf_4_0, zf_4_1, zf_4_2, zf_4_3, zf_4_4, zf_5_0, zf_5_1, zf_5_2, zf_5_3, zf_5_4, zf_5_5, zf_6_0, zf_6_1, zf_6_2, zf_7_0, zf_7_1, zf_7_2, zf_7_3, zf_7_4, zf_7_5, zf_7_6, zf_7_7, zf_7_8, zf_7_9, zf_7_10, zf_7_11, zf_7_12, zf_7_13, zf_7_14, zf_7_15, zf_7_16, zf_7_17, zf_7_18, zln_9, zln_10, zln_15, zln_16, zln_17, zln_18, zln_19, zln_20, zln_21, zln_11, zln_12, zln_13, zln_14, zchild, zcnt, zc1b, zble, zbeq, z_push, z_ild, z_ald, z_ist, z_ast, z_inc, z_bin, z_dvn, z_un, z_dup, z_dup2, z_pop, z_if, z_cmp, z_ifnull, z_pnull, z_acn, z_gf, z_gfn, z_pf, z_pfz, z_pfr, z_iald, z_iast, z_aald, z_alen, z_ret, z_invV, z_invS, z_invH, z_throw, z_sw, zup_r, p_X7_knownGood, p_X7_requireRange, p_X7_requireRoom, p_X7_requireEnough, p_X7_requireAlive, p_X7_requireBook, p_X3_isDead, p_X3_isWithoutBook, p_X7_pointsLeft, p_X7_changeGood, vp01, zup2, p_X7_knownShop r1 r2, nS_f, ha1, ha2, hb1, hb2, hd, ha, hb]
  refine p_X7_reqS d2 h.ch _ d _ hb1 n1 ?_
  rw [hb2]
  by_cases hs : zcan S a b d
  · have hs' := hs
    unfold zcan at hs'
    rw [if_pos hs']
    simp [sp_X7_advance, zb_X7_advance_0, zsp, zin, znth, ztake, zset, zcont, zcontH, zf_0_0, zf_0_2, zf_1_0, zf_1_1, zf_1_2, zf_1_3, zf_1_4, zf_2_0, zf_2_1, zf_2_2, zf_2_3, zf_2_4, zf_3_0, zf_3_1, zf_3_2, zf_3_3, zf_3_4, zf_3_5, zf_3_6, zf_3_7, zf_3_8, zf_3_9, zf_3_10, zf_4_0, zf_4_1, zf_4_2, zf_4_3, zf_4_4, zf_5_0, zf_5_1, zf_5_2, zf_5_3, zf_5_4, zf_5_5, zf_6_0, zf_6_1, zf_6_2, zf_7_0, zf_7_1, zf_7_2, zf_7_3, zf_7_4, zf_7_5, zf_7_6, zf_7_7, zf_7_8, zf_7_9, zf_7_10, zf_7_11, zf_7_12, zf_7_13, zf_7_14, zf_7_15, zf_7_16, zf_7_17, zf_7_18, zln_9, zln_10, zln_15, zln_16, zln_17, zln_18, zln_19, zln_20, zln_21, zln_11, zln_12, zln_13, zln_14, zchild, zcnt, zc1b, zble, zbeq, z_push, z_ild, z_ald, z_ist, z_ast, z_inc, z_bin, z_dvn, z_un, z_dup, z_dup2, z_pop, z_if, z_cmp, z_ifnull, z_pnull, z_acn, z_gf, z_gfn, z_pf, z_pfz, z_pfr, z_iald, z_iast, z_aald, z_alen, z_ret, z_invV, z_invS, z_invH, z_throw, z_sw, zup_r, p_X7_knownGood, p_X7_requireRange, p_X7_requireRoom, p_X7_requireEnough, p_X7_requireAlive, p_X7_requireBook, p_X3_isDead, p_X3_isWithoutBook, p_X7_pointsLeft, p_X7_changeGood, vp01, zup2, ha1, ha2, hb1, hb2, ha, hb]
    refine p_X7_supply ?_ ?_ _ d _ hb1 ?_ ?_
    · exact d2
    · exact h.ch
    · exact n1
    rw [hb2]
    have hg := zgr99 hd
    refine fin hs _ ?_ (Jsup h ha hb hd hs (fun f => rfl) rfl rfl rfl rfl rfl rfl rfl rfl rfl rfl rfl (fun i f => ?_) (fun i f hi => ?_) ?_ (hgj.sup hc hd ?_ ?_ ?_ ?_ ?_ ?_)) ?_ ?_
    · simp [zup, zrow9]
    · simp [zup, zrow9]
    · simp [zup, zrow9, hi]
    · simp [zup, zrow9]
    · simp [zup, zrow9]
    · simp [zup, zrow9]
      exact hgj.2.1.mono (by omega)
    · simp [zup, zrow9]
      exact (hgj.2.2.1.add (zrg99 hd) (by omega)).mono (by omega)
    · simp [zup, zrow9]
    · simp [zup, zrow9]
    · simp [zup, zrow9]
    · simp [zup, zrow9]
    · simp [zup, zrow9, zmi, zring2]
  · have hs' := hs
    unfold zcan at hs'
    rw [if_neg hs']
    exact k2 (fun q => hs q)
