/-- what the depots from d upwards lack: number, lack, highest, and the rest -/
def zlkk (S : ZS) (g : Nat) : Nat → Nat → Int32 → Int32 → Int32 → Int32 → Int32 × Int32 × Int32 × Int32
  | 0, _, w, n, l, t => (w, n, l, t)
  | k + 1, d, w, n, l, t => if S 9 d g < w then (if S 0 d 1 < 0 then (w - S 9 d g, n + 1, w - S 9 d g, nI d) else zlkk S g k (S 0 d 1).toNatClampNeg (w - S 9 d g) (n + 1) (w - S 9 d g) (nI d)) else (w, n, l, t)
def zlka (w : Int32) (r : Int32 × Int32 × Int32) : Int32 := if w = 0 then r.1 else if w = 1 then r.2.1 else r.2.2
theorem z_loop_P {body : ZP → ZP} {K : ZK} (P : Nat → List (Option ZV) → ZS → Prop) (step : ∀ m L S, P m L S → ∀ k : ZP, (∀ m', m = m' + 1 → ∀ L' S', P m' L' S' → k L' [] S' K) → body k L [] S K) {m : Nat} {L : List (Option ZV)} {S : ZS} (h : P m L S) : z_loop body L [] S K := by
  have key : ∀ m L S, P m L S → z_iter body (m + 1) L [] S K := by
    intro m
    induction m with
    | zero => exact fun L S h => step 0 L S h _ (fun m' e => absurd e (by omega))
    | succ m ih =>
      intro L S h
      refine step (m + 1) L S h _ (fun m' e L' S' h' => ?_)
      cases (show m = m' by omega)
      exact ih L' S' h'
  exact ⟨m + 1, key m L S h⟩
theorem zlt0 {x : Int32} : x < 0 ∨ ¬ x < 0 := Decidable.em _
/-- the chain upwards is sound -/
def zch (S : ZS) : Prop := ∀ d, d < nD S → (S 0 d 1 < 0 ∧ S 0 d 1 = -1) ∨ (¬ S 0 d 1 < 0 ∧ ¬ S 0 d 1 = -1 ∧ (S 0 d 1).toNatClampNeg < d)
def zlkw (x : Int32) (r : Int32 × Int32 × Int32 × Int32) : Int32 := if x = 0 then r.2.1 else if x = 1 then r.2.2.1 else r.2.2.2
def zlkm (x : Int32) (r : Int32 × Int32 × Int32 × Int32) : Int32 := if x = 0 then r.2.1 else if x = 1 then (if r.2.1 = 0 then 0 else r.1) else r.2.2.2
theorem zlk_end {S : ZS} {K : ZK} (a b d x n l t w : Int32) (y : Option ZV) (s g : Nat) (hK : K (.inl (some (.inl (zlkw x (w, n, l, t))))) S) : zb_X7_lacks_99 [some (zr 7 0), some (zi a), some (zi b), some (zi d), some (zi x), some (zr 6 s), some (zi n), some (zi l), some (zi t), some (zi w), y] [] S K := by
  unfold zlkw at hK
  by_cases h0 : x = 0
  · simp [zb_X7_lacks_99, zb_X7_lacks_122, zsp, zin, znth, ztake, zset, zcont, zcontH, zf_0_0, zf_0_2, zf_1_0, zf_1_1, zf_1_2, zf_1_3, zf_1_4, zf_2_0, zf_2_1, zf_2_2, zf_2_3, zf_2_4, zf_3_0, zf_3_1, zf_3_2, zf_3_3, zf_3_4, zf_3_5, zf_3_6, zf_3_7, zf_3_8, zf_3_9, zf_3_10, zf_4_0, zf_4_1, zf_4_2, zf_4_3, zf_4_4, zf_5_0, zf_5_1, zf_5_2, zf_5_3, zf_5_4, zf_5_5, zf_6_0, zf_6_1, zf_6_2, zf_7_0, zf_7_1, zf_7_2, zf_7_3, zf_7_4, zf_7_5, zf_7_6, zf_7_7, zf_7_8, zf_7_9, zf_7_10, zf_7_11, zf_7_12, zf_7_13, zf_7_14, zf_7_15, zf_7_16, zf_7_17, zf_7_18, zln_9, zln_10, zln_15, zln_16, zln_17, zln_18, zln_19, zln_20, zln_21, zln_11, zln_12, zln_13, zln_14, zchild, zcnt, zc1b, zble, zbeq, z_push, z_ild, z_ald, z_ist, z_ast, z_inc, z_bin, z_dvn, z_un, z_dup, z_dup2, z_pop, z_if, z_cmp, z_ifnull, z_pnull, z_acn, z_gf, z_gfn, z_pf, z_pfz, z_pfr, z_iald, z_iast, z_aald, z_alen, z_ret, z_invV, z_invS, z_invH, z_throw, z_sw, zup_r, h0]
    simpa [h0] using hK
  · by_cases h1 : x = 1
    · simp [zb_X7_lacks_99, zb_X7_lacks_122, zsp, zin, znth, ztake, zset, zcont, zcontH, zf_0_0, zf_0_2, zf_1_0, zf_1_1, zf_1_2, zf_1_3, zf_1_4, zf_2_0, zf_2_1, zf_2_2, zf_2_3, zf_2_4, zf_3_0, zf_3_1, zf_3_2, zf_3_3, zf_3_4, zf_3_5, zf_3_6, zf_3_7, zf_3_8, zf_3_9, zf_3_10, zf_4_0, zf_4_1, zf_4_2, zf_4_3, zf_4_4, zf_5_0, zf_5_1, zf_5_2, zf_5_3, zf_5_4, zf_5_5, zf_6_0, zf_6_1, zf_6_2, zf_7_0, zf_7_1, zf_7_2, zf_7_3, zf_7_4, zf_7_5, zf_7_6, zf_7_7, zf_7_8, zf_7_9, zf_7_10, zf_7_11, zf_7_12, zf_7_13, zf_7_14, zf_7_15, zf_7_16, zf_7_17, zf_7_18, zln_9, zln_10, zln_15, zln_16, zln_17, zln_18, zln_19, zln_20, zln_21, zln_11, zln_12, zln_13, zln_14, zchild, zcnt, zc1b, zble, zbeq, z_push, z_ild, z_ald, z_ist, z_ast, z_inc, z_bin, z_dvn, z_un, z_dup, z_dup2, z_pop, z_if, z_cmp, z_ifnull, z_pnull, z_acn, z_gf, z_gfn, z_pf, z_pfz, z_pfr, z_iald, z_iast, z_aald, z_alen, z_ret, z_invV, z_invS, z_invH, z_throw, z_sw, zup_r, h1]
      simpa [h1] using hK
    · simp [zb_X7_lacks_99, zb_X7_lacks_122, zsp, zin, znth, ztake, zset, zcont, zcontH, zf_0_0, zf_0_2, zf_1_0, zf_1_1, zf_1_2, zf_1_3, zf_1_4, zf_2_0, zf_2_1, zf_2_2, zf_2_3, zf_2_4, zf_3_0, zf_3_1, zf_3_2, zf_3_3, zf_3_4, zf_3_5, zf_3_6, zf_3_7, zf_3_8, zf_3_9, zf_3_10, zf_4_0, zf_4_1, zf_4_2, zf_4_3, zf_4_4, zf_5_0, zf_5_1, zf_5_2, zf_5_3, zf_5_4, zf_5_5, zf_6_0, zf_6_1, zf_6_2, zf_7_0, zf_7_1, zf_7_2, zf_7_3, zf_7_4, zf_7_5, zf_7_6, zf_7_7, zf_7_8, zf_7_9, zf_7_10, zf_7_11, zf_7_12, zf_7_13, zf_7_14, zf_7_15, zf_7_16, zf_7_17, zf_7_18, zln_9, zln_10, zln_15, zln_16, zln_17, zln_18, zln_19, zln_20, zln_21, zln_11, zln_12, zln_13, zln_14, zchild, zcnt, zc1b, zble, zbeq, z_push, z_ild, z_ald, z_ist, z_ast, z_inc, z_bin, z_dvn, z_un, z_dup, z_dup2, z_pop, z_if, z_cmp, z_ifnull, z_pnull, z_acn, z_gf, z_gfn, z_pf, z_pfz, z_pfr, z_iald, z_iast, z_aald, z_alen, z_ret, z_invV, z_invS, z_invH, z_throw, z_sw, zup_r, h0, h1]
      simpa [h0, h1] using hK
set_option maxRecDepth 20000 in
set_option maxHeartbeats 1000000 in
theorem p_X7_lacks {S : ZS} {K : ZK} (hn : nD S ≤ 6) (hch : zch S) (hno : ∀ e, e < nD S → S 0 e 0 = nI e) (a b d x : Int32) (s : Nat) (hb : vp_in b 6) {e : Nat} (he : e < nD S) (hK : K (.inl (some (.inl (zlkw x (zlkk S b.toNatClampNeg (e + 1) e d 0 0 (-1)))))) S) : z_loop (fun J46 => zb_X7_lacks_46 J46) [some (zr 7 0), some (zi a), some (zi b), some (zi d), some (zi x), some (zr 6 s), some (zi 0), some (zi 0), some (zi (-1)), some (zi d), some (zr 0 e)] [] S K := by
  refine z_loop_P (m := e + 1) (fun m L S' => S' = S ∧ ∃ w n l t, (L = [some (zr 7 0), some (zi a), some (zi b), some (zi d), some (zi x), some (zr 6 s), some (zi n), some (zi l), some (zi t), some (zi w), some zn] ∧ K (.inl (some (.inl (zlkw x (w, n, l, t))))) S) ∨ (∃ e, e < m ∧ e < nD S ∧ L = [some (zr 7 0), some (zi a), some (zi b), some (zi d), some (zi x), some (zr 6 s), some (zi n), some (zi l), some (zi t), some (zi w), some (zr 0 e)] ∧ K (.inl (some (.inl (zlkw x (zlkk S b.toNatClampNeg m e w n l t))))) S)) ?_ ⟨rfl, d, 0, 0, -1, Or.inr ⟨e, by omega, he, rfl, hK⟩⟩
  rintro m L S' ⟨rfl, w, n, l, t, ⟨rfl, hK⟩ | ⟨e, hm, he, rfl, hK⟩⟩ k hk
  · have := zlk_end (S := S') a b d x n l t w (some zn) s 0 hK
    simp [zb_X7_lacks_46, zsp, zin, znth, ztake, zset, zcont, zcontH, zf_0_0, zf_0_2, zf_1_0, zf_1_1, zf_1_2, zf_1_3, zf_1_4, zf_2_0, zf_2_1, zf_2_2, zf_2_3, zf_2_4, zf_3_0, zf_3_1, zf_3_2, zf_3_3, zf_3_4, zf_3_5, zf_3_6, zf_3_7, zf_3_8, zf_3_9, zf_3_10, zf_4_0, zf_4_1, zf_4_2, zf_4_3, zf_4_4, zf_5_0, zf_5_1, zf_5_2, zf_5_3, zf_5_4, zf_5_5, zf_6_0, zf_6_1, zf_6_2, zf_7_0, zf_7_1, zf_7_2, zf_7_3, zf_7_4, zf_7_5, zf_7_6, zf_7_7, zf_7_8, zf_7_9, zf_7_10, zf_7_11, zf_7_12, zf_7_13, zf_7_14, zf_7_15, zf_7_16, zf_7_17, zf_7_18, zln_9, zln_10, zln_15, zln_16, zln_17, zln_18, zln_19, zln_20, zln_21, zln_11, zln_12, zln_13, zln_14, zchild, zcnt, zc1b, zble, zbeq, z_push, z_ild, z_ald, z_ist, z_ast, z_inc, z_bin, z_dvn, z_un, z_dup, z_dup2, z_pop, z_if, z_cmp, z_ifnull, z_pnull, z_acn, z_gf, z_gfn, z_pf, z_pfz, z_pfr, z_iald, z_iast, z_aald, z_alen, z_ret, z_invV, z_invS, z_invH, z_throw, z_sw, zup_r]
    exact this
  · obtain ⟨m, rfl⟩ : ∃ m', m = m' + 1 := ⟨m - 1, by omega⟩
    rw [zlkk] at hK
    by_cases hl : S' 9 e b.toNatClampNeg < w
    · rw [if_pos hl] at hK
      rcases hch e he with ⟨u1, u2⟩ | ⟨u1, u2, u3⟩
      · rw [if_pos u1] at hK
        simp [zb_X7_lacks_46, zsp, zin, znth, ztake, zset, zcont, zcontH, zf_0_0, zf_0_2, zf_1_0, zf_1_1, zf_1_2, zf_1_3, zf_1_4, zf_2_0, zf_2_1, zf_2_2, zf_2_3, zf_2_4, zf_3_0, zf_3_1, zf_3_2, zf_3_3, zf_3_4, zf_3_5, zf_3_6, zf_3_7, zf_3_8, zf_3_9, zf_3_10, zf_4_0, zf_4_1, zf_4_2, zf_4_3, zf_4_4, zf_5_0, zf_5_1, zf_5_2, zf_5_3, zf_5_4, zf_5_5, zf_6_0, zf_6_1, zf_6_2, zf_7_0, zf_7_1, zf_7_2, zf_7_3, zf_7_4, zf_7_5, zf_7_6, zf_7_7, zf_7_8, zf_7_9, zf_7_10, zf_7_11, zf_7_12, zf_7_13, zf_7_14, zf_7_15, zf_7_16, zf_7_17, zf_7_18, zln_9, zln_10, zln_15, zln_16, zln_17, zln_18, zln_19, zln_20, zln_21, zln_11, zln_12, zln_13, zln_14, zchild, zcnt, zc1b, zble, zbeq, z_push, z_ild, z_ald, z_ist, z_ast, z_inc, z_bin, z_dvn, z_un, z_dup, z_dup2, z_pop, z_if, z_cmp, z_ifnull, z_pnull, z_acn, z_gf, z_gfn, z_pf, z_pfz, z_pfr, z_iald, z_iast, z_aald, z_alen, z_ret, z_invV, z_invS, z_invH, z_throw, z_sw, zup_r, hb, Int32.not_le.mpr hl, u1, Int32.not_le.mpr u1, hno e he]
        exact hk m rfl _ _ ⟨rfl, _, _, _, _, Or.inl ⟨rfl, hK⟩⟩
      · rw [if_neg u1] at hK
        simp [zb_X7_lacks_46, zsp, zin, znth, ztake, zset, zcont, zcontH, zf_0_0, zf_0_2, zf_1_0, zf_1_1, zf_1_2, zf_1_3, zf_1_4, zf_2_0, zf_2_1, zf_2_2, zf_2_3, zf_2_4, zf_3_0, zf_3_1, zf_3_2, zf_3_3, zf_3_4, zf_3_5, zf_3_6, zf_3_7, zf_3_8, zf_3_9, zf_3_10, zf_4_0, zf_4_1, zf_4_2, zf_4_3, zf_4_4, zf_5_0, zf_5_1, zf_5_2, zf_5_3, zf_5_4, zf_5_5, zf_6_0, zf_6_1, zf_6_2, zf_7_0, zf_7_1, zf_7_2, zf_7_3, zf_7_4, zf_7_5, zf_7_6, zf_7_7, zf_7_8, zf_7_9, zf_7_10, zf_7_11, zf_7_12, zf_7_13, zf_7_14, zf_7_15, zf_7_16, zf_7_17, zf_7_18, zln_9, zln_10, zln_15, zln_16, zln_17, zln_18, zln_19, zln_20, zln_21, zln_11, zln_12, zln_13, zln_14, zchild, zcnt, zc1b, zble, zbeq, z_push, z_ild, z_ald, z_ist, z_ast, z_inc, z_bin, z_dvn, z_un, z_dup, z_dup2, z_pop, z_if, z_cmp, z_ifnull, z_pnull, z_acn, z_gf, z_gfn, z_pf, z_pfz, z_pfr, z_iald, z_iast, z_aald, z_alen, z_ret, z_invV, z_invS, z_invH, z_throw, z_sw, zup_r, hb, Int32.not_le.mpr hl, u1, Int32.not_lt.mp u1, hno e he]
        exact hk m rfl _ _ ⟨rfl, _, _, _, _, Or.inr ⟨_, by omega, by omega, rfl, hK⟩⟩
    · rw [if_neg hl] at hK
      have := zlk_end (S := S') a b d x n l t w (some (zr 0 e)) s 0 hK
      simp [zb_X7_lacks_46, zsp, zin, znth, ztake, zset, zcont, zcontH, zf_0_0, zf_0_2, zf_1_0, zf_1_1, zf_1_2, zf_1_3, zf_1_4, zf_2_0, zf_2_1, zf_2_2, zf_2_3, zf_2_4, zf_3_0, zf_3_1, zf_3_2, zf_3_3, zf_3_4, zf_3_5, zf_3_6, zf_3_7, zf_3_8, zf_3_9, zf_3_10, zf_4_0, zf_4_1, zf_4_2, zf_4_3, zf_4_4, zf_5_0, zf_5_1, zf_5_2, zf_5_3, zf_5_4, zf_5_5, zf_6_0, zf_6_1, zf_6_2, zf_7_0, zf_7_1, zf_7_2, zf_7_3, zf_7_4, zf_7_5, zf_7_6, zf_7_7, zf_7_8, zf_7_9, zf_7_10, zf_7_11, zf_7_12, zf_7_13, zf_7_14, zf_7_15, zf_7_16, zf_7_17, zf_7_18, zln_9, zln_10, zln_15, zln_16, zln_17, zln_18, zln_19, zln_20, zln_21, zln_11, zln_12, zln_13, zln_14, zchild, zcnt, zc1b, zble, zbeq, z_push, z_ild, z_ald, z_ist, z_ast, z_inc, z_bin, z_dvn, z_un, z_dup, z_dup2, z_pop, z_if, z_cmp, z_ifnull, z_pnull, z_acn, z_gf, z_gfn, z_pf, z_pfz, z_pfr, z_iald, z_iast, z_aald, z_alen, z_ret, z_invV, z_invS, z_invH, z_throw, z_sw, zup_r, hb, Int32.not_lt.mp hl]
      exact this
/-- the model's depots are the program's -/
def zdm (S T : ZS) : Prop := ∀ d, d < nD S → T 22 26 d = S 0 d 1 ∧ ∀ g, g < 6 → T 22 27 (6 * d + g) = S 9 d g
theorem nI_neg1 {e : Nat} (h : e < 1000) : ¬ nI e = -1 := fun h' => by
  have := (nI_pos (n := e) (by omega))
  rw [h'] at this
  exact this (by decide)
theorem nz_eq {x : Int32} (h : ¬ x < 0) : x = nI x.toNatClampNeg := by
  have h1 : 0 ≤ x.toInt := by
    rw [zlt_iff, zti0] at h
    omega
  have h2 : x.toInt < 2147483648 := Int32.toInt_lt x
  have h3 : x.toNatClampNeg = x.toInt.toNat := rfl
  rw [zeq_iff, h3, zti_nI (by omega)]
  omega
theorem zlk_eq {S : ZS} {g : Nat} : ∀ (m d : Nat) (w n l t : Int32), (∃ q, n = nI q ∧ q + m ≤ 1000) → l = (if n = 0 then 0 else w) → (zlkk S g m d w n l t).2.2.1 = if (zlkk S g m d w n l t).2.1 = 0 then 0 else (zlkk S g m d w n l t).1
  | 0, d, w, n, l, t, _, h => h
  | m + 1, d, w, n, l, t, ⟨q, hq, hm⟩, h => by
    have hn1 : ¬ n + 1 = 0 := fun e => by
      rw [hq, show nI q + 1 = nI (q + 1) from nI_add q 1] at e
      have hq1 : q + 1 < 2 ^ 31 := by omega
      have := (nI_eq (a := q + 1) (b := 0) hq1 (by decide)).mp e
      omega
    rw [zlkk]
    by_cases h1 : S 9 d g < w
    · rw [if_pos h1]
      by_cases h2 : S 0 d 1 < 0
      · rw [if_pos h2]
        exact (if_neg hn1).symm
      · rw [if_neg h2]
        exact zlk_eq m _ _ _ _ _ ⟨q + 1, by rw [hq]; exact nI_add q 1, by omega⟩ (if_neg hn1).symm
    · rw [if_neg h1]
      exact h
