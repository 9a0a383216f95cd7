/-! THE PURE LEVEL: helpers' meaning as values -/
theorem zf_0_0 (S : ZS) (i : Nat) : zfld S 0 i 0 = Sum.inl (S 0 i 0) := rfl
theorem zf_0_2 (S : ZS) (i : Nat) : zfld S 0 i 2 = zr 9 i := rfl
theorem zf_1_0 (S : ZS) (i : Nat) : zfld S 1 i 0 = zr 0 (S 1 i 0).toNatClampNeg := rfl
theorem zf_1_1 (S : ZS) (i : Nat) : zfld S 1 i 1 = Sum.inl (S 1 i 1) := rfl
theorem zf_1_2 (S : ZS) (i : Nat) : zfld S 1 i 2 = Sum.inl (S 1 i 2) := rfl
theorem zf_1_3 (S : ZS) (i : Nat) : zfld S 1 i 3 = Sum.inl (S 1 i 3) := rfl
theorem zf_1_4 (S : ZS) (i : Nat) : zfld S 1 i 4 = Sum.inl (S 1 i 4) := rfl
theorem zf_2_0 (S : ZS) (i : Nat) : zfld S 2 i 0 = Sum.inl (S 2 i 0) := rfl
theorem zf_2_1 (S : ZS) (i : Nat) : zfld S 2 i 1 = Sum.inl (S 2 i 1) := rfl
theorem zf_2_2 (S : ZS) (i : Nat) : zfld S 2 i 2 = Sum.inl (S 2 i 2) := rfl
theorem zf_2_3 (S : ZS) (i : Nat) : zfld S 2 i 3 = Sum.inl (S 2 i 3) := rfl
theorem zf_2_4 (S : ZS) (i : Nat) : zfld S 2 i 4 = Sum.inl (S 2 i 4) := rfl
theorem zf_3_0 (S : ZS) (i : Nat) : zfld S 3 i 0 = Sum.inl (S 3 i 0) := rfl
theorem zf_3_1 (S : ZS) (i : Nat) : zfld S 3 i 1 = Sum.inl (S 3 i 1) := rfl
theorem zf_3_2 (S : ZS) (i : Nat) : zfld S 3 i 2 = zr 6 (S 3 i 2).toNatClampNeg := rfl
theorem zf_3_3 (S : ZS) (i : Nat) : zfld S 3 i 3 = zr 6 (S 3 i 3).toNatClampNeg := rfl
theorem zf_3_4 (S : ZS) (i : Nat) : zfld S 3 i 4 = Sum.inl (S 3 i 4) := rfl
theorem zf_3_5 (S : ZS) (i : Nat) : zfld S 3 i 5 = Sum.inl (S 3 i 5) := rfl
theorem zf_3_6 (S : ZS) (i : Nat) : zfld S 3 i 6 = Sum.inl (S 3 i 6) := rfl
theorem zf_3_7 (S : ZS) (i : Nat) : zfld S 3 i 7 = Sum.inl (S 3 i 7) := rfl
theorem zf_3_8 (S : ZS) (i : Nat) : zfld S 3 i 8 = Sum.inl (S 3 i 8) := rfl
theorem zf_3_9 (S : ZS) (i : Nat) : zfld S 3 i 9 = Sum.inl (S 3 i 9) := rfl
theorem zf_3_10 (S : ZS) (i : Nat) : zfld S 3 i 10 = zr 10 i := rfl
theorem zf_4_0 (S : ZS) (i : Nat) : zfld S 4 i 0 = zr 11 0 := rfl
theorem zf_4_1 (S : ZS) (i : Nat) : zfld S 4 i 1 = zr 12 0 := rfl
theorem zf_4_2 (S : ZS) (i : Nat) : zfld S 4 i 2 = zr 13 0 := rfl
theorem zf_4_3 (S : ZS) (i : Nat) : zfld S 4 i 3 = zr 14 0 := rfl
theorem zf_4_4 (S : ZS) (i : Nat) : zfld S 4 i 4 = Sum.inl (S 4 i 4) := rfl
theorem zf_5_0 (S : ZS) (i : Nat) : zfld S 5 i 0 = Sum.inl (S 5 i 0) := rfl
theorem zf_5_1 (S : ZS) (i : Nat) : zfld S 5 i 1 = Sum.inl (S 5 i 1) := rfl
theorem zf_5_2 (S : ZS) (i : Nat) : zfld S 5 i 2 = Sum.inl (S 5 i 2) := rfl
theorem zf_5_3 (S : ZS) (i : Nat) : zfld S 5 i 3 = Sum.inl (S 5 i 3) := rfl
theorem zf_5_4 (S : ZS) (i : Nat) : zfld S 5 i 4 = Sum.inl (S 5 i 4) := rfl
theorem zf_5_5 (S : ZS) (i : Nat) : zfld S 5 i 5 = Sum.inl (S 5 i 5) := rfl
theorem zf_6_0 (S : ZS) (i : Nat) : zfld S 6 i 0 = Sum.inl (S 6 i 0) := rfl
theorem zf_6_1 (S : ZS) (i : Nat) : zfld S 6 i 1 = zr 0 (S 6 i 1).toNatClampNeg := rfl
theorem zf_6_2 (S : ZS) (i : Nat) : zfld S 6 i 2 = zr 21 i := rfl
theorem zf_7_0 (S : ZS) (i : Nat) : zfld S 7 i 0 = zr 16 0 := rfl
theorem zf_7_1 (S : ZS) (i : Nat) : zfld S 7 i 1 = zr 17 0 := rfl
theorem zf_7_2 (S : ZS) (i : Nat) : zfld S 7 i 2 = zr 18 0 := rfl
theorem zf_7_3 (S : ZS) (i : Nat) : zfld S 7 i 3 = zr 19 0 := rfl
theorem zf_7_4 (S : ZS) (i : Nat) : zfld S 7 i 4 = zr 20 0 := rfl
theorem zf_7_5 (S : ZS) (i : Nat) : zfld S 7 i 5 = zr 4 0 := rfl
theorem zf_7_6 (S : ZS) (i : Nat) : zfld S 7 i 6 = zr 15 0 := rfl
theorem zf_7_7 (S : ZS) (i : Nat) : zfld S 7 i 7 = Sum.inl (S 7 i 7) := rfl
theorem zf_7_8 (S : ZS) (i : Nat) : zfld S 7 i 8 = Sum.inl (S 7 i 8) := rfl
theorem zf_7_9 (S : ZS) (i : Nat) : zfld S 7 i 9 = Sum.inl (S 7 i 9) := rfl
theorem zf_7_10 (S : ZS) (i : Nat) : zfld S 7 i 10 = Sum.inl (S 7 i 10) := rfl
theorem zf_7_11 (S : ZS) (i : Nat) : zfld S 7 i 11 = Sum.inl (S 7 i 11) := rfl
theorem zf_7_12 (S : ZS) (i : Nat) : zfld S 7 i 12 = Sum.inl (S 7 i 12) := rfl
theorem zf_7_13 (S : ZS) (i : Nat) : zfld S 7 i 13 = Sum.inl (S 7 i 13) := rfl
theorem zf_7_14 (S : ZS) (i : Nat) : zfld S 7 i 14 = Sum.inl (S 7 i 14) := rfl
theorem zf_7_15 (S : ZS) (i : Nat) : zfld S 7 i 15 = Sum.inl (S 7 i 15) := rfl
theorem zf_7_16 (S : ZS) (i : Nat) : zfld S 7 i 16 = Sum.inl (S 7 i 16) := rfl
theorem zf_7_17 (S : ZS) (i : Nat) : zfld S 7 i 17 = Sum.inl (S 7 i 17) := rfl
theorem zf_7_18 (S : ZS) (i : Nat) : zfld S 7 i 18 = Sum.inl (S 7 i 18) := rfl
theorem zln_9 (i : Nat) : zlen 9 i = 6 := rfl
theorem zln_10 (i : Nat) : zlen 10 i = 6 := rfl
theorem zln_15 (i : Nat) : zlen 15 i = 3001 := rfl
theorem zln_16 (i : Nat) : zlen 16 i = 6 := rfl
theorem zln_17 (i : Nat) : zlen 17 i = 20 := rfl
theorem zln_18 (i : Nat) : zlen 18 i = 6 := rfl
theorem zln_19 (i : Nat) : zlen 19 i = 6 := rfl
theorem zln_20 (i : Nat) : zlen 20 i = 6 := rfl
theorem zln_21 (i : Nat) : zlen 21 i = 6 := rfl
theorem zln_11 (i : Nat) : zlen 11 i = 512 := rfl
theorem zln_12 (i : Nat) : zlen 12 i = 512 := rfl
theorem zln_13 (i : Nat) : zlen 13 i = 512 := rfl
theorem zln_14 (i : Nat) : zlen 14 i = 512 := rfl
theorem zble (a b : Nat) : Nat.ble a b = decide (a ≤ b) := by
  rw [Bool.eq_iff_iff, Nat.ble_eq, decide_eq_true_iff]
theorem zbeq (a b : Nat) : Nat.beq a b = decide (a = b) := by
  rw [Bool.eq_iff_iff, decide_eq_true_iff]
  exact ⟨Nat.eq_of_beq_eq_true, fun h => h ▸ Nat.beq_refl a⟩
def zbt (a lo hi : Int32) : Prop := lo ≤ a ∧ a ≤ hi
def zrg (x : Int32) (n : Nat) : Prop := 0 ≤ x.toInt ∧ x.toInt ≤ n
theorem zrg.mono {x : Int32} {n m : Nat} (h : zrg x n) (hm : n ≤ m) : zrg x m := ⟨h.1, Int.le_trans h.2 (by omega)⟩
theorem zle_iff {a b : Int32} : a ≤ b ↔ a.toInt ≤ b.toInt := Int32.le_iff_toInt_le
theorem zlt_iff {a b : Int32} : a < b ↔ a.toInt < b.toInt := Int32.lt_iff_toInt_lt
theorem zeq_iff {a b : Int32} : a = b ↔ a.toInt = b.toInt := ⟨fun h => h ▸ rfl, Int32.toInt_inj.mp⟩
theorem zti0 : (0 : Int32).toInt = 0 := by decide
theorem zti_nI {p : Nat} (h : p < 2147483648) : (nI p).toInt = p := nI_toInt h
theorem vp_iff {a : Int32} {n : Nat} (hn : n < 2147483648) : vp_in a n ↔ (0 ≤ a.toInt ∧ a.toInt < n) := by
  constructor
  · intro h
    obtain ⟨j, hj, rfl⟩ := vp_in_of h hn
    rw [zti_nI (by omega)]
    omega
  · rintro ⟨h1, h2⟩
    have h3 : a = nI a.toInt.toNat := by
      rw [zeq_iff, zti_nI (by omega)]
      omega
    rw [h3]
    exact vp_in_nI (by omega) (by omega)
theorem vp_clamp {a : Int32} {n : Nat} (hn : n < 2147483648) (h : vp_in a n) : a.toNatClampNeg < n ∧ a = nI a.toNatClampNeg ∧ (a.toNatClampNeg : Int) = a.toInt := by
  obtain ⟨j, hj, rfl⟩ := vp_in_of h hn
  rw [nI_clamp (by omega), zti_nI (by omega)]
  exact ⟨hj, rfl, rfl⟩
theorem zbt5 {a : Int32} : zbt a 0 5 ↔ vp_in a 6 := by
  rw [vp_iff (by decide), zbt, zle_iff, zle_iff]
  have : (5 : Int32).toInt = 5 := by decide
  rw [zti0, this]
  omega
theorem zbtn {a : Int32} {n : Nat} (hn : n < 1000) : zbt a 0 (nI n - 1) ↔ vp_in a n := by
  rw [vp_iff (by omega), zbt, zle_iff, zle_iff, zti0]
  have h1 : (nI n - 1).toInt = n - 1 := by
    rcases n with _ | n
    · decide
    · have : nI (n + 1) - 1 = nI n := by
        rw [← nI_add]
        show nI n + 1 - 1 = nI n
        exact Int32.add_sub_cancel _ _
      rw [this, zti_nI (by omega)]
      omega
  rw [h1]
  omega
theorem vp_lt {a : Int32} {n : Nat} (hn : n < 2147483648) : vp_in a n ↔ ¬ a < 0 ∧ a < nI n := by
  rw [vp_iff hn, zlt_iff, zlt_iff, zti0, zti_nI hn]
  omega
theorem zix {n a g : Nat} : (6 : Int32) * nI a + nI g = nI (6 * a + g) := by
  rw [show (6 : Int32) = nI 6 from rfl]
  simp [nI, Int32.ofNat_mul, Int32.ofNat_add]
theorem zix6 {a g : Int32} {n : Nat} (hn : n ≤ 20) (h : vp_in a n) (hg : vp_in g 6) : (6 * a + g).toNatClampNeg = 6 * a.toNatClampNeg + g.toNatClampNeg ∧ vp_in (6 * a + g) (6 * n) := by
  obtain ⟨h1, h2, h3⟩ := vp_clamp (by omega) h
  obtain ⟨h4, h5, h6⟩ := vp_clamp (by omega) hg
  have h7 : 6 * a + g = nI (6 * a.toNatClampNeg + g.toNatClampNeg) := by
    conv => lhs; rw [h2, h5]
    exact zix (n := 0)
  rw [h7]
  exact ⟨nI_clamp (by omega), vp_in_nI (by omega) (by omega)⟩
theorem vp_in.mono {a : Int32} {n m : Nat} (h : vp_in a n) (hm : n ≤ m) : vp_in a m := fun h' => h (h'.imp id (fun h => Nat.le_trans hm h))
theorem zup_at (S : ZS) (k i f : Nat) (v : Int32) : zup S k i f v k i f = v := if_pos ⟨rfl, rfl, rfl⟩
theorem zup_i (S : ZS) (k i f i' f' : Nat) (v : Int32) : zup S k i f v k i' f' = if i' = i ∧ f' = f then v else S k i' f' := by
  simp [zup]
theorem zup_r (S : ZS) (k i f : Nat) (v : Int32) (a b d : Nat) : zup S k i f v a b d = if a = k ∧ b = i ∧ d = f then v else S a b d := rfl
theorem nP_f (S : ZS) : (S 7 0 7).toNatClampNeg = nP S := rfl
theorem nD_f (S : ZS) : (S 7 0 8).toNatClampNeg = nD S := rfl
theorem nS_f (S : ZS) : (S 7 0 9).toNatClampNeg = nS S := rfl
theorem nF_f (S : ZS) : (S 7 0 10).toNatClampNeg = nF S := rfl
def zss (S : ZS) (m p g : Int32) : Nat → Int32
  | 0 => 0
  | n + 1 => zss S m p g n + (if S 11 0 n = m ∧ S 12 0 n = p ∧ S 13 0 n = g then S 14 0 n else 0)
theorem zss_fr {S S' : ZS} (e1 : S' 11 = S 11) (e2 : S' 12 = S 12) (e3 : S' 13 = S 13) (e4 : S' 14 = S 14) (m p g : Int32) : ∀ n, zss S' m p g n = zss S m p g n
  | 0 => rfl
  | n + 1 => by
    rw [zss, zss, zss_fr e1 e2 e3 e4 m p g n, e1, e2, e3, e4]
theorem zup_ne (S : ZS) (k i f : Nat) (v : Int32) (f' : Nat) (h : f' ≠ f) : zup S k i f v k i f' = S k i f' := if_neg (fun h' => h h'.2.2)
theorem z_loop_n {body : ZP → ZP} {K : ZK} : ∀ (N : Nat) (Lf : Nat → List (Option ZV)) (Sf : Nat → ZS), (∀ i, i < N → ∀ k : ZP, k (Lf (i + 1)) [] (Sf (i + 1)) K → body k (Lf i) [] (Sf i) K) → (∀ k, body k (Lf N) [] (Sf N) K) → z_loop body (Lf 0) [] (Sf 0) K := by
  intro N Lf Sf h1 h2
  have key : ∀ j i, i + j = N → z_iter body (j + 1) (Lf i) [] (Sf i) K := by
    intro j
    induction j with
    | zero =>
      intro i hi
      cases (show i = N by omega)
      exact h2 _
    | succ j ih =>
      intro i hi
      exact h1 i (by omega) _ (ih (i + 1) (by omega))
  exact ⟨N + 1, key N 0 (by omega)⟩
