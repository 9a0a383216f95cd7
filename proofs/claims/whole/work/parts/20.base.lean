/-! THE PURE LEVEL: helpers' meaning as values -/
theorem zf_0_0 (S : ZS) (i : Nat) : zfld S 0 i 0 = Sum.inl (S 0 i 0) := rfl
theorem zf_0_2 (S : ZS) (i : Nat) : zfld S 0 i 2 = zr 9 i := rfl
theorem zf_1_0 (S : ZS) (i : Nat) : zfld S 1 i 0 = zr 0 (S 1 i 0).toNatClampNeg := rfl
theorem zf_1_1 (S : ZS) (i : Nat) : zfld S 1 i 1 = Sum.inl (S 1 i 1) := rfl
theorem zf_1_2 (S : ZS) (i : Nat) : zfld S 1 i 2 = Sum.inl (S 1 i 2) := rfl
theorem zf_1_3 (S : ZS) (i : Nat) : zfld S 1 i 3 = Sum.inl (S 1 i 3) := rfl
theorem zf_1_4 (S : ZS) (i : Nat) : zfld S 1 i 4 = Sum.inl (S 1 i 4) := rfl
theorem zf_2_0 (S : ZS) (i : Nat) : zfld S 2 i 0 = Sum.inl (S 2 i 0) := rfl
theorem zf_2_1 (S : ZS) (i : Nat) : zfld S 2 i 1 = Sum.inl (S 2 i 1) := rfl
theorem zf_2_2 (S : ZS) (i : Nat) : zfld S 2 i 2 = Sum.inl (S 2 i 2) := rfl
theorem zf_2_3 (S : ZS) (i : Nat) : zfld S 2 i 3 = Sum.inl (S 2 i 3) := rfl
theorem zf_2_4 (S : ZS) (i : Nat) : zfld S 2 i 4 = Sum.inl (S 2 i 4) := rfl
theorem zf_3_0 (S : ZS) (i : Nat) : zfld S 3 i 0 = Sum.inl (S 3 i 0) := rfl
theorem zf_3_1 (S : ZS) (i : Nat) : zfld S 3 i 1 = Sum.inl (S 3 i 1) := rfl
theorem zf_3_2 (S : ZS) (i : Nat) : zfld S 3 i 2 = zr 6 (S 3 i 2).toNatClampNeg := rfl
theorem zf_3_3 (S : ZS) (i : Nat) : zfld S 3 i 3 = zr 6 (S 3 i 3).toNatClampNeg := rfl
theorem zf_3_4 (S : ZS) (i : Nat) : zfld S 3 i 4 = Sum.inl (S 3 i 4) := rfl
theorem zf_3_5 (S : ZS) (i : Nat) : zfld S 3 i 5 = Sum.inl (S 3 i 5) := rfl
theorem zf_3_6 (S : ZS) (i : Nat) : zfld S 3 i 6 = Sum.inl (S 3 i 6) := rfl
theorem zf_3_7 (S : ZS) (i : Nat) : zfld S 3 i 7 = Sum.inl (S 3 i 7) := rfl
theorem zf_3_8 (S : ZS) (i : Nat) : zfld S 3 i 8 = Sum.inl (S 3 i 8) := rfl
theorem zf_3_9 (S : ZS) (i : Nat) : zfld S 3 i 9 = Sum.inl (S 3 i 9) := rfl
theorem zf_3_10 (S : ZS) (i : Nat) : zfld S 3 i 10 = zr 10 i := rfl
theorem zf_4_0 (S : ZS) (i : Nat) : zfld S 4 i 0 = zr 11 0 := rfl
theorem zf_4_1 (S : ZS) (i : Nat) : zfld S 4 i 1 = zr 12 0 := rfl
theorem zf_4_2 (S : ZS) (i : Nat) : zfld S 4 i 2 = zr 13 0 := rfl
theorem zf_4_3 (S : ZS) (i : Nat) : zfld S 4 i 3 = zr 14 0 := rfl
theorem zf_4_4 (S : ZS) (i : Nat) : zfld S 4 i 4 = Sum.inl (S 4 i 4) := rfl
theorem zf_5_0 (S : ZS) (i : Nat) : zfld S 5 i 0 = Sum.inl (S 5 i 0) := rfl
theorem zf_5_1 (S : ZS) (i : Nat) : zfld S 5 i 1 = Sum.inl (S 5 i 1) := rfl
theorem zf_5_2 (S : ZS) (i : Nat) : zfld S 5 i 2 = Sum.inl (S 5 i 2) := rfl
theorem zf_5_3 (S : ZS) (i : Nat) : zfld S 5 i 3 = Sum.inl (S 5 i 3) := rfl
theorem zf_5_4 (S : ZS) (i : Nat) : zfld S 5 i 4 = Sum.inl (S 5 i 4) := rfl
theorem zf_5_5 (S : ZS) (i : Nat) : zfld S 5 i 5 = Sum.inl (S 5 i 5) := rfl
theorem zf_6_0 (S : ZS) (i : Nat) : zfld S 6 i 0 = Sum.inl (S 6 i 0) := rfl
theorem zf_6_1 (S : ZS) (i : Nat) : zfld S 6 i 1 = zr 0 (S 6 i 1).toNatClampNeg := rfl
theorem zf_6_2 (S : ZS) (i : Nat) : zfld S 6 i 2 = zr 21 i := rfl
theorem zf_7_0 (S : ZS) (i : Nat) : zfld S 7 i 0 = zr 16 0 := rfl
theorem zf_7_1 (S : ZS) (i : Nat) : zfld S 7 i 1 = zr 17 0 := rfl
theorem zf_7_2 (S : ZS) (i : Nat) : zfld S 7 i 2 = zr 18 0 := rfl
theorem zf_7_3 (S : ZS) (i : Nat) : zfld S 7 i 3 = zr 19 0 := rfl
theorem zf_7_4 (S : ZS) (i : Nat) : zfld S 7 i 4 = zr 20 0 := rfl
theorem zf_7_5 (S : ZS) (i : Nat) : zfld S 7 i 5 = zr 4 0 := rfl
theorem zf_7_6 (S : ZS) (i : Nat) : zfld S 7 i 6 = zr 15 0 := rfl
theorem zf_7_7 (S : ZS) (i : Nat) : zfld S 7 i 7 = Sum.inl (S 7 i 7) := rfl
theorem zf_7_8 (S : ZS) (i : Nat) : zfld S 7 i 8 = Sum.inl (S 7 i 8) := rfl
theorem zf_7_9 (S : ZS) (i : Nat) : zfld S 7 i 9 = Sum.inl (S 7 i 9) := rfl
theorem zf_7_10 (S : ZS) (i : Nat) : zfld S 7 i 10 = Sum.inl (S 7 i 10) := rfl
theorem zf_7_11 (S : ZS) (i : Nat) : zfld S 7 i 11 = Sum.inl (S 7 i 11) := rfl
theorem zf_7_12 (S : ZS) (i : Nat) : zfld S 7 i 12 = Sum.inl (S 7 i 12) := rfl
theorem zf_7_13 (S : ZS) (i : Nat) : zfld S 7 i 13 = Sum.inl (S 7 i 13) := rfl
theorem zf_7_14 (S : ZS) (i : Nat) : zfld S 7 i 14 = Sum.inl (S 7 i 14) := rfl
theorem zf_7_15 (S : ZS) (i : Nat) : zfld S 7 i 15 = Sum.inl (S 7 i 15) := rfl
theorem zf_7_16 (S : ZS) (i : Nat) : zfld S 7 i 16 = Sum.inl (S 7 i 16) := rfl
theorem zf_7_17 (S : ZS) (i : Nat) : zfld S 7 i 17 = Sum.inl (S 7 i 17) := rfl
theorem zf_7_18 (S : ZS) (i : Nat) : zfld S 7 i 18 = Sum.inl (S 7 i 18) := rfl
theorem zf_8_0 (S : ZS) (i : Nat) : zfld S 8 i 0 = Sum.inl (S 8 i 0) := rfl
theorem zf_8_1 (S : ZS) (i : Nat) : zfld S 8 i 1 = Sum.inl (S 8 i 1) := rfl
theorem zf_8_2 (S : ZS) (i : Nat) : zfld S 8 i 2 = Sum.inl (S 8 i 2) := rfl
theorem zf_8_3 (S : ZS) (i : Nat) : zfld S 8 i 3 = Sum.inl (S 8 i 3) := rfl
theorem zf_8_4 (S : ZS) (i : Nat) : zfld S 8 i 4 = zr 22 4 := rfl
theorem zf_8_5 (S : ZS) (i : Nat) : zfld S 8 i 5 = zr 22 5 := rfl
theorem zf_8_6 (S : ZS) (i : Nat) : zfld S 8 i 6 = zr 22 6 := rfl
theorem zf_8_7 (S : ZS) (i : Nat) : zfld S 8 i 7 = zr 22 7 := rfl
theorem zf_8_8 (S : ZS) (i : Nat) : zfld S 8 i 8 = zr 22 8 := rfl
theorem zf_8_9 (S : ZS) (i : Nat) : zfld S 8 i 9 = zr 22 9 := rfl
theorem zf_8_10 (S : ZS) (i : Nat) : zfld S 8 i 10 = Sum.inl (S 8 i 10) := rfl
theorem zf_8_11 (S : ZS) (i : Nat) : zfld S 8 i 11 = zr 22 11 := rfl
theorem zf_8_12 (S : ZS) (i : Nat) : zfld S 8 i 12 = zr 22 12 := rfl
theorem zf_8_13 (S : ZS) (i : Nat) : zfld S 8 i 13 = zr 22 13 := rfl
theorem zf_8_14 (S : ZS) (i : Nat) : zfld S 8 i 14 = zr 22 14 := rfl
theorem zf_8_15 (S : ZS) (i : Nat) : zfld S 8 i 15 = zr 22 15 := rfl
theorem zf_8_16 (S : ZS) (i : Nat) : zfld S 8 i 16 = zr 22 16 := rfl
theorem zf_8_17 (S : ZS) (i : Nat) : zfld S 8 i 17 = zr 22 17 := rfl
theorem zf_8_18 (S : ZS) (i : Nat) : zfld S 8 i 18 = zr 22 18 := rfl
theorem zf_8_19 (S : ZS) (i : Nat) : zfld S 8 i 19 = zr 23 19 := rfl
theorem zf_8_20 (S : ZS) (i : Nat) : zfld S 8 i 20 = zr 22 20 := rfl
theorem zf_8_21 (S : ZS) (i : Nat) : zfld S 8 i 21 = Sum.inl (S 8 i 21) := rfl
theorem zf_8_22 (S : ZS) (i : Nat) : zfld S 8 i 22 = zr 22 22 := rfl
theorem zf_8_23 (S : ZS) (i : Nat) : zfld S 8 i 23 = zr 22 23 := rfl
theorem zf_8_24 (S : ZS) (i : Nat) : zfld S 8 i 24 = zr 22 24 := rfl
theorem zf_8_25 (S : ZS) (i : Nat) : zfld S 8 i 25 = Sum.inl (S 8 i 25) := rfl
theorem zf_8_26 (S : ZS) (i : Nat) : zfld S 8 i 26 = zr 22 26 := rfl
theorem zf_8_27 (S : ZS) (i : Nat) : zfld S 8 i 27 = zr 22 27 := rfl
theorem zf_8_28 (S : ZS) (i : Nat) : zfld S 8 i 28 = Sum.inl (S 8 i 28) := rfl
theorem zf_8_29 (S : ZS) (i : Nat) : zfld S 8 i 29 = zr 22 29 := rfl
theorem zf_8_30 (S : ZS) (i : Nat) : zfld S 8 i 30 = zr 22 30 := rfl
theorem zf_8_31 (S : ZS) (i : Nat) : zfld S 8 i 31 = zr 22 31 := rfl
theorem zf_8_32 (S : ZS) (i : Nat) : zfld S 8 i 32 = zr 22 32 := rfl
theorem zf_8_33 (S : ZS) (i : Nat) : zfld S 8 i 33 = zr 22 33 := rfl
theorem zf_8_34 (S : ZS) (i : Nat) : zfld S 8 i 34 = zr 22 34 := rfl
theorem zf_8_35 (S : ZS) (i : Nat) : zfld S 8 i 35 = Sum.inl (S 8 i 35) := rfl
theorem zf_8_36 (S : ZS) (i : Nat) : zfld S 8 i 36 = zr 22 36 := rfl
theorem zf_8_37 (S : ZS) (i : Nat) : zfld S 8 i 37 = zr 22 37 := rfl
theorem zf_8_38 (S : ZS) (i : Nat) : zfld S 8 i 38 = zr 22 38 := rfl
theorem zf_8_39 (S : ZS) (i : Nat) : zfld S 8 i 39 = zr 22 39 := rfl
theorem zf_8_40 (S : ZS) (i : Nat) : zfld S 8 i 40 = zr 22 40 := rfl
theorem zf_8_41 (S : ZS) (i : Nat) : zfld S 8 i 41 = Sum.inl (S 8 i 41) := rfl
theorem zf_8_42 (S : ZS) (i : Nat) : zfld S 8 i 42 = Sum.inl (S 8 i 42) := rfl
theorem zf_8_43 (S : ZS) (i : Nat) : zfld S 8 i 43 = Sum.inl (S 8 i 43) := rfl
theorem zf_8_44 (S : ZS) (i : Nat) : zfld S 8 i 44 = Sum.inl (S 8 i 44) := rfl
theorem zf_8_45 (S : ZS) (i : Nat) : zfld S 8 i 45 = zr 22 45 := rfl
theorem zf_8_46 (S : ZS) (i : Nat) : zfld S 8 i 46 = Sum.inl (S 8 i 46) := rfl
theorem zln_9 (i : Nat) : zlen 9 i = 6 := rfl
theorem zln_10 (i : Nat) : zlen 10 i = 6 := rfl
theorem zln_15 (i : Nat) : zlen 15 i = 3001 := rfl
theorem zln_16 (i : Nat) : zlen 16 i = 6 := rfl
theorem zln_17 (i : Nat) : zlen 17 i = 20 := rfl
theorem zln_18 (i : Nat) : zlen 18 i = 6 := rfl
theorem zln_19 (i : Nat) : zlen 19 i = 6 := rfl
theorem zln_20 (i : Nat) : zlen 20 i = 6 := rfl
theorem zln_21 (i : Nat) : zlen 21 i = 6 := rfl
theorem zln_23 (i : Nat) : zlen 23 i = 20 := rfl
theorem zln_24 (i : Nat) : zlen 24 i = 1 := rfl
theorem zln_11 (i : Nat) : zlen 11 i = 512 := rfl
theorem zln_12 (i : Nat) : zlen 12 i = 512 := rfl
theorem zln_13 (i : Nat) : zlen 13 i = 512 := rfl
theorem zln_14 (i : Nat) : zlen 14 i = 512 := rfl
theorem zln_22_4 : zlen 22 4 = 6 := rfl
theorem zln_22_5 : zlen 22 5 = 6 := rfl
theorem zln_22_6 : zlen 22 6 = 6 := rfl
theorem zln_22_7 : zlen 22 7 = 6 := rfl
theorem zln_22_8 : zlen 22 8 = 6 := rfl
theorem zln_22_9 : zlen 22 9 = 6 := rfl
theorem zln_22_11 : zlen 22 11 = 20 := rfl
theorem zln_22_12 : zlen 22 12 = 20 := rfl
theorem zln_22_13 : zlen 22 13 = 20 := rfl
theorem zln_22_14 : zlen 22 14 = 20 := rfl
theorem zln_22_15 : zlen 22 15 = 20 := rfl
theorem zln_22_16 : zlen 22 16 = 20 := rfl
theorem zln_22_17 : zlen 22 17 = 20 := rfl
theorem zln_22_18 : zlen 22 18 = 20 := rfl
theorem zln_22_20 : zlen 22 20 = 120 := rfl
theorem zln_22_22 : zlen 22 22 = 5000 := rfl
theorem zln_22_23 : zlen 22 23 = 5000 := rfl
theorem zln_22_24 : zlen 22 24 = 5000 := rfl
theorem zln_22_26 : zlen 22 26 = 6 := rfl
theorem zln_22_27 : zlen 22 27 = 36 := rfl
theorem zln_22_29 : zlen 22 29 = 6 := rfl
theorem zln_22_30 : zlen 22 30 = 36 := rfl
theorem zln_22_31 : zlen 22 31 = 36 := rfl
theorem zln_22_32 : zlen 22 32 = 36 := rfl
theorem zln_22_33 : zlen 22 33 = 36 := rfl
theorem zln_22_34 : zlen 22 34 = 36 := rfl
theorem zln_22_36 : zlen 22 36 = 6 := rfl
theorem zln_22_37 : zlen 22 37 = 6 := rfl
theorem zln_22_38 : zlen 22 38 = 6 := rfl
theorem zln_22_39 : zlen 22 39 = 6 := rfl
theorem zln_22_40 : zlen 22 40 = 6 := rfl
theorem zln_22_45 : zlen 22 45 = 3001 := rfl
theorem zble (a b : Nat) : Nat.ble a b = decide (a ≤ b) := by
  rw [Bool.eq_iff_iff, Nat.ble_eq, decide_eq_true_iff]
theorem zbeq (a b : Nat) : Nat.beq a b = decide (a = b) := by
  rw [Bool.eq_iff_iff, decide_eq_true_iff]
  exact ⟨Nat.eq_of_beq_eq_true, fun h => h ▸ Nat.beq_refl a⟩
def zbt (a lo hi : Int32) : Prop := lo ≤ a ∧ a ≤ hi
def zrg (x : Int32) (n : Nat) : Prop := 0 ≤ x.toInt ∧ x.toInt ≤ n
theorem zrg.mono {x : Int32} {n m : Nat} (h : zrg x n) (hm : n ≤ m) : zrg x m := ⟨h.1, Int.le_trans h.2 (by omega)⟩
theorem zle_iff {a b : Int32} : a ≤ b ↔ a.toInt ≤ b.toInt := Int32.le_iff_toInt_le
theorem zlt_iff {a b : Int32} : a < b ↔ a.toInt < b.toInt := Int32.lt_iff_toInt_lt
theorem zeq_iff {a b : Int32} : a = b ↔ a.toInt = b.toInt := ⟨fun h => h ▸ rfl, Int32.toInt_inj.mp⟩
theorem zti0 : (0 : Int32).toInt = 0 := by decide
theorem zti_nI {p : Nat} (h : p < 2147483648) : (nI p).toInt = p := nI_toInt h
theorem vp_iff {a : Int32} {n : Nat} (hn : n < 2147483648) : vp_in a n ↔ (0 ≤ a.toInt ∧ a.toInt < n) := by
  constructor
  · intro h
    obtain ⟨j, hj, rfl⟩ := vp_in_of h hn
    rw [zti_nI (by omega)]
    omega
  · rintro ⟨h1, h2⟩
    have h3 : a = nI a.toInt.toNat := by
      rw [zeq_iff, zti_nI (by omega)]
      omega
    rw [h3]
    exact vp_in_nI (by omega) (by omega)
theorem vp_clamp {a : Int32} {n : Nat} (hn : n < 2147483648) (h : vp_in a n) : a.toNatClampNeg < n ∧ a = nI a.toNatClampNeg ∧ (a.toNatClampNeg : Int) = a.toInt := by
  obtain ⟨j, hj, rfl⟩ := vp_in_of h hn
  rw [nI_clamp (by omega), zti_nI (by omega)]
  exact ⟨hj, rfl, rfl⟩
theorem zbt5 {a : Int32} : zbt a 0 5 ↔ vp_in a 6 := by
  rw [vp_iff (by decide), zbt, zle_iff, zle_iff]
  have : (5 : Int32).toInt = 5 := by decide
  rw [zti0, this]
  omega
theorem zbtn {a : Int32} {n : Nat} (hn : n < 1000) : zbt a 0 (nI n - 1) ↔ vp_in a n := by
  rw [vp_iff (by omega), zbt, zle_iff, zle_iff, zti0]
  have h1 : (nI n - 1).toInt = n - 1 := by
    rcases n with _ | n
    · decide
    · have : nI (n + 1) - 1 = nI n := by
        rw [← nI_add]
        show nI n + 1 - 1 = nI n
        exact Int32.add_sub_cancel _ _
      rw [this, zti_nI (by omega)]
      omega
  rw [h1]
  omega
theorem vp_lt {a : Int32} {n : Nat} (hn : n < 2147483648) : vp_in a n ↔ ¬ a < 0 ∧ a < nI n := by
  rw [vp_iff hn, zlt_iff, zlt_iff, zti0, zti_nI hn]
  omega
theorem zix {n a g : Nat} : (6 : Int32) * nI a + nI g = nI (6 * a + g) := by
  rw [show (6 : Int32) = nI 6 from rfl]
  simp [nI, Int32.ofNat_mul, Int32.ofNat_add]
theorem zix6 {a g : Int32} {n : Nat} (hn : n ≤ 20) (h : vp_in a n) (hg : vp_in g 6) : (6 * a + g).toNatClampNeg = 6 * a.toNatClampNeg + g.toNatClampNeg ∧ vp_in (6 * a + g) (6 * n) := by
  obtain ⟨h1, h2, h3⟩ := vp_clamp (by omega) h
  obtain ⟨h4, h5, h6⟩ := vp_clamp (by omega) hg
  have h7 : 6 * a + g = nI (6 * a.toNatClampNeg + g.toNatClampNeg) := by
    conv => lhs; rw [h2, h5]
    exact zix (n := 0)
  rw [h7]
  exact ⟨nI_clamp (by omega), vp_in_nI (by omega) (by omega)⟩
theorem vp_in.mono {a : Int32} {n m : Nat} (h : vp_in a n) (hm : n ≤ m) : vp_in a m := fun h' => h (h'.imp id (fun h => Nat.le_trans hm h))
-- one put, read again
theorem zup_at (S : ZS) (k i f : Nat) (v : Int32) : zup S k i f v k i f = v := if_pos ⟨rfl, rfl, rfl⟩
theorem zup_i (S : ZS) (k i f i' f' : Nat) (v : Int32) : zup S k i f v k i' f' = if i' = i ∧ f' = f then v else S k i' f' := by
  simp [zup]
theorem zup_r (S : ZS) (k i f : Nat) (v : Int32) (a b d : Nat) : zup S k i f v a b d = if a = k ∧ b = i ∧ d = f then v else S a b d := rfl
theorem nP_f (S : ZS) : (S 7 0 7).toNatClampNeg = nP S := rfl
theorem nD_f (S : ZS) : (S 7 0 8).toNatClampNeg = nD S := rfl
theorem nS_f (S : ZS) : (S 7 0 9).toNatClampNeg = nS S := rfl
theorem nF_f (S : ZS) : (S 7 0 10).toNatClampNeg = nF S := rfl
/-! THE AGREEMENT of the two -/
def ISc (S : ZS) : Prop :=
  (S 7 0 7 = nI (nP S) ∧ nP S ≤ 20 ∧ S 8 0 10 = S 7 0 7) ∧ (S 7 0 8 = nI (nD S) ∧ nD S ≤ 6 ∧ S 8 0 25 = S 7 0 8) ∧ (S 7 0 9 = nI (nS S) ∧ nS S ≤ 6 ∧ S 8 0 28 = S 7 0 9) ∧ (S 7 0 10 = nI (nF S) ∧ nF S ≤ 6 ∧ S 8 0 35 = S 7 0 10) ∧
  S 8 0 1 = S 7 0 11 ∧ S 8 0 2 = S 7 0 12 ∧ zrg (S 7 0 12) 9 ∧ S 8 0 0 = S 7 0 13 ∧ zrg (S 7 0 13) 240 ∧ S 8 0 3 = S 7 0 14 ∧ S 8 0 41 = S 7 0 15 ∧ S 8 0 42 = S 7 0 16 ∧ S 8 0 43 = S 7 0 17 ∧ S 8 0 44 = S 7 0 18
def IGd (c : Nat) (S : ZS) : Prop := ∀ g, g < 6 →
  (S 22 4 g = S 2 g 0 ∧ ((S 2 g 0 = 0 ∧ S 22 5 g = S 2 g 1) ∨ (S 2 g 0 = 1 ∧ S 22 6 g = S 2 g 1 ∧ zbt (S 2 g 1) 1 24) ∨ (S 2 g 0 = 2 ∧ S 2 g 1 = 0))) ∧ (S 22 7 g = S 2 g 2 ∧ zrg (S 2 g 2) 900) ∧ (S 22 8 g = S 2 g 3 ∧ zrg (S 2 g 3) (9999 * c)) ∧ S 22 9 g = S 2 g 4
def IPd (c : Nat) (S : ZS) (p : Nat) : Prop :=
  (S 22 11 p = S 3 p 1 ∧ zbt (S 3 p 1) 0 3) ∧ (S 22 12 p = S 3 p 2 ∧ vp_in (S 3 p 2) (nS S)) ∧ (S 22 13 p = S 3 p 3 ∧ vp_in (S 3 p 3) (nS S)) ∧ (S 22 14 p = S 3 p 4 ∧ zrg (S 3 p 4) 100) ∧ S 22 15 p = S 3 p 5 ∧ (S 23 19 p = S 3 p 6 ∧ (S 3 p 6 = 0 ∨ S 3 p 6 = 1)) ∧ S 22 16 p = S 3 p 7 ∧ S 22 17 p = S 3 p 8 ∧ (S 22 18 p = S 3 p 9 ∧ zrg (S 3 p 9) (90000 * c)) ∧ S 3 p 0 = nI p ∧ (∀ g, g < 6 → S 22 20 (6 * p + g) = S 10 p g)
def IPf (S : ZS) (p : Nat) : Prop := S 22 16 p = 0 ∧ S 22 17 p = 0 ∧ S 22 18 p = 0 ∧ S 23 19 p = 0 ∧ (∀ g, g < 6 → S 22 20 (6 * p + g) = 0)
def IPp (c : Nat) (S : ZS) : Prop := ∀ p, p < 20 → (p < nP S → IPd c S p) ∧ (nP S ≤ p → IPf S p)
def IDd (c : Nat) (S : ZS) (d : Nat) : Prop := (S 22 26 d = S 0 d 1 ∧ (S 0 d 1 = -1 ∨ vp_in (S 0 d 1) d)) ∧ S 0 d 0 = nI d ∧ (∀ g, g < 6 → S 22 27 (6 * d + g) = S 9 d g ∧ zrg (S 9 d g) (99999 * c))
def IDp (c : Nat) (S : ZS) : Prop := ∀ d, d < 6 → (d < nD S → IDd c S d) ∧ (nD S ≤ d → ∀ g, g < 6 → S 22 27 (6 * d + g) = 0)
def IHs (c : Nat) (S : ZS) (j : Nat) : Prop := (S 22 30 j = S 5 j 0 ∧ zrg (S 5 j 0) (99999 * c)) ∧ S 22 31 j = S 5 j 1 ∧ S 22 32 j = S 5 j 2 ∧ S 22 33 j = S 5 j 3 - S 5 j 4 - S 5 j 0 ∧ S 22 34 j = S 5 j 5
def IHf (S : ZS) (j : Nat) : Prop := S 22 30 j = 0 ∧ S 22 31 j = 0 ∧ S 22 32 j = 0 ∧ S 22 33 j = 0 ∧ S 22 34 j = 0
def IHp (c : Nat) (S : ZS) : Prop := (∀ s, s < nS S → S 6 s 0 = nI s ∧ S 22 29 s = S 6 s 1 ∧ vp_in (S 6 s 1) (nD S)) ∧ (∀ j, j < 36 → (j < 6 * nS S → IHs c S j) ∧ (6 * nS S ≤ j → IHf S j))
def IFp (S : ZS) : Prop := ∀ f, f < 6 → (f < nF S → (S 22 36 f = S 1 f 0 ∧ vp_in (S 1 f 0) (nD S)) ∧ (S 22 37 f = S 1 f 1 ∧ vp_in (S 1 f 1) 6) ∧ S 22 38 f = S 1 f 2 ∧ S 22 39 f = S 1 f 3 ∧ S 22 40 f = S 1 f 4) ∧ (nF S ≤ f → S 22 39 f = 0 ∧ S 22 40 f = 0)
def zss (S : ZS) (m p g : Int32) : Nat → Int32
  | 0 => 0
  | n + 1 => zss S m p g n + (if S 11 0 n = m ∧ S 12 0 n = p ∧ S 13 0 n = g then S 14 0 n else 0)
def zsl (S : ZS) (p g : Int32) : Nat → Int32
  | 0 => 0
  | n + 1 => zsl S p g n + (if S 22 22 n = p ∧ S 22 23 n = g then S 22 24 n else 0)
def ILp (c : Nat) (S : ZS) : Prop := ∃ n m, n ≤ c ∧ m ≤ c ∧ S 4 0 4 = nI n ∧ S 8 0 21 = nI m ∧ (∀ i, i < n → S 11 0 i ≤ S 7 0 13) ∧ (∀ p g, zss S (S 7 0 13) p g n = zsl S p g m) ∧ (∀ i, i < m → zrg (S 22 24 i) 9999)
def Inv (c : Nat) (S : ZS) : Prop := ISc S ∧ IGd c S ∧ IPp c S ∧ IDp c S ∧ IHp c S ∧ IFp S ∧ ILp c S ∧ S 22 45 0 = 0
/-- behind the model's call -/
def LQm (k : Int32) (c : Nat) : ZK := fun o2 S2 => ∃ v, o2 = .inl (some (.inl v)) ∧ S2 8 0 46 = k ∧ (k = 0 → S2 24 0 0 = v) ∧ Inv (c + 1) S2
/-- behind the program's call -/
def LPm (M : ZSp) (as : List ZV) (c : Nat) : ZK := fun o S1 => ∃ k, o = .inl (some (.inl k)) ∧ M as S1 (LQm k c)
theorem LPm_i {M : ZSp} {as : List ZV} {c : Nat} {k : Int32} {S : ZS} : LPm M as c (.inl (some (.inl k))) S ↔ M as S (LQm k c) := by
  simp [LPm]
theorem LQm_i {k v : Int32} {c : Nat} {S : ZS} : LQm k c (.inl (some (.inl v))) S ↔ S 8 0 46 = k ∧ (k = 0 → S 24 0 0 = v) ∧ Inv (c + 1) S := by
  simp [LQm]
-- the groups carry over
theorem IGd.up {c : Nat} {S : ZS} (h : IGd c S) : IGd (c + 1) S := by
  intro g hg
  have := h g hg
  exact ⟨this.1, this.2.1, ⟨this.2.2.1.1, this.2.2.1.2.mono (by omega)⟩, this.2.2.2⟩
theorem IPp.up {c : Nat} {S : ZS} (h : IPp c S) : IPp (c + 1) S := by
  intro p hp
  refine ⟨fun h1 => ?_, (h p hp).2⟩
  obtain ⟨a1, a2, a3, a4, a5, a6, a7, a8, a9, a10, a11⟩ := (h p hp).1 h1
  exact ⟨a1, a2, a3, a4, a5, a6, a7, a8, ⟨a9.1, a9.2.mono (by omega)⟩, a10, a11⟩
theorem IDp.up {c : Nat} {S : ZS} (h : IDp c S) : IDp (c + 1) S := by
  intro d hd
  refine ⟨fun h1 => ?_, (h d hd).2⟩
  obtain ⟨a1, a2, a3⟩ := (h d hd).1 h1
  exact ⟨a1, a2, fun g hg => ⟨(a3 g hg).1, (a3 g hg).2.mono (by omega)⟩⟩
theorem IHp.up {c : Nat} {S : ZS} (h : IHp c S) : IHp (c + 1) S := by
  refine ⟨h.1, fun j hj => ⟨fun h1 => ?_, (h.2 j hj).2⟩⟩
  have := (h.2 j hj).1 h1
  exact ⟨⟨this.1.1, this.1.2.mono (by omega)⟩, this.2⟩
theorem ILp.up {c : Nat} {S : ZS} (h : ILp c S) : ILp (c + 1) S := by
  obtain ⟨n, m, h1, h2, h3⟩ := h
  exact ⟨n, m, by omega, by omega, h3⟩
theorem Inv.up {c : Nat} {S : ZS} (h : Inv c S) : Inv (c + 1) S := ⟨h.1, h.2.1.up, h.2.2.1.up, h.2.2.2.1.up, h.2.2.2.2.1.up, h.2.2.2.2.2.1, h.2.2.2.2.2.2.1.up, h.2.2.2.2.2.2.2⟩
theorem IGd.fr {c : Nat} {S S' : ZS} (h : IGd c S) (e : S' 2 = S 2) (e4 : S' 22 4 = S 22 4) (e5 : S' 22 5 = S 22 5) (e6 : S' 22 6 = S 22 6) (e7 : S' 22 7 = S 22 7) (e8 : S' 22 8 = S 22 8) (e9 : S' 22 9 = S 22 9) : IGd c S' := by
  intro g hg
  have := h g hg
  rw [e, e4, e5, e6, e7, e8, e9]
  exact this
theorem IPp.fr {c : Nat} {S S' : ZS} (h : IPp c S) (e0 : S' 7 0 7 = S 7 0 7) (e1 : S' 7 0 9 = S 7 0 9) (e : S' 3 = S 3) (e2 : S' 10 = S 10) (e3 : S' 23 = S 23) (e11 : S' 22 11 = S 22 11) (e12 : S' 22 12 = S 22 12) (e13 : S' 22 13 = S 22 13) (e14 : S' 22 14 = S 22 14) (e15 : S' 22 15 = S 22 15) (e16 : S' 22 16 = S 22 16) (e17 : S' 22 17 = S 22 17) (e18 : S' 22 18 = S 22 18) (e20 : S' 22 20 = S 22 20) : IPp c S' := by
  intro p hp
  have := h p hp
  simp only [IPp, IPd, IPf, nP, nS, e0, e1, e, e2, e3, e11, e12, e13, e14, e15, e16, e17, e18, e20] at this ⊢
  exact this
theorem IDp.fr {c : Nat} {S S' : ZS} (h : IDp c S) (e0 : S' 7 0 8 = S 7 0 8) (e : S' 0 = S 0) (e1 : S' 9 = S 9) (e2 : S' 22 26 = S 22 26) (e3 : S' 22 27 = S 22 27) : IDp c S' := by
  intro d hd
  have := h d hd
  simp only [IDp, IDd, nD, e0, e1, e, e2, e3] at this ⊢
  exact this
theorem IHp.fr {c : Nat} {S S' : ZS} (h : IHp c S) (e0 : S' 7 0 8 = S 7 0 8) (e1 : S' 7 0 9 = S 7 0 9) (e : S' 5 = S 5) (e6 : S' 6 = S 6) (e29 : S' 22 29 = S 22 29) (e30 : S' 22 30 = S 22 30) (e31 : S' 22 31 = S 22 31) (e32 : S' 22 32 = S 22 32) (e33 : S' 22 33 = S 22 33) (e34 : S' 22 34 = S 22 34) : IHp c S' := by
  unfold IHp IHs IHf nD nS at h ⊢
  rw [e0, e1, e, e6, e29, e30, e31, e32, e33, e34]
  exact h
theorem IFp.fr {S S' : ZS} (h : IFp S) (e0 : S' 7 0 8 = S 7 0 8) (e1 : S' 7 0 10 = S 7 0 10) (e : S' 1 = S 1) (e36 : S' 22 36 = S 22 36) (e37 : S' 22 37 = S 22 37) (e38 : S' 22 38 = S 22 38) (e39 : S' 22 39 = S 22 39) (e40 : S' 22 40 = S 22 40) : IFp S' := by
  unfold IFp nD nF at h ⊢
  rw [e0, e1, e, e36, e37, e38, e39, e40]
  exact h
theorem zss_fr {S S' : ZS} (e1 : S' 11 = S 11) (e2 : S' 12 = S 12) (e3 : S' 13 = S 13) (e4 : S' 14 = S 14) (m p g : Int32) : ∀ n, zss S' m p g n = zss S m p g n
  | 0 => rfl
  | n + 1 => by
    rw [zss, zss, zss_fr e1 e2 e3 e4 m p g n, e1, e2, e3, e4]
theorem zsl_fr {S S' : ZS} (e1 : S' 22 22 = S 22 22) (e2 : S' 22 23 = S 22 23) (e3 : S' 22 24 = S 22 24) (p g : Int32) : ∀ n, zsl S' p g n = zsl S p g n
  | 0 => rfl
  | n + 1 => by
    rw [zsl, zsl, zsl_fr e1 e2 e3 p g n, e1, e2, e3]
theorem ILp.fr {c : Nat} {S S' : ZS} (h : ILp c S) (e : S' 4 0 4 = S 4 0 4) (e0 : S' 8 0 21 = S 8 0 21) (em : S' 7 0 13 = S 7 0 13) (e1 : S' 11 = S 11) (e2 : S' 12 = S 12) (e3 : S' 13 = S 13) (e4 : S' 14 = S 14) (e5 : S' 22 22 = S 22 22) (e6 : S' 22 23 = S 22 23) (e7 : S' 22 24 = S 22 24) : ILp c S' := by
  obtain ⟨n, m, h1, h2, h3, h4, h5, h6, h7⟩ := h
  refine ⟨n, m, h1, h2, e.trans h3, e0.trans h4, ?_, ?_, by rw [e7]; exact h7⟩
  · rw [e1, em]
    exact h5
  · intro p g
    rw [zss_fr e1 e2 e3 e4, zsl_fr e5 e6 e7, em]
    exact h6 p g
theorem ISc.fr {S S' : ZS} (h : ISc S) (e7 : S' 7 0 = S 7 0) (e8 : ∀ f, f < 46 → S' 8 0 f = S 8 0 f) : ISc S' := by
  unfold ISc nP nD nS nF at h ⊢
  rw [e7, e8 10 (by decide), e8 25 (by decide), e8 28 (by decide), e8 35 (by decide), e8 0 (by decide), e8 1 (by decide), e8 2 (by decide), e8 3 (by decide), e8 41 (by decide), e8 42 (by decide), e8 43 (by decide), e8 44 (by decide)]
  exact h
theorem zup_ne (S : ZS) (k i f : Nat) (v : Int32) (f' : Nat) (h : f' ≠ f) : zup S k i f v k i f' = S k i f' := if_neg (fun h' => h h'.2.2)
/-- refused, and nothing changed -/
theorem Inv.thrown {c : Nat} {S : ZS} (h : Inv c S) (v : Int32) : Inv (c + 1) (zup S 8 0 46 v) := by
  obtain ⟨h1, h2, h3, h4, h5, h6, h7, h8⟩ := h.up
  exact ⟨h1.fr rfl (fun f hf => zup_ne _ _ _ _ _ _ (by omega)), h2.fr rfl rfl rfl rfl rfl rfl rfl, h3.fr rfl rfl rfl rfl rfl rfl rfl rfl rfl rfl rfl rfl rfl rfl, h4.fr rfl rfl rfl rfl rfl, h5.fr rfl rfl rfl rfl rfl rfl rfl rfl rfl rfl, h6.fr rfl rfl rfl rfl rfl rfl rfl rfl, h7.fr rfl rfl rfl rfl rfl rfl rfl rfl rfl rfl, h8⟩
theorem LQm_ref {c : Nat} {S : ZS} (h : Inv c S) {v x : Int32} (hv : ¬ v = 0) : LQm v c (.inl (some (.inl x))) (zup S 8 0 46 v) :=
  LQm_i.mpr ⟨zup_at _ _ _ _ _, fun h => absurd h hv, h.thrown v⟩
/-- answered, and nothing changed -/
theorem LQm_ans {c : Nat} {S : ZS} (h : Inv c S) {x : Int32} : LQm 0 c (.inl (some (.inl x))) (zup (zup S 24 0 0 x) 8 0 46 0) := by
  refine LQm_i.mpr ⟨zup_at _ _ _ _ _, fun _ => ?_, ?_⟩
  · exact zup_at S 24 0 0 x
  obtain ⟨h1, h2, h3, h4, h5, h6, h7, h8⟩ := h.up
  exact ⟨h1.fr rfl (fun f hf => zup_ne _ _ _ _ _ _ (by omega)), h2.fr rfl rfl rfl rfl rfl rfl rfl, h3.fr rfl rfl rfl rfl rfl rfl rfl rfl rfl rfl rfl rfl rfl rfl, h4.fr rfl rfl rfl rfl rfl, h5.fr rfl rfl rfl rfl rfl rfl rfl rfl rfl rfl, h6.fr rfl rfl rfl rfl rfl rfl rfl rfl, h7.fr rfl rfl rfl rfl rfl rfl rfl rfl rfl rfl, h8⟩
-- loops
theorem z_loop_n {body : ZP → ZP} {K : ZK} : ∀ (N : Nat) (Lf : Nat → List (Option ZV)) (Sf : Nat → ZS), (∀ i, i < N → ∀ k : ZP, k (Lf (i + 1)) [] (Sf (i + 1)) K → body k (Lf i) [] (Sf i) K) → (∀ k, body k (Lf N) [] (Sf N) K) → z_loop body (Lf 0) [] (Sf 0) K := by
  intro N Lf Sf h1 h2
  have key : ∀ j i, i + j = N → z_iter body (j + 1) (Lf i) [] (Sf i) K := by
    intro j
    induction j with
    | zero =>
      intro i hi
      cases (show i = N by omega)
      exact h2 _
    | succ j ih =>
      intro i hi
      exact h1 i (by omega) _ (ih (i + 1) (by omega))
  exact ⟨N + 1, key N 0 (by omega)⟩
