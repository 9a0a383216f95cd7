set_option maxRecDepth 20000 in
theorem p_X4_note {S : ZS} {K : ZK} {n : Nat} (h9 : S 4 0 4 = nI n) (hn : n < 512) (m p g d : Int32) (hK : K (.inl none) (zup (zup (zup (zup (zup S 11 0 n m) 12 0 n p) 13 0 n g) 14 0 n d) 4 0 4 (nI (n + 1)))) : sp_X4_note [zr 4 0, zi m, zi p, zi g, zi d] S K := by
  have e1 : nI n + 1 = nI (n + 1) := nI_add n 1
  have e2 : nI n < 512 := nI_lt (b := 512) hn (by decide)
  simp [zb_X4_note_0, sp_X4_note, zsp, zin, znth, ztake, zset, zcont, zcontH, zf_0_0, zf_0_2, zf_1_0, zf_1_1, zf_1_2, zf_1_3, zf_1_4, zf_2_0, zf_2_1, zf_2_2, zf_2_3, zf_2_4, zf_3_0, zf_3_1, zf_3_2, zf_3_3, zf_3_4, zf_3_5, zf_3_6, zf_3_7, zf_3_8, zf_3_9, zf_3_10, zf_4_0, zf_4_1, zf_4_2, zf_4_3, zf_4_4, zf_5_0, zf_5_1, zf_5_2, zf_5_3, zf_5_4, zf_5_5, zf_6_0, zf_6_1, zf_6_2, zf_7_0, zf_7_1, zf_7_2, zf_7_3, zf_7_4, zf_7_5, zf_7_6, zf_7_7, zf_7_8, zf_7_9, zf_7_10, zf_7_11, zf_7_12, zf_7_13, zf_7_14, zf_7_15, zf_7_16, zf_7_17, zf_7_18, zln_9, zln_10, zln_15, zln_16, zln_17, zln_18, zln_19, zln_20, zln_21, zln_11, zln_12, zln_13, zln_14, zchild, zcnt, zc1b, zble, zbeq, z_push, z_ild, z_ald, z_ist, z_ast, z_inc, z_bin, z_dvn, z_un, z_dup, z_dup2, z_pop, z_if, z_cmp, z_ifnull, z_pnull, z_acn, z_gf, z_gfn, z_pf, z_pfz, z_pfr, z_iald, z_iast, z_aald, z_alen, z_ret, z_invV, z_invS, z_invH, z_throw, z_sw, zup_r, h9, e2, vp_in_nI hn (show 512 < 2147483648 by decide), nI_clamp (show n < 2 ^ 31 by omega), e1]
  exact hK
theorem zss_s {S S' : ZS} {n : Nat} (e1 : ∀ i, i < n → S' 11 0 i = S 11 0 i) (e2 : ∀ i, i < n → S' 12 0 i = S 12 0 i) (e3 : ∀ i, i < n → S' 13 0 i = S 13 0 i) (e4 : ∀ i, i < n → S' 14 0 i = S 14 0 i) (m p g : Int32) : ∀ k, k ≤ n → zss S' m p g k = zss S m p g k
  | 0, _ => rfl
  | k + 1, hk => by
    rw [zss, zss, zss_s e1 e2 e3 e4 m p g k (by omega), e1 k hk, e2 k hk, e3 k hk, e4 k hk]
theorem zpl_ge (st he x : Int32) : ¬ zpl st he x < 0 := by
  unfold zpl
  split
  · unfold zm0
    split
    · decide
    · assumption
  · decide
theorem zcost {p d : Int32} (hp : zbt p 1 24) (hd : zbt d 1 9999) (h : d - d / 100 * 100 = 0) : p * d / 100 = p * (d / 100) := by
  obtain ⟨p1, p2⟩ := zbt_i (lo := 1) (hi := 24) (by decide) (by decide) hp
  obtain ⟨d1, d2⟩ := zgr9 hd
  have e100 : (100 : Int32).toInt = 100 := by decide
  have q1 := zdiv_i (a := d) (b := 100) (by omega) (by omega)
  rw [e100] at q1
  have q2 := zmul_i (a := d / 100) (b := 100) (by rw [e100]; omega) (by rw [e100]; omega)
  rw [e100] at q2
  have q3 := zsub_i (a := d) (b := d / 100 * 100) (by omega) (by omega)
  rw [h, zti0, q2, q1] at q3
  have m1 : 0 ≤ p.toInt * d.toInt := Int.mul_nonneg (by omega) (by omega)
  have m2 : p.toInt * d.toInt ≤ 24 * 9999 := Int.mul_le_mul p2 d2 (by omega) (by decide)
  have q4 := zmul_i (a := p) (b := d) (by omega) (by omega)
  have q5 := zdiv_i (a := p * d) (b := 100) (by omega) (by omega)
  rw [q4, e100] at q5
  have m3 : 0 ≤ p.toInt * (d.toInt / 100) := Int.mul_nonneg (by omega) (by omega)
  have m4 : p.toInt * (d.toInt / 100) ≤ 24 * 9999 := Int.mul_le_mul p2 (by omega) (by omega) (by decide)
  have q6 := zmul_i (a := p) (b := d / 100) (by rw [q1]; omega) (by rw [q1]; omega)
  rw [q1] at q6
  rw [zeq_iff, q5, q6]
  have m5 : d.toInt = 100 * (d.toInt / 100) := by omega
  have m6 : p.toInt * d.toInt = 100 * (p.toInt * (d.toInt / 100)) := by
    conv => lhs; rw [m5]
    rw [Int.mul_left_comm]
  rw [m6]
  omega
