/-! THE LAW'S OWN METHODS -/
theorem zP2 {sp : ZSp} {kk : ZP} {L : List (Option ZV)} {st : List ZV} {S : ZS} {K : ZK} {x : Int32} {a b : ZV} (hc : (zc1b a && zc1b b) = true) (hst : Nat.ble st.length 4 = true) (h : sp [a, b] S (zR (fun v S' => v = x ∧ S' = S))) (hk : kk L (zi x :: st) S K) : z_invSq 2 sp kk L (b :: a :: st) S K := zI2 hc hst h (fun v S' q => by rw [q.1, q.2]; exact hk)
/-- cell: some number, nothing changed -/
theorem zC2 {sp : ZSp} {kk : ZP} {L : List (Option ZV)} {st : List ZV} {S : ZS} {K : ZK} {a b : ZV} (hc : (zc1b a && zc1b b) = true) (hst : Nat.ble st.length 4 = true) (h : sp [a, b] S (zR (fun _ S' => S' = S))) (hk : ∀ x, kk L (zi x :: st) S K) : z_invSq 2 sp kk L (b :: a :: st) S K := zI2 hc hst h (fun v S' q => by rw [q]; exact hk v)
theorem zQ1 {sp : ZSp} {kk : ZP} {L : List (Option ZV)} {st : List ZV} {S : ZS} {K : ZK} {x : Int32} {a : Int32} (hst : Nat.ble st.length 4 = true) (h : sp [zr 7 0, zi a] S (zR (fun v S' => v = x ∧ S' = S))) (hk : kk L (zi x :: st) S K) : z_invVq 7 1 sp kk L (zi a :: zr 7 0 :: st) S K := zV1 hst h (fun v S' q => by rw [q.1, q.2]; exact hk)
theorem zQ2 {sp : ZSp} {kk : ZP} {L : List (Option ZV)} {st : List ZV} {S : ZS} {K : ZK} {x : Int32} {a b : Int32} (hst : Nat.ble st.length 4 = true) (h : sp [zr 7 0, zi a, zi b] S (zR (fun v S' => v = x ∧ S' = S))) (hk : kk L (zi x :: st) S K) : z_invVq 7 2 sp kk L (zi b :: zi a :: zr 7 0 :: st) S K := zV2 hst h (fun v S' q => by rw [q.1, q.2]; exact hk)
theorem zQ3 {sp : ZSp} {kk : ZP} {L : List (Option ZV)} {st : List ZV} {S : ZS} {K : ZK} {x : Int32} {a b d : Int32} (hst : Nat.ble st.length 4 = true) (h : sp [zr 7 0, zi a, zi b, zi d] S (zR (fun v S' => v = x ∧ S' = S))) (hk : kk L (zi x :: st) S K) : z_invVq 7 3 sp kk L (zi d :: zi b :: zi a :: zr 7 0 :: st) S K := zV3 hst h (fun v S' q => by rw [q.1, q.2]; exact hk)
theorem zQ4 {sp : ZSp} {kk : ZP} {L : List (Option ZV)} {st : List ZV} {S : ZS} {K : ZK} {x : Int32} {a b d e : Int32} (hst : Nat.ble st.length 4 = true) (h : sp [zr 7 0, zi a, zi b, zi d, zi e] S (zR (fun v S' => v = x ∧ S' = S))) (hk : kk L (zi x :: st) S K) : z_invVq 7 4 sp kk L (zi e :: zi d :: zi b :: zi a :: zr 7 0 :: st) S K := zV4 hst h (fun v S' q => by rw [q.1, q.2]; exact hk)
theorem zJ3 {sp : ZSp} {kk : ZP} {L : List (Option ZV)} {st : List ZV} {S : ZS} {K : ZK} {x a b : Int32} (hst : Nat.ble st.length 4 = true) (h : sp [zr 7 0, zi a, zi b] S (zR (fun v S' => v = x ∧ S' = S))) (hk : kk L (zi x :: st) S K) : z_invSq 3 sp kk L (zi b :: zi a :: zr 7 0 :: st) S K := zI3 hst h (fun v S' q => by rw [q.1, q.2]; exact hk)
theorem q_cell {S : ZS} {k : Nat} (hk : k < 1000) : sp_L_cell [zr 23 0, zi (nI k)] S (zR (fun _ S' => S' = S)) := by
  refine ⟨Nat.le_of_ble_eq_true rfl, ?_⟩
  show zb_L_cell_0 [some (zr 23 0), some (zi (nI k))] [] S _
  rw [ze_L_cell_0]
  refine ⟨fun _ => ?_, fun h => ⟨?_, ?_⟩⟩
  · rw [ze_L_cell_20]
    exact zR_i.mpr rfl
  · have h1 : (S 23 0 1000).toNatClampNeg < 2 ^ 31 := zn_lt _
    rw [nI_leI h1 (by omega)] at h
    exact vp_in_nI (by omega) h1
  · rw [ze_L_cell_20]
    exact zR_i.mpr rfl
/-- what low answers -/
def zlw (x : Int32) (n : Nat) : Nat := x.toBitVec.toNat % 2 ^ 31 % n
theorem zlw_lt (x : Int32) {n : Nat} (h : 0 < n) : zlw x n < n := Nat.mod_lt _ h
theorem q_low {S : ZS} (x : Int32) {n : Nat} (h0 : 0 < n) (hn : n < 10000) : sp_L_low [zi x, zi (nI n)] S (zR (fun v S' => v = nI (zlw x n) ∧ S' = S)) := by
  refine ⟨Nat.le_of_ble_eq_true rfl, ?_⟩
  show zb_L_low_0 [some (zi x), some (zi (nI n))] [] S _
  rw [ze_L_low_0]
  refine ⟨fun e => ?_, ?_⟩
  · rw [zeq_iff, zti_nI (by omega), zti0] at e
    omega
  · rw [pk_and x (m := 2147483647) 31 (by decide), pk_rem (Nat.mod_lt _ (by decide)) h0 (by omega)]
    exact zR_i.mpr ⟨rfl, rfl⟩
/-- between 1 and what is asked, and a half thousand more -/
theorem zbt_1 {k n : Nat} (h1 : 1 ≤ k) (h2 : k ≤ n) (hn : n < 100000) : zbt (nI k) 1 (nI n) := by
  have e1 : (1 : Int32).toInt = 1 := by decide
  refine ⟨?_, ?_⟩
  · rw [zle_iff, zti_nI (by omega), e1]
    omega
  · rw [zle_iff, zti_nI (by omega), zti_nI (by omega)]
    omega
theorem zbt_0 {k n : Nat} (h2 : k ≤ n) (hn : n < 100000) : zbt (nI k) 0 (nI n) := by
  refine ⟨?_, ?_⟩
  · rw [zle_iff, zti_nI (by omega), zti0]
    omega
  · rw [zle_iff, zti_nI (by omega), zti_nI (by omega)]
    omega
theorem zone : ((1 : Int32) &&& 1) = 1 := by decide
theorem znn0 {x : Int32} {n : Nat} (h : zrg x n) : ¬ x < 0 := by
  rw [zlt_iff, zti0]
  have := h.1
  omega
theorem zgt0 {x : Int32} {n : Nat} (h : zrg x n) : 0 < x ↔ ¬ x = 0 := by
  rw [zlt_iff, zeq_iff, zti0]
  have := h.1
  omega
/-- how many of the first are alive -/
def zal (S : ZS) (i : Nat) : Int32 := zsu (fun p => if 0 < S 3 p 4 then 1 else 0) i
theorem zal_s (S : ZS) (i : Nat) : zal S i + (1 - (if 0 < S 3 i 4 then 0 else 1)) = zal S (i + 1) := by
  show _ = zal S i + (if 0 < S 3 i 4 then 1 else 0)
  congr 1
  by_cases h : 0 < S 3 i 4
  · rw [if_pos h, if_pos h]
    decide
  · rw [if_neg h, if_neg h]
    decide
theorem nIs (i : Nat) : nI i + 1 = nI (i + 1) := nI_add i 1
set_option maxRecDepth 20000 in
set_option maxHeartbeats 8000000 in
theorem q_agrees {c : Nat} {S : ZS} (h : J c S) (hc : c ≤ 500) (hS : nS S = 2) {n : Nat} (hn : nP S = n) : sp_L_agrees [zr 7 0, zi (nI n), zi 2] S (zR (fun v S' => v = 1 ∧ S' = S)) := by
  have q2 := h.1.1.2
  refine ⟨Nat.le_of_ble_eq_true rfl, ?_⟩
  show zb_L_agrees_0 [some (zr 7 0), some (zi (nI n)), some (zi 2), none, none, none, none, none, none] [] S _
  rw [ze_L_agrees_0]
  refine zQ1 rfl (q_su1 h) ?_
  rw [ze_L_agrees_5]
  refine zQ1 rfl (q_su2 h) ?_
  rw [ze_L_agrees_10]
  refine zQ1 rfl (q_su3 h) ?_
  rw [ze_L_agrees_15]
  refine zQ1 rfl (q_su4 h) ?_
  rw [ze_L_agrees_21]
  refine zQ1 rfl (q_su5 h) ?_
  rw [ze_L_agrees_27]
  refine zQ1 rfl (q_su6 h) ?_
  rw [ze_L_agrees_34]
  refine ⟨fun _ => ?_, fun hne => absurd h.2.2.2.2.2.2.2 hne⟩
  rw [ze_L_agrees_43]
  refine z_loop_P (m := n) (fun m L T => T = S ∧ ∃ (i : Nat) (u6 u7 u8 : Option ZV), i + m = n ∧ L = [some (zr 7 0), some (zi (nI n)), some (zi 2), some (zi 1), some (zi (zal S i)), some (zi (nI i)), u6, u7, u8]) ?_ ⟨rfl, 0, none, none, none, Nat.zero_add n, rfl⟩
  rintro m L T ⟨hT, i, u6, u7, u8, hi, rfl⟩ k hk
  rw [hT]
  rw [ze_L_agrees_50]
  refine ⟨fun hle => ?_, fun hle => ?_⟩
  · rw [nI_leI (by omega) (by omega)] at hle
    have e : i = n := by omega
    subst e
    refine z_loop_P (m := 6) (fun m L T => T = S ∧ ∃ (g : Nat) (u7 u8 : Option ZV), g + m = 6 ∧ L = [some (zr 7 0), some (zi (nI i)), some (zi 2), some (zi 1), some (zi (zal S i)), some (zi (zsu (fun g => zsu (fun s => S 5 (6 * s + g) 0) (nS S)) g)), some (zi (nI g)), u7, u8]) ?_ ⟨rfl, 0, u7, u8, rfl, rfl⟩
    rintro m2 L2 T2 ⟨hT2, g, v7, v8, hg, rfl⟩ k2 hk2
    rw [hT2]
    rw [ze_L_agrees_213]
    refine ⟨fun hle2 => ⟨fun e => absurd e (by decide), fun _ => ?_⟩, fun hle2 => ?_⟩
    · have hle2 : nI 6 ≤ nI g := hle2
      rw [nI_leI (by omega) (by omega)] at hle2
      have e : g = 6 := by omega
      subst e
      refine zQ1 rfl (q_su7 h) ?_
      rw [ze_L_agrees_329]
      refine ⟨fun _ => ?_, fun hne => absurd (by rw [hn]; rfl) hne⟩
      refine zQ1 rfl (q_su3 h) ?_
      rw [ze_L_agrees_339]
      refine ⟨fun _ => ?_, fun hne => absurd rfl hne⟩
      rw [ze_L_agrees_347]
      exact ⟨Or.inr rfl, zR_i.mpr ⟨rfl, rfl⟩⟩
    · have hle2 : ¬ nI 6 ≤ nI g := hle2
      rw [nI_leI (by omega) (by omega)] at hle2
      refine z_loop_P (m := 2) (fun m L T => T = S ∧ ∃ (j : Nat), j + m = 2 ∧ L = [some (zr 7 0), some (zi (nI i)), some (zi 2), some (zi 1), some (zi (zal S i)), some (zi (zsu (fun g => zsu (fun s => S 5 (6 * s + g) 0) (nS S)) g)), some (zi (nI g)), some (zi (zsu (fun s => S 5 (6 * s + g) 0) j)), some (zi (nI j))]) ?_ ⟨rfl, 0, rfl, rfl⟩
      rintro m3 L3 T3 ⟨hT3, j, hj, rfl⟩ k3 hk3
      rw [hT3]
      rw [ze_L_agrees_226]
      refine ⟨fun hle3 => ?_, fun hle3 => ?_⟩
      · have hle3 : nI 2 ≤ nI j := hle3
        rw [nI_leI (by omega) (by omega)] at hle3
        have e : j = 2 := by omega
        subst e
        refine zQ2 rfl (q_go4 h (b := g) (by omega)) ?_
        rw [ze_L_agrees_294]
        refine ⟨fun _ => ?_, fun hne => absurd (by rw [hS]) hne⟩
        rw [ze_L_agrees_302, zone, nIs]
        refine hk2 (m2 - 1) (by omega) _ _ ⟨rfl, g + 1, some (zi (zsu (fun s => S 5 (6 * s + g) 0) 2)), some (zi 2), by omega, ?_⟩
        rw [show zsu (fun g => zsu (fun s => S 5 (6 * s + g) 0) (nS S)) (g + 1) = zsu (fun g => zsu (fun s => S 5 (6 * s + g) 0) (nS S)) g + zsu (fun s => S 5 (6 * s + g) 0) (nS S) from rfl, hS]
        rfl
      · have hle3 : ¬ nI 2 ≤ nI j := hle3
        rw [nI_leI (by omega) (by omega)] at hle3
        have hsh := h.2.2.2.2.1.2 (6 * j + g) (by omega)
        refine zQ3 rfl (q_sh0 h (a := j) (b := g) (by omega) (by omega)) ?_
        rw [ze_L_agrees_243]
        refine zQ3 rfl (q_sh3 h (a := j) (b := g) (by omega) (by omega)) ?_
        rw [ze_L_agrees_256]
        refine ⟨fun hlt => absurd hlt (znn0 hsh.2.2.2.1), fun _ => ?_⟩
        refine zQ3 rfl (q_sh4 h (a := j) (b := g) (by omega) (by omega)) ?_
        rw [ze_L_agrees_268]
        refine ⟨fun hlt => absurd hlt (znn0 hsh.2.2.2.2), fun _ => ?_⟩
        rw [ze_L_agrees_276, zone, nIs]
        exact hk3 (m3 - 1) (by omega) _ _ ⟨rfl, j + 1, by omega, rfl⟩
  · rw [nI_leI (by omega) (by omega)] at hle
    have hi2 : i < nP S := by omega
    have hq := h.2.2.1 i hi2
    refine zQ2 rfl (q_pe6 h hi2) ?_
    rw [ze_L_agrees_67, zal_s]
    refine zQ2 rfl (q_pe2 h hi2) ?_
    rw [ze_L_agrees_79]
    have e100 : (100 : Int32).toInt = 100 := by decide
    refine ⟨fun hlt => absurd hlt (by rw [zlt_iff, e100]; have := hq.2.2.2.1.2; omega), fun _ => ?_⟩
    refine zQ2 rfl (q_pe2 h hi2) ?_
    rw [ze_L_agrees_91]
    have h99 : ∀ z : Int32, (z = if 0 < S 3 i 4 then 0 else 1) → zb_L_agrees_99 k [some (zr 7 0), some (zi (nI n)), some (zi 2), some (zi 1), some (zi (zal S (i + 1))), some (zi (nI i)), u6, u7, u8] [zi z, zi 1] S (zR (fun v S' => v = 1 ∧ S' = S)) := by
      intro z hz
      rw [ze_L_agrees_99]
      refine zQ2 rfl (q_pe6 h hi2) ?_
      have h116 : zb_L_agrees_116 k [some (zr 7 0), some (zi (nI n)), some (zi 2), some (zi 1), some (zi (zal S (i + 1))), some (zi (nI i)), u6, u7, u8] [zi z, zi z, zi 1] S (zR (fun v S' => v = 1 ∧ S' = S)) := by
        rw [ze_L_agrees_116]
        refine ⟨fun _ => ?_, fun hne => absurd rfl hne⟩
        refine zQ2 rfl (q_pe4 h hi2) ?_
        rw [ze_L_agrees_126]
        refine ⟨fun hlt => absurd hlt (zpl_ge _ _ _), fun _ => ?_⟩
        rw [ze_L_agrees_134, zone]
        refine z_loop_P (m := 6) (fun m L T => T = S ∧ ∃ (g : Nat), g + m = 6 ∧ L = [some (zr 7 0), some (zi (nI n)), some (zi 2), some (zi 1), some (zi (zal S (i + 1))), some (zi (nI i)), some (zi (nI g)), u7, u8]) ?_ ⟨rfl, 0, rfl, rfl⟩
        rintro m2 L2 T2 ⟨hT2, g, hg, rfl⟩ k2 hk2
        rw [hT2]
        rw [ze_L_agrees_139]
        refine ⟨fun hle2 => ?_, fun hle2 => ?_⟩
        · rw [nIs]
          exact hk (m - 1) (by omega) _ _ ⟨rfl, i + 1, _, _, _, by omega, rfl⟩
        · have hle2 : ¬ nI 6 ≤ nI g := hle2
          rw [nI_leI (by omega) (by omega)] at hle2
          refine zQ2 rfl (q_left h hi2 (b := g) (by omega)) ?_
          rw [ze_L_agrees_155]
          refine zQ2 rfl (q_anew (by omega) h hi2 (b := g) (by omega)) ?_
          rw [ze_L_agrees_163]
          refine ⟨fun _ => ?_, fun hne => absurd rfl hne⟩
          refine zQ2 rfl (q_pe6 h hi2) ?_
          have h188 : zb_L_agrees_188 k k2 [some (zr 7 0), some (zi (nI n)), some (zi 2), some (zi 1), some (zi (zal S (i + 1))), some (zi (nI i)), some (zi (nI g)), u7, u8] [zi 1] S (zR (fun v S' => v = 1 ∧ S' = S)) := by
            rw [ze_L_agrees_188, ze_L_agrees_193, zone, nIs]
            exact hk2 (m2 - 1) (by omega) _ _ ⟨rfl, g + 1, by omega, rfl⟩
          rw [ze_L_agrees_174]
          refine ⟨fun _ => h188, fun hd => ?_⟩
          have hdead : ¬ 0 < S 3 i 4 := fun hl => hd (if_pos hl)
          refine zQ2 rfl (q_left h hi2 (b := g) (by omega)) ?_
          rw [ze_L_agrees_185]
          refine ⟨fun _ => h188, fun hne => absurd ?_ hne⟩
          unfold zlt1 zgl
          rw [if_neg (fun hq => hdead hq.2.2)]
      rw [ze_L_agrees_107]
      by_cases hl : 0 < S 3 i 4
      · rw [if_pos hl] at hz ⊢
        subst hz
        exact ⟨fun e => absurd e (by decide), fun _ => h116⟩
      · rw [if_neg hl] at hz ⊢
        subst hz
        exact ⟨fun _ => h116, fun hne => absurd rfl hne⟩
    refine ⟨fun e => h99 1 ?_, fun e => h99 0 ?_⟩
    · rw [if_neg (fun hl => (zgt0 hq.2.2.2.1).mp hl e)]
    · rw [if_pos ((zgt0 hq.2.2.2.1).mpr e)]
